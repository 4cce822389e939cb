/-! ===== the pure machine behind the constructors: 86 cells ===== -/
def k_st : q_K := [(7, 0), (4, 0), (9, 160), (5, 0), (9, 16), (9, 16), (9, 12), (9, 4), (5, 0), (9, 16), (9, 16), (9, 12), (9, 4), (0, 0), (9, 16), (9, 16), (9, 16), (9, 12), (1, 0), (11, 6), (0, 0), (9, 16), (9, 16), (9, 16), (9, 12), (0, 0), (9, 16), (9, 16), (9, 16), (9, 12), (0, 0), (9, 16), (9, 16), (9, 16), (9, 12), (0, 0), (9, 16), (9, 16), (9, 16), (9, 12), (0, 0), (9, 16), (9, 16), (9, 16), (9, 12), (0, 0), (9, 16), (9, 16), (9, 16), (9, 12), (3, 0), (9, 4), (9, 4), (9, 20), (2, 0), (9, 3), (9, 12), (6, 0), (9, 8), (10, 8), (11, 2), (9, 4), (0, 0), (9, 16), (9, 16), (9, 16), (9, 12), (0, 0), (9, 16), (9, 16), (9, 16), (9, 12), (8, 0), (9, 49), (9, 49), (9, 61), (9, 366), (9, 122), (10, 2), (9, 12), (9, 12), (9, 32), (9, 8), (9, 8), (9, 8), (9, 160)]
def p_tab : List (List (Option Nat)) := [[some 1, some 3, some 8, some 13, some 18, some 50, some 54, some 57, some 60, none, some 61], [some 2], [], [some 4, some 5, some 6, some 7], [], [], [], [], [some 9, some 10, some 11, some 12], [], [], [], [], [none, some 14, some 15, some 16, some 17], [], [], [], [], [some 19], [some 20, some 25, some 30, some 35, some 40, some 45], [none, some 21, some 22, some 23, some 24], [], [], [], [], [none, some 26, some 27, some 28, some 29], [], [], [], [], [none, some 31, some 32, some 33, some 34], [], [], [], [], [none, some 36, some 37, some 38, some 39], [], [], [], [], [none, some 41, some 42, some 43, some 44], [], [], [], [], [none, some 46, some 47, some 48, some 49], [], [], [], [], [some 51, some 52, some 53], [], [], [], [some 55, some 56], [], [], [some 58, some 59], [], [], [some 62, some 67], [], [none, some 63, some 64, some 65, some 66], [], [], [], [], [none, some 68, some 69, some 70, some 71], [], [], [], [], [some 73, some 74, some 75, some 76, none, some 77, some 78, some 79, some 80, some 81, none, some 82, some 83, some 84, some 85], [], [], [], [], [], [], [], [], [], [], [], [], []]
/-- the references: t is told, u toldNext -/
def p_st (t u a i : Nat) : Option Nat := if a = 0 ∧ i = 1 then some t else if a = 0 ∧ i = 2 then some u else (p_tab.getD a []).getD i none
def q_w (t u : Nat) (F : Nat → Nat → Int32) (J : Nat → Int64) : q_M := (k_st, F, p_st t u, J)
/-- Done objects, Told objects -/
def q_isD (a : Nat) : Bool := ([13, 20, 25, 30, 35, 40, 45, 62, 67] : List Nat).contains a
def q_isT (a : Nat) : Bool := ([3, 8] : List Nat).contains a
/-- the length of an int array, of a boolean array -/
def k_l9 (a : Nat) : Nat := match k_st[a]? with
  | some (9, n) => n
  | _ => 0
def k_l10 (a : Nat) : Nat := match k_st[a]? with
  | some (10, n) => n
  | _ => 0
theorem k_9 {a i : Nat} (h : i < k_l9 a) : ∃ n, k_st[a]? = some (9, n) ∧ i < n := by
  unfold k_l9 at h
  split at h
  · rename_i n hn
    exact ⟨n, hn, h⟩
  · omega
theorem k_10 {a i : Nat} (h : i < k_l10 a) : ∃ n, k_st[a]? = some (10, n) ∧ i < n := by
  unfold k_l10 at h
  split at h
  · rename_i n hn
    exact ⟨n, hn, h⟩
  · omega
theorem k_small {a k n : Nat} (h : k_st[a]? = some (k, n)) : n ≤ 366 := by
  have h1 : k_st.all (fun x => decide (x.2 ≤ 366)) = true := by decide +kernel
  exact of_decide_eq_true (List.all_eq_true.mp h1 _ (List.mem_of_getElem? h))
theorem q_inb_nI {i n : Nat} (h : i < n) (hn : n ≤ 100000) : q_inb (nI i) n = true := by
  unfold q_inb
  simp only [Bool.and_eq_true, decide_eq_true_eq]
  exact ⟨nI_pos (by omega), by rw [nI_clamp (by omega)]; exact h⟩
theorem isD_cases {a : Nat} (h : q_isD a = true) : a = 13 ∨ a = 20 ∨ a = 25 ∨ a = 30 ∨ a = 35 ∨ a = 40 ∨ a = 45 ∨ a = 62 ∨ a = 67 := by
  simpa [q_isD] using h
theorem isT_cases {a : Nat} (h : q_isT a = true) : a = 3 ∨ a = 8 := by
  simpa [q_isT] using h
section GX
variable {X : Nat × (Nat → Int32)} {M pc n g t u : Nat} {pl : List Nat} {L S : List Value} {w : q_M} {F : Nat → Nat → Int32} {J : Nat → Int64}
theorem g_nxt {i : Instr} (hat : q_at M pc = some (i, n, g, pl)) : q_nxt X (M, pc, L, S, w) = q_ins X M pc L S w i n g pl := by
  unfold q_nxt
  dsimp only
  rw [hat]
theorem g_go {i : Instr} {σ : q_S} (hat : q_at M pc = some (i, n, g, pl)) (h : q_ins X M pc L S w i n g pl = some (.inr (.inl σ))) : q_ex X (M, pc, L, S, w) = q_ex X σ := q_ex_go ((g_nxt hat).trans h)
theorem g_c1 {i : Instr} {x : Int32} {P : Int32 → Prop} (dP : ∀ x, Decidable (P x)) (hat : q_at M pc = some (i, n, g, pl)) (h : q_ins X M pc L (.int x :: S) w i n g pl = q_c1 M (pc + n) g L (.int x :: S) w (fun x => decide (P x))) : q_ex X (M, pc, L, .int x :: S, w) = if P x then q_ex X (M, g, L, S, w) else q_ex X (M, pc + n, L, S, w) := by
  unfold q_c1 at h
  dsimp only at h
  by_cases hp : P x
  · rw [if_pos hp]
    rw [if_pos (by simpa using hp)] at h
    exact q_ex_go ((g_nxt hat).trans h)
  · rw [if_neg hp]
    rw [if_neg (by simpa using hp)] at h
    exact q_ex_go ((g_nxt hat).trans h)
theorem g_c2 {i : Instr} {x y : Int32} {P : Int32 → Int32 → Prop} (dP : ∀ x y, Decidable (P x y)) (hat : q_at M pc = some (i, n, g, pl)) (h : q_ins X M pc L (.int y :: .int x :: S) w i n g pl = q_c2 M (pc + n) g L (.int y :: .int x :: S) w (fun x y => decide (P x y))) : q_ex X (M, pc, L, .int y :: .int x :: S, w) = if P x y then q_ex X (M, g, L, S, w) else q_ex X (M, pc + n, L, S, w) := by
  unfold q_c2 at h
  dsimp only at h
  by_cases hp : P x y
  · rw [if_pos hp]
    rw [if_pos (by simpa using hp)] at h
    exact q_ex_go ((g_nxt hat).trans h)
  · rw [if_neg hp]
    rw [if_neg (by simpa using hp)] at h
    exact q_ex_go ((g_nxt hat).trans h)
theorem g_idiv {x y : Int32} (hat : q_at M pc = some (.idiv, n, g, pl)) (hy : ¬ y = 0) : q_ex X (M, pc, L, .int y :: .int x :: S, w) = q_ex X (M, pc + n, L, .int (x / y) :: S, w) := by
  refine g_go hat ?_
  show (if y = 0 then none else _) = _
  rw [if_neg hy]
  rfl
theorem g_irem {x y : Int32} (hat : q_at M pc = some (.irem, n, g, pl)) (hy : ¬ y = 0) : q_ex X (M, pc, L, .int y :: .int x :: S, w) = q_ex X (M, pc + n, L, .int (x - x / y * y) :: S, w) := by
  refine g_go hat ?_
  show (if y = 0 then none else _) = _
  rw [if_neg hy]
  rfl
theorem g_iaload {a i : Nat} (hat : q_at M pc = some (.iaload, n, g, pl)) (hi : i < k_l9 a) : q_ex X (M, pc, L, .int (nI i) :: .ref a :: S, q_w t u F J) = q_ex X (M, pc + n, L, .int (F a i) :: S, q_w t u F J) := by
  obtain ⟨m, h1, h2⟩ := k_9 hi
  have h3 := k_small h1
  refine g_go hat ?_
  show q_ald X M (pc + n) L (.int (nI i) :: .ref a :: S) (q_w t u F J) 9 = _
  unfold q_ald q_w
  dsimp only
  rw [h1]
  dsimp only
  rw [if_pos ⟨rfl, q_inb_nI h2 (by omega)⟩, nI_clamp (by omega)]
  rfl
theorem g_baload {a i : Nat} (hat : q_at M pc = some (.baload, n, g, pl)) (hi : i < k_l10 a) : q_ex X (M, pc, L, .int (nI i) :: .ref a :: S, q_w t u F J) = q_ex X (M, pc + n, L, .int (F a i) :: S, q_w t u F J) := by
  obtain ⟨m, h1, h2⟩ := k_10 hi
  have h3 := k_small h1
  refine g_go hat ?_
  show q_ald X M (pc + n) L (.int (nI i) :: .ref a :: S) (q_w t u F J) 10 = _
  unfold q_ald q_w
  dsimp only
  rw [h1]
  dsimp only
  rw [if_pos ⟨rfl, q_inb_nI h2 (by omega)⟩, nI_clamp (by omega)]
  rfl
theorem g_iastore {a i : Nat} {v : Int32} (hat : q_at M pc = some (.iastore, n, g, pl)) (hi : i < k_l9 a) : q_ex X (M, pc, L, .int v :: .int (nI i) :: .ref a :: S, q_w t u F J) = q_ex X (M, pc + n, L, S, q_w t u (q_up F a i v) J) := by
  obtain ⟨m, h1, h2⟩ := k_9 hi
  have h3 := k_small h1
  refine g_go hat ?_
  show q_ast M (pc + n) L (.int v :: .int (nI i) :: .ref a :: S) (q_w t u F J) 9 = _
  unfold q_ast q_w
  dsimp only
  rw [h1]
  dsimp only
  rw [if_pos ⟨rfl, q_inb_nI h2 (by omega), Or.inl rfl⟩, nI_clamp (by omega)]
  rfl
theorem g_bastore {a i : Nat} {v : Int32} (hat : q_at M pc = some (.bastore, n, g, pl)) (hi : i < k_l10 a) (hv : v = nI 0 ∨ v = nI 1) : q_ex X (M, pc, L, .int v :: .int (nI i) :: .ref a :: S, q_w t u F J) = q_ex X (M, pc + n, L, S, q_w t u (q_up F a i v) J) := by
  obtain ⟨m, h1, h2⟩ := k_10 hi
  have h3 := k_small h1
  refine g_go hat ?_
  show q_ast M (pc + n) L (.int v :: .int (nI i) :: .ref a :: S) (q_w t u F J) 10 = _
  unfold q_ast q_w
  dsimp only
  rw [h1]
  dsimp only
  rw [if_pos ⟨rfl, q_inb_nI h2 (by omega), Or.inr hv⟩, nI_clamp (by omega)]
  rfl
theorem g_xld {i : Nat} {v : UInt32} (hat : q_at M pc = some (.iaload, n, g, pl)) (hi : i < (q_xt X v).1) (hX : (q_xt X v).1 ≤ 100000) : q_ex X (M, pc, L, .int (nI i) :: .float v :: S, w) = q_ex X (M, pc + n, L, .int ((q_xt X v).2 i) :: S, w) := by
  refine g_go hat ?_
  show q_ald X M (pc + n) L (.int (nI i) :: .float v :: S) w 9 = _
  unfold q_ald
  dsimp only
  rw [if_pos ⟨rfl, q_inb_nI hi hX⟩, nI_clamp (by omega)]
  rfl
theorem g_ret {x : Int32} (hat : q_at M pc = some (.ireturn, n, g, pl)) (h : q_rt M = 1) : q_ex X (M, pc, L, [.int x], w) = some (some (.int x), w) := by
  refine q_ex_ret ((g_nxt hat).trans ?_)
  show q_ret1 [.int x] w (q_rt M) = _
  unfold q_ret1
  dsimp only
  rw [if_pos (Or.inl h)]
theorem g_retZ {x : Int32} (hat : q_at M pc = some (.ireturn, n, g, pl)) (h : q_rt M = 2) (hx : x = nI 0 ∨ x = nI 1) : q_ex X (M, pc, L, [.int x], w) = some (some (.int x), w) := by
  refine q_ex_ret ((g_nxt hat).trans ?_)
  show q_ret1 [.int x] w (q_rt M) = _
  unfold q_ret1
  dsimp only
  rw [if_pos (Or.inr ⟨h, hx⟩)]
theorem g_gfD {a k : Nat} (hat : q_at M pc = some (.getfield n, 3, g, pl)) (hg : g / 32 = 0) (hk : g % 32 = k) (h : q_isD a = true) (hk2 : k = 1 ∨ k = 2 ∨ k = 3 ∨ k = 4) : q_ex X (M, pc, L, .ref a :: S, q_w t u F J) = q_ex X (M, pc + 3, L, .ref (a + k) :: S, q_w t u F J) := by
  refine g_go hat ?_
  show q_gf M (pc + 3) L (.ref a :: S) (q_w t u F J) (g / 32) (g % 32) = _
  rw [hg, hk]
  rcases isD_cases h with rfl | rfl | rfl | rfl | rfl | rfl | rfl | rfl | rfl <;> rcases hk2 with rfl | rfl | rfl | rfl <;> rfl
theorem g_gfDon {a : Nat} (hat : q_at M pc = some (.getfield n, 3, g, pl)) (hg : g = 0) (h : q_isD a = true) : q_ex X (M, pc, L, .ref a :: S, q_w t u F J) = q_ex X (M, pc + 3, L, .int (F a 0) :: S, q_w t u F J) := by
  subst hg
  refine g_go hat ?_
  show q_gf M (pc + 3) L (.ref a :: S) (q_w t u F J) 0 0 = _
  rcases isD_cases h with rfl | rfl | rfl | rfl | rfl | rfl | rfl | rfl | rfl <;> rfl
theorem g_pfDon {a : Nat} {x : Int32} (hat : q_at M pc = some (.putfield n, 3, g, pl)) (hg : g = 0) (h : q_isD a = true) : q_ex X (M, pc, L, .int x :: .ref a :: S, q_w t u F J) = q_ex X (M, pc + 3, L, S, q_w t u (q_up F a 0 x) J) := by
  subst hg
  refine g_go hat ?_
  show q_pf M (pc + 3) L (.int x :: .ref a :: S) (q_w t u F J) 0 0 = _
  rcases isD_cases h with rfl | rfl | rfl | rfl | rfl | rfl | rfl | rfl | rfl <;> rfl
theorem g_gfT {a k : Nat} (hat : q_at M pc = some (.getfield n, 3, g, pl)) (hg : g / 32 = 5) (hk : g % 32 = k) (h : q_isT a = true) (hk2 : k = 0 ∨ k = 1 ∨ k = 2 ∨ k = 3) : q_ex X (M, pc, L, .ref a :: S, q_w t u F J) = q_ex X (M, pc + 3, L, .ref (a + 1 + k) :: S, q_w t u F J) := by
  refine g_go hat ?_
  show q_gf M (pc + 3) L (.ref a :: S) (q_w t u F J) (g / 32) (g % 32) = _
  rw [hg, hk]
  rcases isT_cases h with rfl | rfl <;> rcases hk2 with rfl | rfl | rfl | rfl <;> rfl
theorem g_gfTm {a : Nat} (hat : q_at M pc = some (.getfield n, 3, g, pl)) (hg : g = 164) (h : q_isT a = true) : q_ex X (M, pc, L, .ref a :: S, q_w t u F J) = q_ex X (M, pc + 3, L, .int (F a 4) :: S, q_w t u F J) := by
  subst hg
  refine g_go hat ?_
  show q_gf M (pc + 3) L (.ref a :: S) (q_w t u F J) 5 4 = _
  rcases isT_cases h with rfl | rfl <;> rfl
theorem g_pfTm {a : Nat} {x : Int32} (hat : q_at M pc = some (.putfield n, 3, g, pl)) (hg : g = 164) (h : q_isT a = true) : q_ex X (M, pc, L, .int x :: .ref a :: S, q_w t u F J) = q_ex X (M, pc + 3, L, S, q_w t u (q_up F a 4 x) J) := by
  subst hg
  refine g_go hat ?_
  show q_pf M (pc + 3) L (.int x :: .ref a :: S) (q_w t u F J) 5 4 = _
  rcases isT_cases h with rfl | rfl <;> rfl
theorem g_aald19 {i : Nat} (hat : q_at M pc = some (.aaload, n, g, pl)) (hi : i < 6) : q_ex X (M, pc, L, .int (nI i) :: .ref 19 :: S, q_w t u F J) = q_ex X (M, pc + n, L, .ref (20 + 5 * i) :: S, q_w t u F J) := by
  refine g_go hat ?_
  rcases (show i = 0 ∨ i = 1 ∨ i = 2 ∨ i = 3 ∨ i = 4 ∨ i = 5 by omega) with rfl | rfl | rfl | rfl | rfl | rfl <;> rfl
theorem g_aald60 {i : Nat} (hat : q_at M pc = some (.aaload, n, g, pl)) (hi : i < 2) : q_ex X (M, pc, L, .int (nI i) :: .ref 60 :: S, q_w t u F J) = q_ex X (M, pc + n, L, .ref (62 + 5 * i) :: S, q_w t u F J) := by
  refine g_go hat ?_
  rcases (show i = 0 ∨ i = 1 by omega) with rfl | rfl <;> rfl
theorem g_call {i : Instr} {σc : q_S} {M' pc' : Nat} {L' S' : List Value} (hat : q_at M pc = some (i, n, g, pl)) (h : q_ins X M pc L S w i n g pl = some (.inr (.inr (σc, M', pc', L', S')))) : q_ex X (M, pc, L, S, w) = (q_ex X σc).bind (fun r => q_ex X (M', pc', L', r.1.toList ++ S', r.2)) := q_ex_call ((g_nxt hat).trans h)
end GX
/-- joins -/
theorem q_ite {X : Nat × (Nat → Int32)} {c : Prop} [Decidable c] {M pc : Nat} {L1 L2 S1 S2 : List Value} {w1 w2 : q_M} : (if c then q_ex X (M, pc, L1, S1, w1) else q_ex X (M, pc, L2, S2, w2)) = q_ex X (M, pc, if c then L1 else L2, if c then S1 else S2, if c then w1 else w2) := by
  by_cases h : c
  · simp only [if_pos h]
  · simp only [if_neg h]
theorem q_ite_l {c : Prop} [Decidable c] {a b : Value} {l m : List Value} : (if c then a :: l else b :: m) = (if c then a else b) :: (if c then l else m) := by
  by_cases h : c
  · simp only [if_pos h]
  · simp only [if_neg h]
theorem q_ite_i {c : Prop} [Decidable c] {a b : Int32} : (if c then Value.int a else Value.int b) = Value.int (if c then a else b) := by
  by_cases h : c
  · simp only [if_pos h]
  · simp only [if_neg h]
theorem q_ite_w {c : Prop} [Decidable c] {t u : Nat} {F G : Nat → Nat → Int32} {J I : Nat → Int64} : (if c then q_w t u F J else q_w t u G I) = q_w t u (if c then F else G) (if c then J else I) := by
  by_cases h : c
  · simp only [if_pos h]
  · simp only [if_neg h]
theorem q_ite_s {c : Prop} [Decidable c] {r r' : Option Value} {w w' : q_M} : (if c then some (r, w) else some (r', w')) = some (if c then r else r', if c then w else w') := by
  by_cases h : c
  · simp only [if_pos h]
  · simp only [if_neg h]
theorem q_ite_v {c : Prop} [Decidable c] {a b : Value} : (if c then some a else some b) = some (if c then a else b) := by
  by_cases h : c
  · simp only [if_pos h]
  · simp only [if_neg h]
/-- a loop that goes on step by step -/
theorem q_iter {X : Nat × (Nat → Int32)} {δ : Type} (st : Nat → δ → q_S) (N : Nat) (h : ∀ k, k < N → ∀ d, ∃ d', q_ex X (st k d) = q_ex X (st (k + 1) d')) (d : δ) : ∃ d', q_ex X (st 0 d) = q_ex X (st N d') := by
  induction N with
  | zero => exact ⟨d, rfl⟩
  | succ N ih =>
    obtain ⟨d1, h1⟩ := ih (fun k hk d => h k (by omega) d)
    obtain ⟨d2, h2⟩ := h N (by omega) d1
    exact ⟨d2, h1.trans h2⟩
theorem l9_2 : k_l9 2 = 160 := rfl
theorem l9_4 : k_l9 4 = 16 := rfl
theorem l9_5 : k_l9 5 = 16 := rfl
theorem l9_6 : k_l9 6 = 12 := rfl
theorem l9_7 : k_l9 7 = 4 := rfl
theorem l9_9 : k_l9 9 = 16 := rfl
theorem l9_10 : k_l9 10 = 16 := rfl
theorem l9_11 : k_l9 11 = 12 := rfl
theorem l9_12 : k_l9 12 = 4 := rfl
theorem l9_14 : k_l9 14 = 16 := rfl
theorem l9_15 : k_l9 15 = 16 := rfl
theorem l9_16 : k_l9 16 = 16 := rfl
theorem l9_17 : k_l9 17 = 12 := rfl
theorem l9_21 : k_l9 21 = 16 := rfl
theorem l9_22 : k_l9 22 = 16 := rfl
theorem l9_23 : k_l9 23 = 16 := rfl
theorem l9_24 : k_l9 24 = 12 := rfl
theorem l9_26 : k_l9 26 = 16 := rfl
theorem l9_27 : k_l9 27 = 16 := rfl
theorem l9_28 : k_l9 28 = 16 := rfl
theorem l9_29 : k_l9 29 = 12 := rfl
theorem l9_31 : k_l9 31 = 16 := rfl
theorem l9_32 : k_l9 32 = 16 := rfl
theorem l9_33 : k_l9 33 = 16 := rfl
theorem l9_34 : k_l9 34 = 12 := rfl
theorem l9_36 : k_l9 36 = 16 := rfl
theorem l9_37 : k_l9 37 = 16 := rfl
theorem l9_38 : k_l9 38 = 16 := rfl
theorem l9_39 : k_l9 39 = 12 := rfl
theorem l9_41 : k_l9 41 = 16 := rfl
theorem l9_42 : k_l9 42 = 16 := rfl
theorem l9_43 : k_l9 43 = 16 := rfl
theorem l9_44 : k_l9 44 = 12 := rfl
theorem l9_46 : k_l9 46 = 16 := rfl
theorem l9_47 : k_l9 47 = 16 := rfl
theorem l9_48 : k_l9 48 = 16 := rfl
theorem l9_49 : k_l9 49 = 12 := rfl
theorem l9_51 : k_l9 51 = 4 := rfl
theorem l9_52 : k_l9 52 = 4 := rfl
theorem l9_53 : k_l9 53 = 20 := rfl
theorem l9_55 : k_l9 55 = 3 := rfl
theorem l9_56 : k_l9 56 = 12 := rfl
theorem l9_58 : k_l9 58 = 8 := rfl
theorem l10_59 : k_l10 59 = 8 := rfl
theorem l9_61 : k_l9 61 = 4 := rfl
theorem l9_63 : k_l9 63 = 16 := rfl
theorem l9_64 : k_l9 64 = 16 := rfl
theorem l9_65 : k_l9 65 = 16 := rfl
theorem l9_66 : k_l9 66 = 12 := rfl
theorem l9_68 : k_l9 68 = 16 := rfl
theorem l9_69 : k_l9 69 = 16 := rfl
theorem l9_70 : k_l9 70 = 16 := rfl
theorem l9_71 : k_l9 71 = 12 := rfl
theorem l9_73 : k_l9 73 = 49 := rfl
theorem l9_74 : k_l9 74 = 49 := rfl
theorem l9_75 : k_l9 75 = 61 := rfl
theorem l9_76 : k_l9 76 = 366 := rfl
theorem l9_77 : k_l9 77 = 122 := rfl
theorem l10_78 : k_l10 78 = 2 := rfl
theorem l9_79 : k_l9 79 = 12 := rfl
theorem l9_80 : k_l9 80 = 12 := rfl
theorem l9_81 : k_l9 81 = 32 := rfl
theorem l9_82 : k_l9 82 = 8 := rfl
theorem l9_83 : k_l9 83 = 8 := rfl
theorem l9_84 : k_l9 84 = 8 := rfl
theorem l9_85 : k_l9 85 = 160 := rfl
theorem l9_D1 {d : Nat} (h : q_isD d = true) : k_l9 (d + 1) = 16 := by rcases isD_cases h with rfl | rfl | rfl | rfl | rfl | rfl | rfl | rfl | rfl <;> rfl
theorem l9_D2 {d : Nat} (h : q_isD d = true) : k_l9 (d + 2) = 16 := by rcases isD_cases h with rfl | rfl | rfl | rfl | rfl | rfl | rfl | rfl | rfl <;> rfl
theorem l9_D3 {d : Nat} (h : q_isD d = true) : k_l9 (d + 3) = 16 := by rcases isD_cases h with rfl | rfl | rfl | rfl | rfl | rfl | rfl | rfl | rfl <;> rfl
theorem l9_D4 {d : Nat} (h : q_isD d = true) : k_l9 (d + 4) = 12 := by rcases isD_cases h with rfl | rfl | rfl | rfl | rfl | rfl | rfl | rfl | rfl <;> rfl
theorem l9_T1 {d : Nat} (h : q_isT d = true) : k_l9 (d + 1) = 16 := by rcases isT_cases h with rfl | rfl <;> rfl
theorem l9_T2 {d : Nat} (h : q_isT d = true) : k_l9 (d + 2) = 16 := by rcases isT_cases h with rfl | rfl <;> rfl
theorem l9_T3 {d : Nat} (h : q_isT d = true) : k_l9 (d + 3) = 12 := by rcases isT_cases h with rfl | rfl <;> rfl
theorem l9_T4 {d : Nat} (h : q_isT d = true) : k_l9 (d + 4) = 4 := by rcases isT_cases h with rfl | rfl <;> rfl
theorem isD_13 : q_isD 13 = true := rfl
theorem isD_20 : q_isD 20 = true := rfl
theorem isD_25 : q_isD 25 = true := rfl
theorem isD_30 : q_isD 30 = true := rfl
theorem isD_35 : q_isD 35 = true := rfl
theorem isD_40 : q_isD 40 = true := rfl
theorem isD_45 : q_isD 45 = true := rfl
theorem isD_62 : q_isD 62 = true := rfl
theorem isD_67 : q_isD 67 = true := rfl
