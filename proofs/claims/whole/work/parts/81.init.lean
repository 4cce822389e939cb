/-! ===== what the constructors leave ===== -/
theorem q_ald_X {X : Nat × (Nat → Int32)} {M pc kd : Nat} {L S : List Value} {w : q_M} {d : q_D} (h : q_ald q_X0 M pc L S w kd = some d) : q_ald X M pc L S w kd = some d := by
  unfold q_ald at h ⊢
  split at h
  · exact h
  · rename_i x u S
    by_cases h0 : u = 0
    · have e : q_xt X u = q_xt q_X0 u := by unfold q_xt; rw [if_pos h0, if_pos h0]
      rw [e]; exact h
    · by_cases h1 : u = 1
      · have e : q_xt X u = q_xt q_X0 u := by unfold q_xt; rw [if_neg h0, if_neg h0, if_pos h1, if_pos h1]
        rw [e]; exact h
      · have e : q_xt q_X0 u = q_X0 := by unfold q_xt; rw [if_neg h0, if_neg h1]
        rw [e] at h
        have hz : q_inb x q_X0.1 = false := by simp [q_inb, q_X0]
        rw [hz] at h
        simp at h
  · cases h
theorem q_ins_X {X : Nat × (Nat → Int32)} {M pc : Nat} {L S : List Value} {w : q_M} {i : Instr} {n g : Nat} {pl : List Nat} {d : q_D} (hi : i ≠ .arraylength) (h : q_ins q_X0 M pc L S w i n g pl = some d) : q_ins X M pc L S w i n g pl = some d := by
  cases i with
  | iaload => exact q_ald_X h
  | baload => exact q_ald_X h
  | arraylength => exact absurd rfl hi
  | ifCond c o => cases c <;> exact h
  | if_icmp c o => cases c <;> exact h
  | _ => exact h
theorem q_nxt_X {X : Nat × (Nat → Int32)} {σ : q_S} {d : q_D} (h : q_nxtS σ = some d) : q_nxt X σ = some d := by
  unfold q_nxtS at h
  unfold q_nxt
  split at h
  · cases h
  · rename_i i n g pl hat
    rw [hat]
    split at h
    · cases h
    · rename_i hi
      exact q_ins_X hi h
theorem q_runS_s (n : Nat) (σ : q_S) : q_runS (n + 1) σ = match q_nxtS σ with
    | none => none
    | some (.inl r) => some r
    | some (.inr (.inl σ')) => q_runS n σ'
    | some (.inr (.inr (σc, M, pc, L, S))) => match q_runS n σc with
      | none => none
      | some (r, w) => q_runS n (M, pc, L, r.toList ++ S, w) := rfl
theorem q_run_X {X : Nat × (Nat → Int32)} {n : Nat} : ∀ {σ : q_S} {r : Option Value × q_M}, q_runS n σ = some r → q_run X n σ = some r := by
  induction n with
  | zero => intro σ r h; cases h
  | succ n ih =>
    intro σ r h
    rw [q_runS_s] at h
    rw [q_run_s]
    cases hn : q_nxtS σ with
    | none => rw [hn] at h; cases h
    | some d =>
      rw [hn] at h
      rw [q_nxt_X hn]
      rcases d with d | d | ⟨σc, M, pc, L, S⟩
      · exact h
      · exact ih h
      · dsimp only at h ⊢
        cases hc : q_runS n σc with
        | none => rw [hc] at h; cases h
        | some y =>
          rw [hc] at h
          rw [ih hc]
          exact ih h
/-- references lie where the cells have places for them -/
def q_PI (w : q_M) : Prop := ∀ a i, w.2.2.1 a i ≠ none → ∃ k n, w.1[a]? = some (k, n) ∧ (i < 21 ∨ (k = 11 ∧ i < n))
def q_dP (d : q_D) : Prop := match d with
  | .inl r => q_PI r.2
  | .inr (.inl σ) => q_PI σ.2.2.2.2
  | .inr (.inr (σc, _)) => q_PI σc.2.2.2.2
theorem q_ft_len (c : Nat) : (q_ft c).length ≤ 21 := by
  unfold q_ft
  split <;> decide
theorem q_PI_nw {w : q_M} {k n : Nat} (hw : q_PI w) : q_PI (q_nw w k n) := by
  intro a i h
  have h1 : (va_up w.2.2.1 w.1.length (fun _ => none)) a i ≠ none := h
  unfold va_up at h1
  by_cases ha : a = w.1.length
  · rw [if_pos ha] at h1; exact absurd rfl h1
  · rw [if_neg ha] at h1
    obtain ⟨k', n', h2, h3⟩ := hw a i h1
    refine ⟨k', n', ?_, h3⟩
    have hl := (List.getElem?_eq_some_iff.mp h2).1
    show (w.1 ++ [(k, n)])[a]? = _
    rw [List.getElem?_append_left hl]; exact h2
theorem q_PI_up {w : q_M} {a k : Nat} {x : Option Nat} {F : Nat → Nat → Int32} {J : Nat → Int64} (hw : q_PI w) (hk : ∃ c n, w.1[a]? = some (c, n) ∧ (k < 21 ∨ (c = 11 ∧ k < n))) : q_PI (w.1, F, q_upP w.2.2.1 a k x, J) := by
  intro b i h
  have h1 : q_upP w.2.2.1 a k x b i ≠ none := h
  unfold q_upP va_up at h1
  by_cases hb : b = a
  · rw [if_pos hb] at h1
    by_cases hi : i = k
    · rw [hb, hi]; exact hk
    · rw [if_neg hi] at h1
      rw [hb]; exact hw a i h1
  · rw [if_neg hb] at h1
    exact hw b i h1
theorem q_PI_pf {w : q_M} {a k ci : Nat} {x : Option Nat} {F : Nat → Nat → Int32} {J : Nat → Int64} (hw : q_PI w) (hc : (w.1[a]?).map Prod.fst = some ci ∧ (q_ft ci)[k]? = some 1) : q_PI (w.1, F, q_upP w.2.2.1 a k x, J) := by
  refine q_PI_up hw ?_
  obtain ⟨h1, h2⟩ := hc
  have hk := (List.getElem?_eq_some_iff.mp h2).1
  have hl := q_ft_len ci
  cases hx : w.1[a]? with
  | none => rw [hx] at h1; cases h1
  | some y => exact ⟨y.1, y.2, rfl, Or.inl (by omega)⟩
theorem q_PI_as {w : q_M} {a v k n : Nat} {x : Int32} {p : Prop} {F : Nat → Nat → Int32} {J : Nat → Int64} (hw : q_PI w) (h1 : w.1[a]? = some (k, n)) (hc : k = 11 ∧ q_inb x n = true ∧ p) : q_PI (w.1, F, q_upP w.2.2.1 a x.toNatClampNeg (some v), J) := by
  refine q_PI_up hw ⟨k, n, h1, Or.inr ⟨hc.1, ?_⟩⟩
  have h2 := hc.2.1
  unfold q_inb at h2
  simp only [Bool.and_eq_true, decide_eq_true_eq] at h2
  exact h2.2
set_option maxHeartbeats 4000000 in
theorem q_ins_P {X : Nat × (Nat → Int32)} {M pc : Nat} {L S : List Value} {w : q_M} {i : Instr} {n g : Nat} {pl : List Nat} {d : q_D} (hw : q_PI w) (h : q_ins X M pc L S w i n g pl = some d) : q_dP d := by
  unfold q_ins at h
  split at h
  all_goals try simp only [q_i2, q_c1, q_c2, q_ldi, q_lda, q_ldl, q_sti, q_sta, q_stl, q_gf, q_pf, q_ald, q_ast, q_ald2, q_ast2, q_new, q_newa, q_alen, q_callV, q_call, q_ret1, q_sw, q_mm, q_go] at h
  all_goals (repeat' (split at h))
  all_goals first
    | (cases h; done)
    | (cases h; exact hw)
    | (cases h; exact q_PI_nw hw)
    | (cases h; exact q_PI_pf hw (by assumption))
    | (cases h; exact q_PI_as hw (by assumption) (by assumption))
theorem q_nxt_P {X : Nat × (Nat → Int32)} {σ : q_S} {d : q_D} (hw : q_PI σ.2.2.2.2) (h : q_nxt X σ = some d) : q_dP d := by
  unfold q_nxt at h
  split at h
  · cases h
  · exact q_ins_P hw h
theorem q_run_P {X : Nat × (Nat → Int32)} {n : Nat} : ∀ {σ : q_S} {r : Option Value × q_M}, q_PI σ.2.2.2.2 → q_run X n σ = some r → q_PI r.2 := by
  induction n with
  | zero => intro σ r _ h; cases h
  | succ n ih =>
    intro σ r hw h
    rw [q_run_s] at h
    cases hn : q_nxt X σ with
    | none => rw [hn] at h; cases h
    | some d =>
      rw [hn] at h
      have hg := q_nxt_P hw hn
      rcases d with d | d | ⟨σc, M, pc, L, S⟩
      · cases h; exact hg
      · exact ih hg h
      · dsimp only at h
        cases hc : q_run X n σc with
        | none => rw [hc] at h; cases h
        | some y =>
          rw [hc] at h
          exact ih (σ := (M, pc, L, y.1.toList ++ S, y.2)) (ih hg hc) h
theorem p_len : ∀ a, a < 86 → (p_tab.getD a []).length ≤ 21 := by decide +kernel
theorem k_11 : ∀ a, a < 86 → ∀ x, k_st[a]? = some x → x.1 = 11 → x.2 ≤ 21 := by
  intro a ha x hx h
  have h1 : k_st.all (fun x => decide (x.1 = 11 → x.2 ≤ 21)) = true := by decide +kernel
  exact of_decide_eq_true (List.all_eq_true.mp h1 _ (List.mem_of_getElem? hx)) h
theorem k_len : k_st.length = 86 := by decide +kernel
theorem p_tlen : p_tab.length ≤ 86 := by decide +kernel
theorem p_st_eq {w : q_M} (hK : w.1 = k_st) (hP : q_PI w) (h : ∀ a, a < 86 → ∀ i, i < 21 → w.2.2.1 a i = p_st 3 8 a i) : w.2.2.1 = p_st 3 8 := by
  funext a i
  by_cases hin : a < 86 ∧ i < 21
  · exact h a hin.1 i hin.2
  · have h1 : w.2.2.1 a i = none := by
      refine Classical.byContradiction (fun hn => ?_)
      obtain ⟨k, n, h2, h3⟩ := hP a i hn
      rw [hK] at h2
      have hl := (List.getElem?_eq_some_iff.mp h2).1
      rw [k_len] at hl
      rcases h3 with h3 | ⟨h3, h4⟩
      · exact hin ⟨hl, h3⟩
      · have h5 := k_11 a hl _ h2 h3
        exact hin ⟨hl, Nat.lt_of_lt_of_le h4 h5⟩
    rw [h1]
    unfold p_st
    rw [if_neg (by omega), if_neg (by omega)]
    by_cases ha : a < 86
    · have hl := p_len a ha
      have hi : ¬ i < 21 := fun z => hin ⟨ha, z⟩
      rw [List.getD_eq_getElem?_getD (l := p_tab.getD a []), List.getElem?_eq_none (by omega)]
      rfl
    · have hl := p_tlen
      rw [List.getD_eq_getElem?_getD (l := p_tab), List.getElem?_eq_none (by omega)]
      rfl
theorem iF_at {w : q_M} {a n : Nat} {f : Nat → Nat} (h : q_iF w a n f = true) : ∀ i, i < n → w.2.1 a i = nI (f i) := fun i hi => of_decide_eq_true (List.all_eq_true.mp h i (List.mem_range.mpr hi))
theorem nw_bg : okR (nw bg) := nw_ok okT_bg.1
theorem bg_lo {i : Nat} (h : i < 16) : nw bg (1 + i) = bg i ∧ nw bg (17 + i) = bg i := by
  simp only [nw, bg]
  constructor
  · rw [if_pos (by omega), show 1 + i - 1 = i by omega]
  · rw [if_neg (by omega), if_pos (by omega), show 17 + i - 17 = i by omega, if_pos h]
/-- behind both constructors -/
theorem q_init {X : Nat × (Nat → Int32)} : ∃ w1 F J, w1.1.length = 72 ∧ q_ex X (50, 0, [.ref 0, .null], [], q_nw q_w0 7 0) = some (none, w1) ∧ q_ex X (84, 0, [.ref 72], [], q_nw w1 8 0) = some (none, q_w 3 8 F J) ∧ Rel 3 8 F := by
  have hk := q_iK_ok
  unfold q_iK at hk
  split at hk
  · rename_i w1 h1
    rw [Bool.and_eq_true] at hk
    obtain ⟨hl, hk⟩ := hk
    have hl := of_decide_eq_true hl
    split at hk
    · rename_i w h2
      have e1 : q_ex X (50, 0, [.ref 0, .null], [], q_nw q_w0 7 0) = some (none, w1) := q_ex_iff.mpr ⟨_, q_run_X h1⟩
      have e2 : q_ex X (84, 0, [.ref 72], [], q_nw w1 8 0) = some (none, w) := q_ex_iff.mpr ⟨_, q_run_X h2⟩
      have p0 : q_PI q_w0 := fun a i h => absurd rfl h
      have p1 : q_PI w1 := q_run_P (X := X) (σ := (50, 0, [.ref 0, .null], [], q_nw q_w0 7 0)) (q_PI_nw p0) (q_run_X h1)
      have p2 : q_PI w := q_run_P (X := X) (σ := (84, 0, [.ref 72], [], q_nw w1 8 0)) (q_PI_nw p1) (q_run_X h2)
      unfold q_iC at hk
      simp only [Bool.and_eq_true, decide_eq_true_eq, List.all_eq_true, List.mem_range] at hk
      obtain ⟨⟨⟨⟨⟨⟨⟨⟨⟨⟨⟨⟨⟨⟨⟨⟨⟨⟨⟨⟨⟨⟨⟨⟨hK, hP⟩, a4⟩, a6⟩, a5⟩, a7⟩, a3⟩, a73⟩, a13⟩, a14⟩, a15⟩, a16⟩, a17⟩, a75⟩, b1⟩, b2⟩, b3⟩, b4⟩, b5⟩, b6⟩, b7⟩, b8⟩, b9⟩, b10⟩, a53⟩ := hk
      have hPs := p_st_eq hK p2 hP
      have ew : ∀ (K : q_K) (P : Nat → Nat → Option Nat), w.1 = K → w.2.2.1 = P → w = (K, w.2.1, P, w.2.2.2) := by
        rintro K P rfl rfl
        rfl
      have ew := ew _ _ hK hPs
      refine ⟨w1, w.2.1, w.2.2.2, hl, e1, e2.trans (congrArg (fun z => some (none, z)) ew), Or.inl ⟨rfl, rfl⟩, ⟨bg, ⟨iF_at a4, fun i hi => ?_, fun i hi => ?_, fun i hi => ?_, a3⟩, iF_at a73, okT_bg⟩, ⟨nw bg, ⟨a13, fun i hi => ⟨?_, ?_, ?_, fun h12 => ?_⟩⟩, fun i hi => ?_, nw_bg⟩, ⟨0, 0, fun _ _ => 0, by omega, by omega, b1, b2, b3, fun m hm => by omega⟩, ⟨0, fun _ _ => 0, by omega, b4, fun m hm => ?_, fun m hm hb => by rw [bt_0] at hb; omega⟩, ⟨0, fun _ => 0, fun _ => 0, fun _ => 0, by omega, b7, b8, fun k hk => by omega⟩, ⟨0, fun _ => 0, ⟨by omega, b9, fun i hi => by omega, fun i => by show 0 < 256; omega⟩, by omega, b10, fun i hi => by omega, fun i => by show 0 < 256; omega⟩, ⟨fun _ => 0, fun i hi => ⟨iF_at a53 i hi, by show 0 < 31; omega⟩⟩⟩
      · have e : bg (16 + i) = 0 := by simp only [bg]; rw [if_neg (by omega), if_neg (by omega), if_neg (by omega)]
        rw [e]; exact iF_at a6 i hi
      · have e : bg (28 + i) = 0 := by simp only [bg]; rw [if_neg (by omega), if_neg (by omega), if_neg (by omega)]
        rw [e]; exact iF_at a5 i hi
      · have e : bg (44 + i) = 4 := by simp only [bg]; rw [if_neg (by omega), if_pos (by omega)]
        rw [e]; exact iF_at a7 i hi
      · rw [(bg_lo hi).1]; exact iF_at a14 i hi
      · rw [(bg_lo hi).2]; exact iF_at a15 i hi
      · have e : nw bg (45 + i) = 0 := by simp only [nw]; rw [if_neg (by omega), if_neg (by omega)]
        rw [e]; exact iF_at a16 i hi
      · have e : nw bg (33 + i) = 0 := by simp only [nw]; rw [if_neg (by omega), if_neg (by omega)]
        rw [e]; exact iF_at a17 i h12
      · rw [Nat.zero_add]; exact iF_at a75 i hi
      · rw [bt_0]
        rcases (show m = 0 ∨ m = 1 by omega) with rfl | rfl
        · exact b5
        · exact b6
    · cases hk
  · cases hk
