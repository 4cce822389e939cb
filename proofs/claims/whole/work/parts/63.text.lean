/-! ===== the class: an ITEM, all ITEMS ===== -/
def c1 (x : Nat → Nat) (l p : Nat) : Nat × Nat × Nat := cNum x l 0 3 1000 p 0
def c2 (x : Nat → Nat) (l hi b p : Nat) : Nat × Nat × Nat := cNum x l 0 hi b (c1 x l p).2.1 (c1 x l p).2.2
def c3 (x : Nat → Nat) (l hi b lo hi3 p : Nat) : Nat × Nat × Nat := cNum x l lo hi3 1000 (c2 x l hi b p).2.1 (c2 x l hi b p).2.2
def cE (x : Nat → Nat) (l : Nat) (r : Nat × Nat × Nat) : Nat × Nat × Nat := cEnd x l r.2.1 r.2.2
def lo3 (x : Nat → Nat) (l p : Nat) : Nat := if (c2 x l 3 1000 p).1 = (c1 x l p).1 then 1 else 0
/-- an ITEM: the number that is read last, and the place that it goes to -/
def iR (x : Nat → Nat) (l k p : Nat) : Nat × Nat × Nat := if k = 101 then c3 x l 3 1000 (lo3 x l p) 30 p else if k = 110 then c3 x l 2 1000 0 20 p else if k = 103 then c3 x l 3 (c1 x l p).1 0 9 p else if k = 98 then c2 x l 12 1000 p else cNum x l 1 12 1000 p 0
def iX (x : Nat → Nat) (l k p : Nat) : Nat := if k = 101 then 4 * (c1 x l p).1 + (c2 x l 3 1000 p).1 else if k = 110 then 16 + (3 * (c1 x l p).1 + (c2 x l 2 1000 p).1) else if k = 103 then 28 + (4 * (c1 x l p).1 + (c2 x l 3 (c1 x l p).1 p).1) else if k = 98 then 44 + (c1 x l p).1 else 48
abbrev isK (k : Nat) : Prop := k = 101 ∨ k = 110 ∨ k = 103 ∨ k = 98 ∨ k = 109
/-- an ITEM at q: whether it is ended, its place, its number, where the reading is, the fault -/
def iI (x : Nat → Nat) (l q : Nat) : Nat × Nat × Nat × Nat × Nat := if isK (x q) then ((cE x l (iR x l (x q) (q + 1))).1, iX x l (x q) (q + 1), (iR x l (x q) (q + 1)).1, (cE x l (iR x l (x q) (q + 1))).2.1, (cE x l (iR x l (x q) (q + 1))).2.2) else (0, 0, 0, q, q + 1)
/-- a number goes to its place in the class's Told a -/
def cT (F : Nat → Nat → Int32) (a i v : Nat) : Nat → Nat → Int32 := if i < 16 then q_up F (a + 1) i (nI v) else if i < 28 then q_up F (a + 3) (i - 16) (nI v) else if i < 44 then q_up F (a + 2) (i - 28) (nI v) else if i < 48 then q_up F (a + 4) (i - 44) (nI v) else q_up F a 4 (nI v)
def tR (F : Nat → Nat → Int32) (a : Nat) (T : Nat → Nat) : Prop := (∀ i, i < 16 → F (a + 1) i = nI (T i)) ∧ (∀ i, i < 12 → F (a + 3) i = nI (T (16 + i))) ∧ (∀ i, i < 16 → F (a + 2) i = nI (T (28 + i))) ∧ (∀ i, i < 4 → F (a + 4) i = nI (T (44 + i))) ∧ F a 4 = nI (T 48)
def okT (T : Nat → Nat) : Prop := (∀ i, i < 16 → T i < 31) ∧ (∀ j, j < 4 → T (44 + j) < 100) ∧ T 48 ≤ 12
theorem cT_R {F : Nat → Nat → Int32} {a i v : Nat} {T : Nat → Nat} (hi : i < 49) (h : tR F a T) : tR (cT F a i v) a (updN T i v) := by
  obtain ⟨h1, h2, h3, h4, h5⟩ := h
  unfold cT
  by_cases c1 : i < 16
  · rw [if_pos c1]
    refine ⟨fun k hk => ?_, fun k hk => ?_, fun k hk => ?_, fun k hk => ?_, ?_⟩
    · simp only [q_app, updN]; by_cases hki : k = i
      · rw [if_pos ⟨trivial, hki⟩, if_pos hki]
      · rw [if_neg (fun z => hki z.2), if_neg hki]; exact h1 k hk
    · rw [q_up_n (by omega), h2 k hk]; simp only [updN]; rw [if_neg (by omega)]
    · rw [q_up_n (by omega), h3 k hk]; simp only [updN]; rw [if_neg (by omega)]
    · rw [q_up_n (by omega), h4 k hk]; simp only [updN]; rw [if_neg (by omega)]
    · rw [q_up_n (by omega), h5]; simp only [updN]; rw [if_neg (by omega)]
  · rw [if_neg c1]
    by_cases c2 : i < 28
    · rw [if_pos c2]
      refine ⟨fun k hk => ?_, fun k hk => ?_, fun k hk => ?_, fun k hk => ?_, ?_⟩
      · rw [q_up_n (by omega), h1 k hk]; simp only [updN]; rw [if_neg (by omega)]
      · simp only [q_app, updN]; by_cases hki : k = i - 16
        · rw [if_pos ⟨trivial, hki⟩, if_pos (by omega)]
        · rw [if_neg (fun z => hki z.2), if_neg (by omega)]; exact h2 k hk
      · rw [q_up_n (by omega), h3 k hk]; simp only [updN]; rw [if_neg (by omega)]
      · rw [q_up_n (by omega), h4 k hk]; simp only [updN]; rw [if_neg (by omega)]
      · rw [q_up_n (by omega), h5]; simp only [updN]; rw [if_neg (by omega)]
    · rw [if_neg c2]
      by_cases c3 : i < 44
      · rw [if_pos c3]
        refine ⟨fun k hk => ?_, fun k hk => ?_, fun k hk => ?_, fun k hk => ?_, ?_⟩
        · rw [q_up_n (by omega), h1 k hk]; simp only [updN]; rw [if_neg (by omega)]
        · rw [q_up_n (by omega), h2 k hk]; simp only [updN]; rw [if_neg (by omega)]
        · simp only [q_app, updN]; by_cases hki : k = i - 28
          · rw [if_pos ⟨trivial, hki⟩, if_pos (by omega)]
          · rw [if_neg (fun z => hki z.2), if_neg (by omega)]; exact h3 k hk
        · rw [q_up_n (by omega), h4 k hk]; simp only [updN]; rw [if_neg (by omega)]
        · rw [q_up_n (by omega), h5]; simp only [updN]; rw [if_neg (by omega)]
      · rw [if_neg c3]
        by_cases c4 : i < 48
        · rw [if_pos c4]
          refine ⟨fun k hk => ?_, fun k hk => ?_, fun k hk => ?_, fun k hk => ?_, ?_⟩
          · rw [q_up_n (by omega), h1 k hk]; simp only [updN]; rw [if_neg (by omega)]
          · rw [q_up_n (by omega), h2 k hk]; simp only [updN]; rw [if_neg (by omega)]
          · rw [q_up_n (by omega), h3 k hk]; simp only [updN]; rw [if_neg (by omega)]
          · simp only [q_app, updN]; by_cases hki : k = i - 44
            · rw [if_pos ⟨trivial, hki⟩, if_pos (by omega)]
            · rw [if_neg (fun z => hki z.2), if_neg (by omega)]; exact h4 k hk
          · rw [q_up_n (by omega), h5]; simp only [updN]; rw [if_neg (by omega)]
        · rw [if_neg c4]
          refine ⟨fun k hk => ?_, fun k hk => ?_, fun k hk => ?_, fun k hk => ?_, ?_⟩
          · rw [q_up_n (by omega), h1 k hk]; simp only [updN]; rw [if_neg (by omega)]
          · rw [q_up_n (by omega), h2 k hk]; simp only [updN]; rw [if_neg (by omega)]
          · rw [q_up_n (by omega), h3 k hk]; simp only [updN]; rw [if_neg (by omega)]
          · rw [q_up_n (by omega), h4 k hk]; simp only [updN]; rw [if_neg (by omega)]
          · simp only [q_app, updN, and_self, if_true]; rw [if_pos (by omega)]
theorem cT_n {F : Nat → Nat → Int32} {a i v b : Nat} (hb : b < a ∨ a + 4 < b) : cT F a i v b = F b := by
  unfold cT
  split
  · exact q_up_n (by omega)
  · split
    · exact q_up_n (by omega)
    · split
      · exact q_up_n (by omega)
      · split
        · exact q_up_n (by omega)
        · exact q_up_n (by omega)
theorem c1_le {x : Nat → Nat} {l p : Nat} (hl : l ≤ 160) (hp : p ≤ l) : (c1 x l p).1 ≤ 3 ∧ (c1 x l p).2.1 ≤ l ∧ (c1 x l p).2.2 ≤ 161 ∧ p ≤ (c1 x l p).2.1 := cNum_le hl hp (by omega) (by omega)
theorem c2_le {x : Nat → Nat} {l p hi b : Nat} (hl : l ≤ 160) (hp : p ≤ l) : (c2 x l hi b p).1 ≤ hi ∧ (c2 x l hi b p).2.1 ≤ l ∧ (c2 x l hi b p).2.2 ≤ 161 ∧ p ≤ (c2 x l hi b p).2.1 := by
  have h1 := c1_le (x := x) hl hp
  have h2 := cNum_le (x := x) (lo := 0) (hi := hi) (b := b) hl h1.2.1 h1.2.2.1 (by omega)
  exact ⟨h2.1, h2.2.1, h2.2.2.1, Nat.le_trans h1.2.2.2 h2.2.2.2⟩
theorem c3_le {x : Nat → Nat} {l p hi b lo hi3 : Nat} (hl : l ≤ 160) (hp : p ≤ l) (hlo : lo ≤ hi3) : (c3 x l hi b lo hi3 p).1 ≤ hi3 ∧ (c3 x l hi b lo hi3 p).2.1 ≤ l ∧ (c3 x l hi b lo hi3 p).2.2 ≤ 161 ∧ p ≤ (c3 x l hi b lo hi3 p).2.1 := by
  have h1 := c2_le (x := x) (hi := hi) (b := b) hl hp
  have h2 := cNum_le (x := x) (lo := lo) (hi := hi3) (b := 1000) hl h1.2.1 h1.2.2.1 hlo
  exact ⟨h2.1, h2.2.1, h2.2.2.1, Nat.le_trans h1.2.2.2 h2.2.2.2⟩
theorem lo3_le {x : Nat → Nat} {l p : Nat} : lo3 x l p ≤ 30 := by
  unfold lo3
  split <;> omega
theorem iR_le {x : Nat → Nat} {l k p : Nat} (hl : l ≤ 160) (hp : p ≤ l) : (iR x l k p).1 ≤ 30 ∧ (iR x l k p).2.1 ≤ l ∧ (iR x l k p).2.2 ≤ 161 ∧ p ≤ (iR x l k p).2.1 := by
  unfold iR
  split
  · exact c3_le hl hp lo3_le
  · split
    · have := c3_le (x := x) (hi := 2) (b := 1000) (lo := 0) (hi3 := 20) hl hp (by omega)
      exact ⟨by omega, this.2⟩
    · split
      · have := c3_le (x := x) (hi := 3) (b := (c1 x l p).1) (lo := 0) (hi3 := 9) hl hp (by omega)
        exact ⟨by omega, this.2⟩
      · split
        · have := c2_le (x := x) (hi := 12) (b := 1000) hl hp
          exact ⟨by omega, this.2⟩
        · have := cNum_le (x := x) (lo := 1) (hi := 12) (b := 1000) (f := 0) hl hp (by omega) (by omega)
          exact ⟨by omega, this.2⟩
theorem iX_le {x : Nat → Nat} {l k p : Nat} (hl : l ≤ 160) (hp : p ≤ l) : iX x l k p < 49 ∧ (iX x l k p = 48 → k ≠ 101 ∧ k ≠ 110 ∧ k ≠ 103 ∧ k ≠ 98) := by
  have h1 := c1_le (x := x) hl hp
  have h2 := c2_le (x := x) (hi := 3) (b := 1000) hl hp
  have h3 := c2_le (x := x) (hi := 2) (b := 1000) hl hp
  have h4 := c2_le (x := x) (hi := 3) (b := (c1 x l p).1) hl hp
  unfold iX
  split
  · exact ⟨by omega, fun _ => by omega⟩
  · split
    · exact ⟨by omega, fun _ => by omega⟩
    · split
      · exact ⟨by omega, fun _ => by omega⟩
      · split
        · exact ⟨by omega, fun _ => by omega⟩
        · exact ⟨by omega, fun _ => by omega⟩
theorem iI_le {x : Nat → Nat} {l q : Nat} (hl : l ≤ 160) (hq : q < l) : (iI x l q).1 < 2 ∧ (iI x l q).2.1 < 49 ∧ (iI x l q).2.2.2.1 ≤ l ∧ (iI x l q).2.2.2.2 ≤ 161 ∧ ((iI x l q).1 = 1 ↔ (iI x l q).2.2.2.2 = 0) ∧ ((iI x l q).2.2.2.2 = 0 → q < (iI x l q).2.2.2.1) ∧ (iI x l q).2.2.1 ≤ 30 ∧ ((iI x l q).1 = 1 → (iI x l q).2.1 = 48 → (iI x l q).2.2.1 ≤ 12) := by
  unfold iI
  by_cases hk : isK (x q)
  · rw [if_pos hk]
    have h1 := iR_le (x := x) (l := l) (k := x q) (p := q + 1) hl (by omega)
    have h2 := cEnd_le (x := x) (l := l) hl h1.2.1 h1.2.2.1
    have h3 := iX_le (x := x) (l := l) (k := x q) (p := q + 1) hl (by omega)
    refine ⟨h2.1, h3.1, h2.2.1, h2.2.2.1, h2.2.2.2.2, fun _ => ?_, h1.1, fun _ h48 => ?_⟩
    · have a1 := h1.2.2.2
      have a2 := h2.2.2.2.1
      show q < (cEnd x l (iR x l (x q) (q + 1)).2.1 (iR x l (x q) (q + 1)).2.2).2.1
      omega
    · have h4 := h3.2 h48
      have h5 := cNum_le (x := x) (l := l) (lo := 1) (hi := 12) (b := 1000) (p := q + 1) (f := 0) hl (by omega) (by omega) (by omega)
      show (iR x l (x q) (q + 1)).1 ≤ 12
      unfold iR
      rw [if_neg h4.1, if_neg h4.2.1, if_neg h4.2.2.1, if_neg h4.2.2.2]
      exact h5.1
  · rw [if_neg hk]
    exact ⟨by simp, by simp, by simp; omega, by simp; omega, by simp, by simp, by simp, by simp⟩
theorem up_ok {x T : Nat → Nat} {l q : Nat} (hl : l ≤ 160) (hq : q < l) (h : okT T) (h1 : (iI x l q).1 = 1) : okT (updN T (iI x l q).2.1 (iI x l q).2.2.1) := by
  have hi := iI_le (x := x) hl hq
  refine ⟨fun i hi2 => ?_, fun j hj => ?_, ?_⟩
  · simp only [updN]; split
    · omega
    · exact h.1 i hi2
  · simp only [updN]; split
    · omega
    · exact h.2.1 j hj
  · simp only [updN]; split
    · exact hi.2.2.2.2.2.2.2 h1 (by omega)
    · exact h.2.2
section S63
variable {X : Nat × (Nat → Int32)} {t u : Nat} {F : Nat → Nat → Int32} {J : Nat → Int64} {w : q_M} {x : Nat → Nat} {l : Nat}
theorem cm_same {p f : Nat} {G H : Nat → Nat → Int32} {c : Prop} {hc : Decidable c} : cm (if c then G else H) p f = if c then cm G p f else cm H p f := by
  split <;> rfl
theorem s34 {a q : Nat} (ha : q_isT a = true) (ht : tx F x l) (hq : q < l) : q_ex X (34, 0, [.ref 1, .ref a, .null], [], q_w t u (cm F q 0) J) = some (none, q_w t u (cm (if (iI x l q).1 = 1 then cT F a (iI x l q).2.1 (iI x l q).2.2.1 else F) (iI x l q).2.2.2.1 (iI x l q).2.2.2.2) J) := by
  have ha2 := isT_cases ha
  have hl := ht.1
  have hx := ht.2.2.1 q hq
  have hxb := ht.2.2.2 q
  have b1 := c1_le (x := x) (l := l) (p := q + 1) hl (by omega)
  by_cases k1 : x q = 101
  · have hi : iI x l q = ((cE x l (c3 x l 3 1000 (lo3 x l (q + 1)) 30 (q + 1))).1, 4 * (c1 x l (q + 1)).1 + (c2 x l 3 1000 (q + 1)).1, (c3 x l 3 1000 (lo3 x l (q + 1)) 30 (q + 1)).1, (cE x l (c3 x l 3 1000 (lo3 x l (q + 1)) 30 (q + 1))).2.1, (cE x l (c3 x l 3 1000 (lo3 x l (q + 1)) 30 (q + 1))).2.2) := by
      unfold iI iR iX
      rw [if_pos (Or.inl k1), k1]
      rfl
    have b2 := c2_le (x := x) (l := l) (p := q + 1) (hi := 3) (b := 1000) hl (by omega)
    have hs := s35 (X := X) (t := t) (u := u) (J := J) (p := q + 1) ha ht (by omega) (r1 := c1 x l (q + 1)) (r2 := c2 x l 3 1000 (q + 1)) (r3 := c3 x l 3 1000 (lo3 x l (q + 1)) 30 (q + 1)) (e := cE x l (c3 x l 3 1000 (lo3 x l (q + 1)) 30 (q + 1))) rfl rfl rfl rfl
    rw [hi]
    simp (disch := (first | omega | assumption | rfl | (simp (disch := assumption) only [l9_2, l9_4, l9_5, l9_6, l9_7, l9_9, l9_10, l9_11, l9_12, l9_14, l9_15, l9_16, l9_17, l9_51, l9_52, l9_53, l9_55, l9_56, l9_58, l9_61, l9_73, l9_74, l9_75, l9_76, l9_77, l9_79, l9_80, l9_81, l9_82, l9_83, l9_84, l9_85, l10_59, l10_78, l9_D1, l9_D2, l9_D3, l9_D4, l9_T1, l9_T2, l9_T3, l9_T4]; omega) | decide)) only [e34_0, e34_1, e34_4, e34_5, e34_8, e34_9, e34_10, e34_11_c98, e34_11_c99, e34_11_c100, e34_11_c101, e34_11_c102, e34_11_c103, e34_11_c104, e34_11_c105, e34_11_c106, e34_11_c107, e34_11_c108, e34_11_c109, e34_11_c110, e34_11_d, e34_76, e34_77, e34_78, e34_81, e34_82, e34_83, e34_86, e34_87, e34_88, e34_91, e34_94, e34_95, e34_96, e34_99, e34_100, e34_101, e34_104, e34_105, e34_106, e34_109, e34_112, e34_113, e34_114, e34_117, e34_118, e34_119, e34_122, e34_123, e34_124, e34_127, e34_130, e34_131, e34_132, e34_135, e34_136, e34_137, e34_140, e34_141, e34_142, e34_145, e34_148, e34_149, e34_150, e34_153, e34_154, e34_155, e34_158, e34_159, e34_160, e34_163, e34_166, e34_167, e34_168, e34_171, e34_174, ↓reduceIte, Nat.reduceAdd, Nat.reduceMul, nI_add, pk_mul, n_lt_t, n_lt_f, n_le_t, n_le_f, n_eq_f, n_eq_t, n_z_f, n_z_t, n_lz, n_zl, not_true_eq_false, not_false_eq_true, cm_2, cm_n, hx, k1, cm_u2, hs, Option.bind_some, Option.toList_some, Option.toList_none, List.cons_append, List.nil_append]
    simp only [cT]
    rw [if_pos (show 4 * (c1 x l (q + 1)).1 + (c2 x l 3 1000 (q + 1)).1 < 16 by omega)]
  · by_cases k2 : x q = 110
    · have hi : iI x l q = ((cE x l (c3 x l 2 1000 0 20 (q + 1))).1, 16 + (3 * (c1 x l (q + 1)).1 + (c2 x l 2 1000 (q + 1)).1), (c3 x l 2 1000 0 20 (q + 1)).1, (cE x l (c3 x l 2 1000 0 20 (q + 1))).2.1, (cE x l (c3 x l 2 1000 0 20 (q + 1))).2.2) := by
        unfold iI iR iX
        rw [if_pos (Or.inr (Or.inl k2)), k2]
        rfl
      have b2 := c2_le (x := x) (l := l) (p := q + 1) (hi := 2) (b := 1000) hl (by omega)
      have hs := s36 (X := X) (t := t) (u := u) (J := J) (p := q + 1) ha ht (by omega) (r1 := c1 x l (q + 1)) (r2 := c2 x l 2 1000 (q + 1)) (r3 := c3 x l 2 1000 0 20 (q + 1)) (e := cE x l (c3 x l 2 1000 0 20 (q + 1))) rfl rfl rfl rfl
      rw [hi]
      simp (disch := (first | omega | assumption | rfl | (simp (disch := assumption) only [l9_2, l9_4, l9_5, l9_6, l9_7, l9_9, l9_10, l9_11, l9_12, l9_14, l9_15, l9_16, l9_17, l9_51, l9_52, l9_53, l9_55, l9_56, l9_58, l9_61, l9_73, l9_74, l9_75, l9_76, l9_77, l9_79, l9_80, l9_81, l9_82, l9_83, l9_84, l9_85, l10_59, l10_78, l9_D1, l9_D2, l9_D3, l9_D4, l9_T1, l9_T2, l9_T3, l9_T4]; omega) | decide)) only [e34_0, e34_1, e34_4, e34_5, e34_8, e34_9, e34_10, e34_11_c98, e34_11_c99, e34_11_c100, e34_11_c101, e34_11_c102, e34_11_c103, e34_11_c104, e34_11_c105, e34_11_c106, e34_11_c107, e34_11_c108, e34_11_c109, e34_11_c110, e34_11_d, e34_76, e34_77, e34_78, e34_81, e34_82, e34_83, e34_86, e34_87, e34_88, e34_91, e34_94, e34_95, e34_96, e34_99, e34_100, e34_101, e34_104, e34_105, e34_106, e34_109, e34_112, e34_113, e34_114, e34_117, e34_118, e34_119, e34_122, e34_123, e34_124, e34_127, e34_130, e34_131, e34_132, e34_135, e34_136, e34_137, e34_140, e34_141, e34_142, e34_145, e34_148, e34_149, e34_150, e34_153, e34_154, e34_155, e34_158, e34_159, e34_160, e34_163, e34_166, e34_167, e34_168, e34_171, e34_174, ↓reduceIte, Nat.reduceAdd, Nat.reduceMul, nI_add, pk_mul, n_lt_t, n_lt_f, n_le_t, n_le_f, n_eq_f, n_eq_t, n_z_f, n_z_t, n_lz, n_zl, not_true_eq_false, not_false_eq_true, cm_2, cm_n, hx, k2, cm_u2, hs, Option.bind_some, Option.toList_some, Option.toList_none, List.cons_append, List.nil_append]
      simp only [cT]
      rw [if_neg (show ¬ 16 + (3 * (c1 x l (q + 1)).1 + (c2 x l 2 1000 (q + 1)).1) < 16 by omega), if_pos (show 16 + (3 * (c1 x l (q + 1)).1 + (c2 x l 2 1000 (q + 1)).1) < 28 by omega), show 16 + (3 * (c1 x l (q + 1)).1 + (c2 x l 2 1000 (q + 1)).1) - 16 = 3 * (c1 x l (q + 1)).1 + (c2 x l 2 1000 (q + 1)).1 by omega]
    · by_cases k3 : x q = 103
      · have hi : iI x l q = ((cE x l (c3 x l 3 (c1 x l (q + 1)).1 0 9 (q + 1))).1, 28 + (4 * (c1 x l (q + 1)).1 + (c2 x l 3 (c1 x l (q + 1)).1 (q + 1)).1), (c3 x l 3 (c1 x l (q + 1)).1 0 9 (q + 1)).1, (cE x l (c3 x l 3 (c1 x l (q + 1)).1 0 9 (q + 1))).2.1, (cE x l (c3 x l 3 (c1 x l (q + 1)).1 0 9 (q + 1))).2.2) := by
          unfold iI iR iX
          rw [if_pos (Or.inr (Or.inr (Or.inl k3))), k3]
          rfl
        have b2 := c2_le (x := x) (l := l) (p := q + 1) (hi := 3) (b := (c1 x l (q + 1)).1) hl (by omega)
        have hs := s37 (X := X) (t := t) (u := u) (J := J) (p := q + 1) ha ht (by omega) (r1 := c1 x l (q + 1)) (r2 := c2 x l 3 (c1 x l (q + 1)).1 (q + 1)) (r3 := c3 x l 3 (c1 x l (q + 1)).1 0 9 (q + 1)) (e := cE x l (c3 x l 3 (c1 x l (q + 1)).1 0 9 (q + 1))) rfl rfl rfl rfl
        rw [hi]
        simp (disch := (first | omega | assumption | rfl | (simp (disch := assumption) only [l9_2, l9_4, l9_5, l9_6, l9_7, l9_9, l9_10, l9_11, l9_12, l9_14, l9_15, l9_16, l9_17, l9_51, l9_52, l9_53, l9_55, l9_56, l9_58, l9_61, l9_73, l9_74, l9_75, l9_76, l9_77, l9_79, l9_80, l9_81, l9_82, l9_83, l9_84, l9_85, l10_59, l10_78, l9_D1, l9_D2, l9_D3, l9_D4, l9_T1, l9_T2, l9_T3, l9_T4]; omega) | decide)) only [e34_0, e34_1, e34_4, e34_5, e34_8, e34_9, e34_10, e34_11_c98, e34_11_c99, e34_11_c100, e34_11_c101, e34_11_c102, e34_11_c103, e34_11_c104, e34_11_c105, e34_11_c106, e34_11_c107, e34_11_c108, e34_11_c109, e34_11_c110, e34_11_d, e34_76, e34_77, e34_78, e34_81, e34_82, e34_83, e34_86, e34_87, e34_88, e34_91, e34_94, e34_95, e34_96, e34_99, e34_100, e34_101, e34_104, e34_105, e34_106, e34_109, e34_112, e34_113, e34_114, e34_117, e34_118, e34_119, e34_122, e34_123, e34_124, e34_127, e34_130, e34_131, e34_132, e34_135, e34_136, e34_137, e34_140, e34_141, e34_142, e34_145, e34_148, e34_149, e34_150, e34_153, e34_154, e34_155, e34_158, e34_159, e34_160, e34_163, e34_166, e34_167, e34_168, e34_171, e34_174, ↓reduceIte, Nat.reduceAdd, Nat.reduceMul, nI_add, pk_mul, n_lt_t, n_lt_f, n_le_t, n_le_f, n_eq_f, n_eq_t, n_z_f, n_z_t, n_lz, n_zl, not_true_eq_false, not_false_eq_true, cm_2, cm_n, hx, k3, cm_u2, hs, Option.bind_some, Option.toList_some, Option.toList_none, List.cons_append, List.nil_append]
        simp only [cT]
        rw [if_neg (show ¬ 28 + (4 * (c1 x l (q + 1)).1 + (c2 x l 3 (c1 x l (q + 1)).1 (q + 1)).1) < 16 by omega), if_neg (show ¬ 28 + (4 * (c1 x l (q + 1)).1 + (c2 x l 3 (c1 x l (q + 1)).1 (q + 1)).1) < 28 by omega), if_pos (show 28 + (4 * (c1 x l (q + 1)).1 + (c2 x l 3 (c1 x l (q + 1)).1 (q + 1)).1) < 44 by omega), show 28 + (4 * (c1 x l (q + 1)).1 + (c2 x l 3 (c1 x l (q + 1)).1 (q + 1)).1) - 28 = 4 * (c1 x l (q + 1)).1 + (c2 x l 3 (c1 x l (q + 1)).1 (q + 1)).1 by omega]
      · by_cases k4 : x q = 98
        · have hi : iI x l q = ((cE x l (c2 x l 12 1000 (q + 1))).1, 44 + (c1 x l (q + 1)).1, (c2 x l 12 1000 (q + 1)).1, (cE x l (c2 x l 12 1000 (q + 1))).2.1, (cE x l (c2 x l 12 1000 (q + 1))).2.2) := by
            unfold iI iR iX
            rw [if_pos (Or.inr (Or.inr (Or.inr (Or.inl k4)))), k4]
            rfl
          have hs := s38 (X := X) (t := t) (u := u) (J := J) (p := q + 1) ha ht (by omega) (r1 := c1 x l (q + 1)) (r2 := c2 x l 12 1000 (q + 1)) (e := cE x l (c2 x l 12 1000 (q + 1))) rfl rfl rfl
          rw [hi]
          simp (disch := (first | omega | assumption | rfl | (simp (disch := assumption) only [l9_2, l9_4, l9_5, l9_6, l9_7, l9_9, l9_10, l9_11, l9_12, l9_14, l9_15, l9_16, l9_17, l9_51, l9_52, l9_53, l9_55, l9_56, l9_58, l9_61, l9_73, l9_74, l9_75, l9_76, l9_77, l9_79, l9_80, l9_81, l9_82, l9_83, l9_84, l9_85, l10_59, l10_78, l9_D1, l9_D2, l9_D3, l9_D4, l9_T1, l9_T2, l9_T3, l9_T4]; omega) | decide)) only [e34_0, e34_1, e34_4, e34_5, e34_8, e34_9, e34_10, e34_11_c98, e34_11_c99, e34_11_c100, e34_11_c101, e34_11_c102, e34_11_c103, e34_11_c104, e34_11_c105, e34_11_c106, e34_11_c107, e34_11_c108, e34_11_c109, e34_11_c110, e34_11_d, e34_76, e34_77, e34_78, e34_81, e34_82, e34_83, e34_86, e34_87, e34_88, e34_91, e34_94, e34_95, e34_96, e34_99, e34_100, e34_101, e34_104, e34_105, e34_106, e34_109, e34_112, e34_113, e34_114, e34_117, e34_118, e34_119, e34_122, e34_123, e34_124, e34_127, e34_130, e34_131, e34_132, e34_135, e34_136, e34_137, e34_140, e34_141, e34_142, e34_145, e34_148, e34_149, e34_150, e34_153, e34_154, e34_155, e34_158, e34_159, e34_160, e34_163, e34_166, e34_167, e34_168, e34_171, e34_174, ↓reduceIte, Nat.reduceAdd, Nat.reduceMul, nI_add, pk_mul, n_lt_t, n_lt_f, n_le_t, n_le_f, n_eq_f, n_eq_t, n_z_f, n_z_t, n_lz, n_zl, not_true_eq_false, not_false_eq_true, cm_2, cm_n, hx, k4, cm_u2, hs, Option.bind_some, Option.toList_some, Option.toList_none, List.cons_append, List.nil_append]
          simp only [cT]
          rw [if_neg (show ¬ 44 + (c1 x l (q + 1)).1 < 16 by omega), if_neg (show ¬ 44 + (c1 x l (q + 1)).1 < 28 by omega), if_neg (show ¬ 44 + (c1 x l (q + 1)).1 < 44 by omega), if_pos (show 44 + (c1 x l (q + 1)).1 < 48 by omega), show 44 + (c1 x l (q + 1)).1 - 44 = (c1 x l (q + 1)).1 by omega]
        · by_cases k5 : x q = 109
          · have hi : iI x l q = ((cE x l (cNum x l 1 12 1000 (q + 1) 0)).1, 48, (cNum x l 1 12 1000 (q + 1) 0).1, (cE x l (cNum x l 1 12 1000 (q + 1) 0)).2.1, (cE x l (cNum x l 1 12 1000 (q + 1) 0)).2.2) := by
              unfold iI iR iX
              rw [if_pos (Or.inr (Or.inr (Or.inr (Or.inr k5)))), k5]
              rfl
            have hs := s39 (X := X) (t := t) (u := u) (J := J) (p := q + 1) ha ht (by omega) (r1 := cNum x l 1 12 1000 (q + 1) 0) (e := cE x l (cNum x l 1 12 1000 (q + 1) 0)) rfl rfl
            rw [hi]
            simp (disch := (first | omega | assumption | rfl | (simp (disch := assumption) only [l9_2, l9_4, l9_5, l9_6, l9_7, l9_9, l9_10, l9_11, l9_12, l9_14, l9_15, l9_16, l9_17, l9_51, l9_52, l9_53, l9_55, l9_56, l9_58, l9_61, l9_73, l9_74, l9_75, l9_76, l9_77, l9_79, l9_80, l9_81, l9_82, l9_83, l9_84, l9_85, l10_59, l10_78, l9_D1, l9_D2, l9_D3, l9_D4, l9_T1, l9_T2, l9_T3, l9_T4]; omega) | decide)) only [e34_0, e34_1, e34_4, e34_5, e34_8, e34_9, e34_10, e34_11_c98, e34_11_c99, e34_11_c100, e34_11_c101, e34_11_c102, e34_11_c103, e34_11_c104, e34_11_c105, e34_11_c106, e34_11_c107, e34_11_c108, e34_11_c109, e34_11_c110, e34_11_d, e34_76, e34_77, e34_78, e34_81, e34_82, e34_83, e34_86, e34_87, e34_88, e34_91, e34_94, e34_95, e34_96, e34_99, e34_100, e34_101, e34_104, e34_105, e34_106, e34_109, e34_112, e34_113, e34_114, e34_117, e34_118, e34_119, e34_122, e34_123, e34_124, e34_127, e34_130, e34_131, e34_132, e34_135, e34_136, e34_137, e34_140, e34_141, e34_142, e34_145, e34_148, e34_149, e34_150, e34_153, e34_154, e34_155, e34_158, e34_159, e34_160, e34_163, e34_166, e34_167, e34_168, e34_171, e34_174, ↓reduceIte, Nat.reduceAdd, Nat.reduceMul, nI_add, pk_mul, n_lt_t, n_lt_f, n_le_t, n_le_f, n_eq_f, n_eq_t, n_z_f, n_z_t, n_lz, n_zl, not_true_eq_false, not_false_eq_true, cm_2, cm_n, hx, k5, cm_u2, hs, Option.bind_some, Option.toList_some, Option.toList_none, List.cons_append, List.nil_append]
            rfl
          · have hi : iI x l q = (0, 0, 0, q, q + 1) := by
              unfold iI
              rw [if_neg (by rintro (z | z | z | z | z) <;> omega)]
            rw [hi]
            simp (disch := (first | omega | assumption | rfl | (simp (disch := assumption) only [l9_2, l9_4, l9_5, l9_6, l9_7, l9_9, l9_10, l9_11, l9_12, l9_14, l9_15, l9_16, l9_17, l9_51, l9_52, l9_53, l9_55, l9_56, l9_58, l9_61, l9_73, l9_74, l9_75, l9_76, l9_77, l9_79, l9_80, l9_81, l9_82, l9_83, l9_84, l9_85, l10_59, l10_78, l9_D1, l9_D2, l9_D3, l9_D4, l9_T1, l9_T2, l9_T3, l9_T4]; omega) | decide)) only [e34_0, e34_1, e34_4, e34_5, e34_8, e34_9, e34_10, e34_76, e34_77, e34_78, e34_81, e34_82, e34_83, e34_86, e34_87, e34_88, e34_91, e34_94, e34_95, e34_96, e34_99, e34_100, e34_101, e34_104, e34_105, e34_106, e34_109, e34_112, e34_113, e34_114, e34_117, e34_118, e34_119, e34_122, e34_123, e34_124, e34_127, e34_130, e34_131, e34_132, e34_135, e34_136, e34_137, e34_140, e34_141, e34_142, e34_145, e34_148, e34_149, e34_150, e34_153, e34_154, e34_155, e34_158, e34_159, e34_160, e34_163, e34_166, e34_167, e34_168, e34_171, e34_174, ↓reduceIte, Nat.reduceAdd, Nat.reduceMul, nI_add, pk_mul, n_lt_t, n_lt_f, n_le_t, n_le_f, n_eq_f, n_eq_t, n_z_f, n_z_t, n_lz, n_zl, not_true_eq_false, not_false_eq_true, cm_2, cm_n, hx, k_sw hxb k4 k1 k3 k5 k2, cm_u3n, Nat.zero_ne_one]
/-- all ITEMS -/
def lp (x : Nat → Nat) (l : Nat) : Nat → Nat → Nat → Nat → (Nat → Nat) → Nat × Nat × (Nat → Nat)
  | 0, _, f, n, T => (f, n, T)
  | m + 1, q, f, n, T => if q < l ∧ f = 0 then lp x l m (sk x l (iI x l q).2.2.2.1) (iI x l q).2.2.2.2 (n + 1) (if (iI x l q).1 = 1 then updN T (iI x l q).2.1 (iI x l q).2.2.1 else T) else (f, n, T)
def rI (f n : Nat) : Int32 := if f = 0 then nI n else -10 - nI (f - 1)
theorem tx_n {G : Nat → Nat → Int32} (ht : tx F x l) (h1 : G 1 = F 1) (h2 : G 2 = F 2) : tx G x l := by
  unfold tx at *
  rw [h1, h2]; exact ht
theorem lp_stop {m q f n : Nat} {T : Nat → Nat} (h : ¬ (q < l ∧ f = 0)) : lp x l m q f n T = (f, n, T) := by
  cases m with
  | zero => rfl
  | succ m => simp only [lp, if_neg h]
theorem s32_l {a : Nat} (ha : q_isT a = true) (hl : l ≤ 160) : ∀ (m q f n : Nat) (T : Nat → Nat) (F : Nat → Nat → Int32), tx F x l → q ≤ l → (f = 0 → l ≤ m + q ∧ n ≤ q) → f ≤ 161 → n ≤ 161 → tR F a T → okT T →
    ∃ F' q', q_ex X (32, 18, [.ref 1, .ref a, .int (nI n), .int (nI n)], [], q_w t u (cm F q f) J) = some (some (.int (rI (lp x l m q f n T).1 (lp x l m q f n T).2.1)), q_w t u (cm F' q' (lp x l m q f n T).1) J) ∧ tR F' a (lp x l m q f n T).2.2 ∧ okT (lp x l m q f n T).2.2 ∧ (∀ b, (b < a ∨ a + 4 < b) → F' b = F b) ∧ (lp x l m q f n T).1 ≤ 161 ∧ (lp x l m q f n T).2.1 ≤ 161
  | m, q, f, n, T, F, ht, hq, hm, hf, hn, hR, hT => by
    have ha2 := isT_cases ha
    have hL := ht.2.1
    by_cases hf0 : f = 0
    · subst hf0
      by_cases hql : q < l
      · obtain ⟨m', rfl⟩ : ∃ m', m = m' + 1 := ⟨m - 1, by have := (hm rfl).1; omega⟩
        have hi := iI_le (x := x) hl hql
        have hm1 := hm rfl
        have hG1 : (if (iI x l q).1 = 1 then cT F a (iI x l q).2.1 (iI x l q).2.2.1 else F) 1 = F 1 := by
          split
          · exact cT_n (by omega)
          · rfl
        have hG2 : (if (iI x l q).1 = 1 then cT F a (iI x l q).2.1 (iI x l q).2.2.1 else F) 2 = F 2 := by
          split
          · exact cT_n (by omega)
          · rfl
        have ht2 := tx_n ht hG1 hG2
        have hsg := sk_ge (x := x) (l := l) (p := (iI x l q).2.2.2.1)
        have hsl := sk_le (x := x) (l := l) (p := (iI x l q).2.2.2.1) hi.2.2.1
        obtain ⟨F', q', i1, i2, i3, i4, i5, i6⟩ := s32_l ha hl m' (sk x l (iI x l q).2.2.2.1) (iI x l q).2.2.2.2 (n + 1) (if (iI x l q).1 = 1 then updN T (iI x l q).2.1 (iI x l q).2.2.1 else T) (if (iI x l q).1 = 1 then cT F a (iI x l q).2.1 (iI x l q).2.2.1 else F) ht2 hsl (fun z => by have := hi.2.2.2.2.2.1 z; omega) hi.2.2.2.1 (by omega) (by
          by_cases hc : (iI x l q).1 = 1
          · rw [if_pos hc, if_pos hc]; exact cT_R hi.2.1 hR
          · rw [if_neg hc, if_neg hc]; exact hR) (by
          by_cases hc : (iI x l q).1 = 1
          · rw [if_pos hc]; exact up_ok hl hql hT hc
          · rw [if_neg hc]; exact hT)
        have hlp : lp x l (m' + 1) q 0 n T = lp x l m' (sk x l (iI x l q).2.2.2.1) (iI x l q).2.2.2.2 (n + 1) (if (iI x l q).1 = 1 then updN T (iI x l q).2.1 (iI x l q).2.2.1 else T) := by
          rw [lp, if_pos ⟨hql, rfl⟩]
        have hsk := s33 (X := X) (t := t) (u := u) (J := J) (f := (iI x l q).2.2.2.2) (p := (iI x l q).2.2.2.1) ht2.1 ht2.2.1 ht2.2.2.1 ht2.2.2.2 (by omega)
        refine ⟨F', q', ?_, ?_, ?_, ?_, ?_, ?_⟩
        · rw [hlp, ← i1, e32_18]
          simp (disch := (first | omega | assumption | rfl | (simp (disch := assumption) only [l9_2, l9_4, l9_5, l9_6, l9_7, l9_9, l9_10, l9_11, l9_12, l9_14, l9_15, l9_16, l9_17, l9_51, l9_52, l9_53, l9_55, l9_56, l9_58, l9_61, l9_73, l9_74, l9_75, l9_76, l9_77, l9_79, l9_80, l9_81, l9_82, l9_83, l9_84, l9_85, l10_59, l10_78, l9_D1, l9_D2, l9_D3, l9_D4, l9_T1, l9_T2, l9_T3, l9_T4]; omega) | decide)) only [e32_0, e32_1, e32_2, e32_5, e32_6, e32_7, e32_10, e32_11, e32_12, e32_13, e32_16, e32_17, e32_19, e32_22, e32_25, e32_26, e32_29, e32_30, e32_33, e32_36, e32_37, e32_40, e32_41, e32_44, e32_45, e32_46, e32_49, e32_52, e32_53, e32_56, e32_59, e32_62, e32_63, e32_66, e32_67, e32_70, e32_71, e32_74, e32_76, e32_77, e32_80, e32_81, ↓reduceIte, Nat.reduceAdd, Nat.reduceMul, nI_add, pk_mul, n_lt_t, n_lt_f, n_le_t, n_le_f, n_eq_f, n_eq_t, n_z_f, n_z_t, n_lz, n_zl, not_true_eq_false, not_false_eq_true, cm_1, cm_2, cm_3, hL, fC_0, s34 ha ht hql, Option.bind_some, Option.toList_some, Option.toList_none, List.cons_append, List.nil_append, hsk]
        · rw [hlp]; exact i2
        · rw [hlp]; exact i3
        · intro b hb
          rw [i4 b hb]
          split
          · exact cT_n hb
          · rfl
        · rw [hlp]; exact i5
        · rw [hlp]; exact i6
      · have hlp : lp x l m q 0 n T = (0, n, T) := lp_stop (fun z => hql z.1)
        rw [hlp]
        refine ⟨F, q, ?_, hR, hT, fun b _ => rfl, by simp, hn⟩
        have hz : rI 0 n = nI n := rfl
        rw [e32_18, hz]
        by_cases h160 : n < 160
        · simp (disch := (first | omega | assumption | rfl | (simp (disch := assumption) only [l9_2, l9_4, l9_5, l9_6, l9_7, l9_9, l9_10, l9_11, l9_12, l9_14, l9_15, l9_16, l9_17, l9_51, l9_52, l9_53, l9_55, l9_56, l9_58, l9_61, l9_73, l9_74, l9_75, l9_76, l9_77, l9_79, l9_80, l9_81, l9_82, l9_83, l9_84, l9_85, l10_59, l10_78, l9_D1, l9_D2, l9_D3, l9_D4, l9_T1, l9_T2, l9_T3, l9_T4]; omega) | decide)) only [e32_0, e32_1, e32_2, e32_5, e32_6, e32_7, e32_10, e32_11, e32_12, e32_13, e32_16, e32_17, e32_19, e32_22, e32_25, e32_26, e32_29, e32_30, e32_33, e32_36, e32_37, e32_40, e32_41, e32_44, e32_45, e32_46, e32_49, e32_52, e32_53, e32_56, e32_59, e32_62, e32_63, e32_66, e32_67, e32_70, e32_71, e32_74, e32_76, e32_77, e32_80, e32_81, ↓reduceIte, Nat.reduceAdd, Nat.reduceMul, nI_add, pk_mul, n_lt_t, n_lt_f, n_le_t, n_le_f, n_eq_f, n_eq_t, n_z_f, n_z_t, n_lz, n_zl, not_true_eq_false, not_false_eq_true, cm_1, cm_2, cm_3, hL, fC_0]
        · simp (disch := (first | omega | assumption | rfl | (simp (disch := assumption) only [l9_2, l9_4, l9_5, l9_6, l9_7, l9_9, l9_10, l9_11, l9_12, l9_14, l9_15, l9_16, l9_17, l9_51, l9_52, l9_53, l9_55, l9_56, l9_58, l9_61, l9_73, l9_74, l9_75, l9_76, l9_77, l9_79, l9_80, l9_81, l9_82, l9_83, l9_84, l9_85, l10_59, l10_78, l9_D1, l9_D2, l9_D3, l9_D4, l9_T1, l9_T2, l9_T3, l9_T4]; omega) | decide)) only [e32_0, e32_1, e32_2, e32_5, e32_6, e32_7, e32_10, e32_11, e32_12, e32_13, e32_16, e32_17, e32_19, e32_22, e32_25, e32_26, e32_29, e32_30, e32_33, e32_36, e32_37, e32_40, e32_41, e32_44, e32_45, e32_46, e32_49, e32_52, e32_53, e32_56, e32_59, e32_62, e32_63, e32_66, e32_67, e32_70, e32_71, e32_74, e32_76, e32_77, e32_80, e32_81, ↓reduceIte, Nat.reduceAdd, Nat.reduceMul, nI_add, pk_mul, n_lt_t, n_lt_f, n_le_t, n_le_f, n_eq_f, n_eq_t, n_z_f, n_z_t, n_lz, n_zl, not_true_eq_false, not_false_eq_true, cm_1, cm_2, cm_3, hL, fC_0]
    · have hlp : lp x l m q f n T = (f, n, T) := lp_stop (fun z => hf0 z.2)
      rw [hlp]
      refine ⟨F, q, ?_, hR, hT, fun b _ => rfl, hf, hn⟩
      have hz : rI f n = -10 - nI (f - 1) := if_neg hf0
      rw [e32_18, hz]
      by_cases h160 : n < 160
      · by_cases hql : q < l
        · simp (disch := (first | omega | assumption | rfl | (simp (disch := assumption) only [l9_2, l9_4, l9_5, l9_6, l9_7, l9_9, l9_10, l9_11, l9_12, l9_14, l9_15, l9_16, l9_17, l9_51, l9_52, l9_53, l9_55, l9_56, l9_58, l9_61, l9_73, l9_74, l9_75, l9_76, l9_77, l9_79, l9_80, l9_81, l9_82, l9_83, l9_84, l9_85, l10_59, l10_78, l9_D1, l9_D2, l9_D3, l9_D4, l9_T1, l9_T2, l9_T3, l9_T4]; omega) | decide)) only [e32_0, e32_1, e32_2, e32_5, e32_6, e32_7, e32_10, e32_11, e32_12, e32_13, e32_16, e32_17, e32_19, e32_22, e32_25, e32_26, e32_29, e32_30, e32_33, e32_36, e32_37, e32_40, e32_41, e32_44, e32_45, e32_46, e32_49, e32_52, e32_53, e32_56, e32_59, e32_62, e32_63, e32_66, e32_67, e32_70, e32_71, e32_74, e32_76, e32_77, e32_80, e32_81, ↓reduceIte, Nat.reduceAdd, Nat.reduceMul, nI_add, pk_mul, n_lt_t, n_lt_f, n_le_t, n_le_f, n_eq_f, n_eq_t, n_z_f, n_z_t, n_lz, n_zl, not_true_eq_false, not_false_eq_true, cm_1, cm_2, cm_3, hL, fC_s hf0, n_mm1]
        · simp (disch := (first | omega | assumption | rfl | (simp (disch := assumption) only [l9_2, l9_4, l9_5, l9_6, l9_7, l9_9, l9_10, l9_11, l9_12, l9_14, l9_15, l9_16, l9_17, l9_51, l9_52, l9_53, l9_55, l9_56, l9_58, l9_61, l9_73, l9_74, l9_75, l9_76, l9_77, l9_79, l9_80, l9_81, l9_82, l9_83, l9_84, l9_85, l10_59, l10_78, l9_D1, l9_D2, l9_D3, l9_D4, l9_T1, l9_T2, l9_T3, l9_T4]; omega) | decide)) only [e32_0, e32_1, e32_2, e32_5, e32_6, e32_7, e32_10, e32_11, e32_12, e32_13, e32_16, e32_17, e32_19, e32_22, e32_25, e32_26, e32_29, e32_30, e32_33, e32_36, e32_37, e32_40, e32_41, e32_44, e32_45, e32_46, e32_49, e32_52, e32_53, e32_56, e32_59, e32_62, e32_63, e32_66, e32_67, e32_70, e32_71, e32_74, e32_76, e32_77, e32_80, e32_81, ↓reduceIte, Nat.reduceAdd, Nat.reduceMul, nI_add, pk_mul, n_lt_t, n_lt_f, n_le_t, n_le_f, n_eq_f, n_eq_t, n_z_f, n_z_t, n_lz, n_zl, not_true_eq_false, not_false_eq_true, cm_1, cm_2, cm_3, hL, fC_s hf0, n_mm1]
      · simp (disch := (first | omega | assumption | rfl | (simp (disch := assumption) only [l9_2, l9_4, l9_5, l9_6, l9_7, l9_9, l9_10, l9_11, l9_12, l9_14, l9_15, l9_16, l9_17, l9_51, l9_52, l9_53, l9_55, l9_56, l9_58, l9_61, l9_73, l9_74, l9_75, l9_76, l9_77, l9_79, l9_80, l9_81, l9_82, l9_83, l9_84, l9_85, l10_59, l10_78, l9_D1, l9_D2, l9_D3, l9_D4, l9_T1, l9_T2, l9_T3, l9_T4]; omega) | decide)) only [e32_0, e32_1, e32_2, e32_5, e32_6, e32_7, e32_10, e32_11, e32_12, e32_13, e32_16, e32_17, e32_19, e32_22, e32_25, e32_26, e32_29, e32_30, e32_33, e32_36, e32_37, e32_40, e32_41, e32_44, e32_45, e32_46, e32_49, e32_52, e32_53, e32_56, e32_59, e32_62, e32_63, e32_66, e32_67, e32_70, e32_71, e32_74, e32_76, e32_77, e32_80, e32_81, ↓reduceIte, Nat.reduceAdd, Nat.reduceMul, nI_add, pk_mul, n_lt_t, n_lt_f, n_le_t, n_le_f, n_eq_f, n_eq_t, n_z_f, n_z_t, n_lz, n_zl, not_true_eq_false, not_false_eq_true, cm_1, cm_2, cm_3, hL, fC_s hf0, n_mm1]
theorem s32 {a : Nat} {T : Nat → Nat} (ha : q_isT a = true) (ht : tx F x l) (hR : tR F a T) (hT : okT T) : ∃ F', q_ex X (32, 0, [.ref 1, .ref a, .null, .null], [], q_w t u F J) = some (some (.int (rI (lp x l l (sk x l 0) 0 0 T).1 (lp x l l (sk x l 0) 0 0 T).2.1)), q_w t u F' J) ∧ tR F' a (lp x l l (sk x l 0) 0 0 T).2.2 ∧ okT (lp x l l (sk x l 0) 0 0 T).2.2 ∧ (∀ b, b ≠ 1 → (b < a ∨ a + 4 < b) → F' b = F b) ∧ F' 1 1 = F 1 1 ∧ (lp x l l (sk x l 0) 0 0 T).1 ≤ 161 ∧ (lp x l l (sk x l 0) 0 0 T).2.1 ≤ 161 := by
  have ha2 := isT_cases ha
  have hs0 := sk_le (x := x) (l := l) (p := 0) (by omega)
  have hsk := s33 (X := X) (t := t) (u := u) (J := J) (f := 0) (p := 0) ht.1 ht.2.1 ht.2.2.1 ht.2.2.2 (by omega)
  obtain ⟨F', q', i1, i2, i3, i4, i5, i6⟩ := s32_l (X := X) (t := t) (u := u) (J := J) (x := x) (l := l) ha ht.1 l (sk x l 0) 0 0 T F ht hs0 (fun _ => by omega) (by omega) (by omega) hR hT
  have hc0 : q_up (q_up F 1 2 (nI 0)) 1 3 (-1) = cm F 0 0 := by
    funext b i
    simp only [q_app, cm, fC_0]
    grind
  refine ⟨cm F' q' (lp x l l (sk x l 0) 0 0 T).1, ?_, ?_, i3, ?_, ?_, i5, i6⟩
  · simp (disch := (first | omega | assumption | rfl | (simp (disch := assumption) only [l9_2, l9_4, l9_5, l9_6, l9_7, l9_9, l9_10, l9_11, l9_12, l9_14, l9_15, l9_16, l9_17, l9_51, l9_52, l9_53, l9_55, l9_56, l9_58, l9_61, l9_73, l9_74, l9_75, l9_76, l9_77, l9_79, l9_80, l9_81, l9_82, l9_83, l9_84, l9_85, l10_59, l10_78, l9_D1, l9_D2, l9_D3, l9_D4, l9_T1, l9_T2, l9_T3, l9_T4]; omega) | decide)) only [e32_0, e32_1, e32_2, e32_5, e32_6, e32_7, e32_10, e32_11, e32_12, e32_13, e32_16, e32_17, e32_19, e32_22, e32_25, e32_26, e32_29, e32_30, e32_33, e32_36, e32_37, e32_40, e32_41, e32_44, e32_45, e32_46, e32_49, e32_52, e32_53, e32_56, e32_59, e32_62, e32_63, e32_66, e32_67, e32_70, e32_71, e32_74, e32_76, e32_77, e32_80, e32_81, hc0, hsk, Option.bind_some, Option.toList_some, Option.toList_none, List.cons_append, List.nil_append]
    rw [i1]
  · obtain ⟨a1, a2, a3, a4, a5⟩ := i2
    unfold tR
    rw [cm_n (by omega), cm_n (by omega), cm_n (by omega), cm_n (by omega), cm_n (by omega)]
    exact ⟨a1, a2, a3, a4, a5⟩
  · intro b hb hb2
    rw [cm_n hb, i4 b hb2]
  · rw [cm_1, i4 1 (by omega)]
end S63
