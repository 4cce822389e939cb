/-! ===== the class: numbers, ITEMS ===== -/
abbrev okN (x : Nat → Nat) (l lo hi b q : Nat) : Prop := fgo x l q ∧ lo ≤ fgv x l q ∧ fgv x l q ≤ hi ∧ fgv x l q ≠ b
/-- a NUMBER: its value, where the reading is then, the fault -/
def cNum (x : Nat → Nat) (l lo hi b p f : Nat) : Nat × Nat × Nat := if f ≠ 0 then (lo, sk x l p, f) else if okN x l lo hi b (sk x l p) then (fgv x l (sk x l p), sk x l p + dd x l (sk x l p), 0) else (lo, sk x l p + dd x l (sk x l p), sk x l p + 1)
def cEnd (x : Nat → Nat) (l p f : Nat) : Nat × Nat × Nat := if f ≠ 0 then (0, sk x l p, f) else if sk x l p < l ∧ x (sk x l p) = 59 then (1, sk x l p + 1, 0) else (0, sk x l p, sk x l p + 1)
theorem dd_le {x : Nat → Nat} {l p : Nat} (h : p ≤ l) : p + dd x l p ≤ l := ddS_le l p h
theorem cNum_le {x : Nat → Nat} {l lo hi b p f : Nat} (hl : l ≤ 160) (hp : p ≤ l) (hf : f ≤ 161) (hlo : lo ≤ hi) : (cNum x l lo hi b p f).1 ≤ hi ∧ (cNum x l lo hi b p f).2.1 ≤ l ∧ (cNum x l lo hi b p f).2.2 ≤ 161 ∧ p ≤ (cNum x l lo hi b p f).2.1 := by
  have h1 := sk_le (x := x) hp
  have h0 := sk_ge (x := x) (l := l) (p := p)
  have h2 := dd_le (x := x) h1
  unfold cNum
  by_cases hf0 : f ≠ 0
  · rw [if_pos hf0]; exact ⟨hlo, h1, hf, h0⟩
  · rw [if_neg hf0]
    by_cases hk : okN x l lo hi b (sk x l p)
    · rw [if_pos hk]; exact ⟨hk.2.2.1, h2, by simp, by dsimp only; omega⟩
    · rw [if_neg hk]; exact ⟨hlo, h2, by dsimp only; omega, by dsimp only; omega⟩
theorem cEnd_le {x : Nat → Nat} {l p f : Nat} (hl : l ≤ 160) (hp : p ≤ l) (hf : f ≤ 161) : (cEnd x l p f).1 < 2 ∧ (cEnd x l p f).2.1 ≤ l ∧ (cEnd x l p f).2.2 ≤ 161 ∧ p ≤ (cEnd x l p f).2.1 ∧ ((cEnd x l p f).1 = 1 ↔ (cEnd x l p f).2.2 = 0) := by
  have h1 := sk_le (x := x) hp
  have h0 := sk_ge (x := x) (l := l) (p := p)
  unfold cEnd
  by_cases hf0 : f ≠ 0
  · rw [if_pos hf0]; exact ⟨by simp, h1, hf, h0, by simp [hf0]⟩
  · rw [if_neg hf0]
    by_cases hk : sk x l p < l ∧ x (sk x l p) = 59
    · rw [if_pos hk]; exact ⟨by simp, by simp; omega, by simp, by simp; omega, by simp⟩
    · rw [if_neg hk]; exact ⟨by simp, h1, by simp; omega, h0, by simp⟩
/-- the class's text -/
def tx (F : Nat → Nat → Int32) (x : Nat → Nat) (l : Nat) : Prop := l ≤ 160 ∧ F 1 1 = nI l ∧ (∀ i, i < l → F 2 i = nI (x i)) ∧ ∀ i, x i < 256
section S61
variable {X : Nat × (Nat → Int32)} {t u : Nat} {F : Nat → Nat → Int32} {J : Nat → Int64} {w : q_M} {x : Nat → Nat} {l : Nat}
theorem cm_up {p f a i : Nat} {v : Int32} (h : a ≠ 1) : q_up (cm F p f) a i v = cm (q_up F a i v) p f := by
  funext b k
  simp only [q_app, cm]
  grind
theorem s40_g {lo hi b p f : Nat} {bi : Int32} (hbi : (b < 4 ∧ bi = nI b) ∨ (b = 1000 ∧ bi = -1)) (ht : tx F x l) (hp : p ≤ l) (hf : f ≤ 161) (hlo : lo ≤ hi) (hhi : hi < 100) : q_ex X (40, 0, [.ref 1, .int (nI lo), .int (nI hi), .int bi, .null, .null], [], q_w t u (cm F p f) J) = some (some (.int (nI (cNum x l lo hi b p f).1)), q_w t u (cm F (cNum x l lo hi b p f).2.1 (cNum x l lo hi b p f).2.2) J) := by
  obtain ⟨hl, hL, hx, hxb⟩ := ht
  have h1 := sk_le (x := x) hp
  have h2 := dd_le (x := x) h1
  have hcv := cv_le (p := sk x l p) hxb (dd x l (sk x l p))
  have hs := fun f => s33 (X := X) (t := t) (u := u) (J := J) (f := f) (p := p) hl hL hx hxb (by omega)
  unfold cNum
  by_cases hf0 : f = 0
  · subst hf0
    rw [if_neg (by simp)]
    by_cases hfg : fgo x l (sk x l p)
    · have h4 := s41_t (X := X) (t := t) (u := u) (J := J) (f := 0) hl hL hx hxb h1 hfg
      have hv : fgv x l (sk x l p) ≤ 3000 := hcv
      by_cases c1 : lo ≤ fgv x l (sk x l p)
      · by_cases c2 : fgv x l (sk x l p) ≤ hi
        · by_cases c3 : fgv x l (sk x l p) = b
          · have hb4 : b < 4 ∧ bi = nI b := by
              rcases hbi with h | h
              · exact h
              · omega
            rw [if_neg (fun z => z.2.2.2 c3)]
            simp (disch := (first | omega | assumption | rfl | (simp (disch := assumption) only [l9_2, l9_4, l9_5, l9_6, l9_7, l9_9, l9_10, l9_11, l9_12, l9_14, l9_15, l9_16, l9_17, l9_51, l9_52, l9_53, l9_55, l9_56, l9_58, l9_61, l9_73, l9_74, l9_75, l9_76, l9_77, l9_79, l9_80, l9_81, l9_82, l9_83, l9_84, l9_85, l10_59, l10_78, l9_D1, l9_D2, l9_D3, l9_D4, l9_T1, l9_T2, l9_T3, l9_T4]; omega) | decide)) only [e40_0, e40_1, e40_4, e40_5, e40_8, e40_9, e40_12, e40_13, e40_14, e40_15, e40_18, e40_20, e40_21, e40_24, e40_26, e40_28, e40_29, e40_32, e40_34, e40_35, e40_38, e40_40, e40_41, e40_44, e40_45, e40_47, e40_50, e40_51, e40_52, e40_54, ↓reduceIte, Nat.reduceAdd, Nat.reduceMul, nI_add, pk_mul, n_lt_t, n_lt_f, n_le_t, n_le_f, n_eq_f, n_eq_t, n_z_f, n_z_t, n_lz, n_zl, not_true_eq_false, not_false_eq_true, hs, Option.bind_some, Option.toList_some, Option.toList_none, List.cons_append, List.nil_append, cm_3, cm_2, fC_0, h4, hb4.2, c3, cm_u3n]
          · rw [if_pos ⟨hfg, c1, c2, c3⟩]
            have e3 : (nI (fgv x l (sk x l p)) = bi) = False := by
              rcases hbi with ⟨h, h'⟩ | ⟨h, h'⟩
              · rw [h', n_eq_f c3 (by omega) (by omega)]
              · rw [h', n_mm1 (by omega)]
            simp (disch := (first | omega | assumption | rfl | (simp (disch := assumption) only [l9_2, l9_4, l9_5, l9_6, l9_7, l9_9, l9_10, l9_11, l9_12, l9_14, l9_15, l9_16, l9_17, l9_51, l9_52, l9_53, l9_55, l9_56, l9_58, l9_61, l9_73, l9_74, l9_75, l9_76, l9_77, l9_79, l9_80, l9_81, l9_82, l9_83, l9_84, l9_85, l10_59, l10_78, l9_D1, l9_D2, l9_D3, l9_D4, l9_T1, l9_T2, l9_T3, l9_T4]; omega) | decide)) only [e40_0, e40_1, e40_4, e40_5, e40_8, e40_9, e40_12, e40_13, e40_14, e40_15, e40_18, e40_20, e40_21, e40_24, e40_26, e40_28, e40_29, e40_32, e40_34, e40_35, e40_38, e40_40, e40_41, e40_44, e40_45, e40_47, e40_50, e40_51, e40_52, e40_54, ↓reduceIte, Nat.reduceAdd, Nat.reduceMul, nI_add, pk_mul, n_lt_t, n_lt_f, n_le_t, n_le_f, n_eq_f, n_eq_t, n_z_f, n_z_t, n_lz, n_zl, not_true_eq_false, not_false_eq_true, hs, Option.bind_some, Option.toList_some, Option.toList_none, List.cons_append, List.nil_append, cm_3, cm_2, fC_0, h4, e3]
        · rw [if_neg (fun z => c2 z.2.2.1)]
          simp (disch := (first | omega | assumption | rfl | (simp (disch := assumption) only [l9_2, l9_4, l9_5, l9_6, l9_7, l9_9, l9_10, l9_11, l9_12, l9_14, l9_15, l9_16, l9_17, l9_51, l9_52, l9_53, l9_55, l9_56, l9_58, l9_61, l9_73, l9_74, l9_75, l9_76, l9_77, l9_79, l9_80, l9_81, l9_82, l9_83, l9_84, l9_85, l10_59, l10_78, l9_D1, l9_D2, l9_D3, l9_D4, l9_T1, l9_T2, l9_T3, l9_T4]; omega) | decide)) only [e40_0, e40_1, e40_4, e40_5, e40_8, e40_9, e40_12, e40_13, e40_14, e40_15, e40_18, e40_20, e40_21, e40_24, e40_26, e40_28, e40_29, e40_32, e40_34, e40_35, e40_38, e40_40, e40_41, e40_44, e40_45, e40_47, e40_50, e40_51, e40_52, e40_54, ↓reduceIte, Nat.reduceAdd, Nat.reduceMul, nI_add, pk_mul, n_lt_t, n_lt_f, n_le_t, n_le_f, n_eq_f, n_eq_t, n_z_f, n_z_t, n_lz, n_zl, not_true_eq_false, not_false_eq_true, hs, Option.bind_some, Option.toList_some, Option.toList_none, List.cons_append, List.nil_append, cm_3, cm_2, fC_0, h4, cm_u3n]
      · rw [if_neg (fun z => c1 z.2.1)]
        simp (disch := (first | omega | assumption | rfl | (simp (disch := assumption) only [l9_2, l9_4, l9_5, l9_6, l9_7, l9_9, l9_10, l9_11, l9_12, l9_14, l9_15, l9_16, l9_17, l9_51, l9_52, l9_53, l9_55, l9_56, l9_58, l9_61, l9_73, l9_74, l9_75, l9_76, l9_77, l9_79, l9_80, l9_81, l9_82, l9_83, l9_84, l9_85, l10_59, l10_78, l9_D1, l9_D2, l9_D3, l9_D4, l9_T1, l9_T2, l9_T3, l9_T4]; omega) | decide)) only [e40_0, e40_1, e40_4, e40_5, e40_8, e40_9, e40_12, e40_13, e40_14, e40_15, e40_18, e40_20, e40_21, e40_24, e40_26, e40_28, e40_29, e40_32, e40_34, e40_35, e40_38, e40_40, e40_41, e40_44, e40_45, e40_47, e40_50, e40_51, e40_52, e40_54, ↓reduceIte, Nat.reduceAdd, Nat.reduceMul, nI_add, pk_mul, n_lt_t, n_lt_f, n_le_t, n_le_f, n_eq_f, n_eq_t, n_z_f, n_z_t, n_lz, n_zl, not_true_eq_false, not_false_eq_true, hs, Option.bind_some, Option.toList_some, Option.toList_none, List.cons_append, List.nil_append, cm_3, cm_2, fC_0, h4, cm_u3n]
    · have h4 := s41_f (X := X) (t := t) (u := u) (J := J) (f := 0) hl hL hx hxb h1 hfg
      rw [if_neg (fun z => hfg z.1)]
      simp (disch := (first | omega | assumption | rfl | (simp (disch := assumption) only [l9_2, l9_4, l9_5, l9_6, l9_7, l9_9, l9_10, l9_11, l9_12, l9_14, l9_15, l9_16, l9_17, l9_51, l9_52, l9_53, l9_55, l9_56, l9_58, l9_61, l9_73, l9_74, l9_75, l9_76, l9_77, l9_79, l9_80, l9_81, l9_82, l9_83, l9_84, l9_85, l10_59, l10_78, l9_D1, l9_D2, l9_D3, l9_D4, l9_T1, l9_T2, l9_T3, l9_T4]; omega) | decide)) only [e40_0, e40_1, e40_4, e40_5, e40_8, e40_9, e40_12, e40_13, e40_14, e40_15, e40_18, e40_20, e40_21, e40_24, e40_26, e40_28, e40_29, e40_32, e40_34, e40_35, e40_38, e40_40, e40_41, e40_44, e40_45, e40_47, e40_50, e40_51, e40_52, e40_54, ↓reduceIte, Nat.reduceAdd, Nat.reduceMul, nI_add, pk_mul, n_lt_t, n_lt_f, n_le_t, n_le_f, n_eq_f, n_eq_t, n_z_f, n_z_t, n_lz, n_zl, not_true_eq_false, not_false_eq_true, hs, Option.bind_some, Option.toList_some, Option.toList_none, List.cons_append, List.nil_append, cm_3, cm_2, fC_0, h4, n_m1l, cm_u3n]
  · rw [if_pos hf0]
    simp (disch := (first | omega | assumption | rfl | (simp (disch := assumption) only [l9_2, l9_4, l9_5, l9_6, l9_7, l9_9, l9_10, l9_11, l9_12, l9_14, l9_15, l9_16, l9_17, l9_51, l9_52, l9_53, l9_55, l9_56, l9_58, l9_61, l9_73, l9_74, l9_75, l9_76, l9_77, l9_79, l9_80, l9_81, l9_82, l9_83, l9_84, l9_85, l10_59, l10_78, l9_D1, l9_D2, l9_D3, l9_D4, l9_T1, l9_T2, l9_T3, l9_T4]; omega) | decide)) only [e40_0, e40_1, e40_4, e40_5, e40_8, e40_9, e40_12, e40_13, e40_14, e40_15, e40_18, e40_20, e40_21, e40_24, e40_26, e40_28, e40_29, e40_32, e40_34, e40_35, e40_38, e40_40, e40_41, e40_44, e40_45, e40_47, e40_50, e40_51, e40_52, e40_54, ↓reduceIte, Nat.reduceAdd, Nat.reduceMul, nI_add, pk_mul, n_lt_t, n_lt_f, n_le_t, n_le_f, n_eq_f, n_eq_t, n_z_f, n_z_t, n_lz, n_zl, not_true_eq_false, not_false_eq_true, hs, Option.bind_some, Option.toList_some, Option.toList_none, List.cons_append, List.nil_append, cm_3, fC_s hf0, n_mm1]
theorem s40_n {lo hi p f : Nat} (ht : tx F x l) (hp : p ≤ l) (hf : f ≤ 161) (hlo : lo ≤ hi) (hhi : hi < 100) : q_ex X (40, 0, [.ref 1, .int (nI lo), .int (nI hi), .int (-1), .null, .null], [], q_w t u (cm F p f) J) = some (some (.int (nI (cNum x l lo hi 1000 p f).1)), q_w t u (cm F (cNum x l lo hi 1000 p f).2.1 (cNum x l lo hi 1000 p f).2.2) J) := s40_g (Or.inr ⟨rfl, rfl⟩) ht hp hf hlo hhi
theorem s42 {p f : Nat} (ht : tx F x l) (hp : p ≤ l) (hf : f ≤ 161) : q_ex X (42, 0, [.ref 1], [], q_w t u (cm F p f) J) = some (some (.int (nI (cEnd x l p f).1)), q_w t u (cm F (cEnd x l p f).2.1 (cEnd x l p f).2.2) J) := by
  obtain ⟨hl, hL, hx, hxb⟩ := ht
  have h1 := sk_le (x := x) hp
  have hs := fun f => s33 (X := X) (t := t) (u := u) (J := J) (f := f) (p := p) hl hL hx hxb (by omega)
  unfold cEnd
  by_cases hf0 : f = 0
  · subst hf0
    rw [if_neg (by simp)]
    by_cases c1 : sk x l p < l
    · have h3 := hx _ c1
      have h4 := hxb (sk x l p)
      by_cases c2 : x (sk x l p) = 59
      · rw [if_pos ⟨c1, c2⟩]
        simp (disch := (first | omega | assumption | rfl | (simp (disch := assumption) only [l9_2, l9_4, l9_5, l9_6, l9_7, l9_9, l9_10, l9_11, l9_12, l9_14, l9_15, l9_16, l9_17, l9_51, l9_52, l9_53, l9_55, l9_56, l9_58, l9_61, l9_73, l9_74, l9_75, l9_76, l9_77, l9_79, l9_80, l9_81, l9_82, l9_83, l9_84, l9_85, l10_59, l10_78, l9_D1, l9_D2, l9_D3, l9_D4, l9_T1, l9_T2, l9_T3, l9_T4]; omega) | decide)) only [e42_0, e42_1, e42_4, e42_5, e42_8, e42_9, e42_12, e42_13, e42_14, e42_15, e42_18, e42_19, e42_22, e42_25, e42_26, e42_29, e42_30, e42_33, e42_34, e42_36, e42_39, e42_40, e42_41, e42_44, e42_47, e42_48, e42_49, e42_50, e42_51, e42_54, e42_55, e42_56, e42_59, e42_60, ↓reduceIte, Nat.reduceAdd, Nat.reduceMul, nI_add, pk_mul, n_lt_t, n_lt_f, n_le_t, n_le_f, n_eq_f, n_eq_t, n_z_f, n_z_t, n_lz, n_zl, not_true_eq_false, not_false_eq_true, hs, Option.bind_some, Option.toList_some, Option.toList_none, List.cons_append, List.nil_append, cm_3, cm_2, cm_1, cm_n, hL, fC_0, h3, c2, cm_u2]
      · rw [if_neg (fun z => c2 z.2)]
        simp (disch := (first | omega | assumption | rfl | (simp (disch := assumption) only [l9_2, l9_4, l9_5, l9_6, l9_7, l9_9, l9_10, l9_11, l9_12, l9_14, l9_15, l9_16, l9_17, l9_51, l9_52, l9_53, l9_55, l9_56, l9_58, l9_61, l9_73, l9_74, l9_75, l9_76, l9_77, l9_79, l9_80, l9_81, l9_82, l9_83, l9_84, l9_85, l10_59, l10_78, l9_D1, l9_D2, l9_D3, l9_D4, l9_T1, l9_T2, l9_T3, l9_T4]; omega) | decide)) only [e42_0, e42_1, e42_4, e42_5, e42_8, e42_9, e42_12, e42_13, e42_14, e42_15, e42_18, e42_19, e42_22, e42_25, e42_26, e42_29, e42_30, e42_33, e42_34, e42_36, e42_39, e42_40, e42_41, e42_44, e42_47, e42_48, e42_49, e42_50, e42_51, e42_54, e42_55, e42_56, e42_59, e42_60, ↓reduceIte, Nat.reduceAdd, Nat.reduceMul, nI_add, pk_mul, n_lt_t, n_lt_f, n_le_t, n_le_f, n_eq_f, n_eq_t, n_z_f, n_z_t, n_lz, n_zl, not_true_eq_false, not_false_eq_true, hs, Option.bind_some, Option.toList_some, Option.toList_none, List.cons_append, List.nil_append, cm_3, cm_2, cm_1, cm_n, hL, fC_0, h3, cm_u3n]
    · rw [if_neg (fun z => c1 z.1)]
      simp (disch := (first | omega | assumption | rfl | (simp (disch := assumption) only [l9_2, l9_4, l9_5, l9_6, l9_7, l9_9, l9_10, l9_11, l9_12, l9_14, l9_15, l9_16, l9_17, l9_51, l9_52, l9_53, l9_55, l9_56, l9_58, l9_61, l9_73, l9_74, l9_75, l9_76, l9_77, l9_79, l9_80, l9_81, l9_82, l9_83, l9_84, l9_85, l10_59, l10_78, l9_D1, l9_D2, l9_D3, l9_D4, l9_T1, l9_T2, l9_T3, l9_T4]; omega) | decide)) only [e42_0, e42_1, e42_4, e42_5, e42_8, e42_9, e42_12, e42_13, e42_14, e42_15, e42_18, e42_19, e42_22, e42_25, e42_26, e42_29, e42_30, e42_33, e42_34, e42_36, e42_39, e42_40, e42_41, e42_44, e42_47, e42_48, e42_49, e42_50, e42_51, e42_54, e42_55, e42_56, e42_59, e42_60, ↓reduceIte, Nat.reduceAdd, Nat.reduceMul, nI_add, pk_mul, n_lt_t, n_lt_f, n_le_t, n_le_f, n_eq_f, n_eq_t, n_z_f, n_z_t, n_lz, n_zl, not_true_eq_false, not_false_eq_true, hs, Option.bind_some, Option.toList_some, Option.toList_none, List.cons_append, List.nil_append, cm_3, cm_2, cm_1, cm_n, hL, fC_0, cm_u3n]
  · rw [if_pos hf0]
    simp (disch := (first | omega | assumption | rfl | (simp (disch := assumption) only [l9_2, l9_4, l9_5, l9_6, l9_7, l9_9, l9_10, l9_11, l9_12, l9_14, l9_15, l9_16, l9_17, l9_51, l9_52, l9_53, l9_55, l9_56, l9_58, l9_61, l9_73, l9_74, l9_75, l9_76, l9_77, l9_79, l9_80, l9_81, l9_82, l9_83, l9_84, l9_85, l10_59, l10_78, l9_D1, l9_D2, l9_D3, l9_D4, l9_T1, l9_T2, l9_T3, l9_T4]; omega) | decide)) only [e42_0, e42_1, e42_4, e42_5, e42_8, e42_9, e42_12, e42_13, e42_14, e42_15, e42_18, e42_19, e42_22, e42_25, e42_26, e42_29, e42_30, e42_33, e42_34, e42_36, e42_39, e42_40, e42_41, e42_44, e42_47, e42_48, e42_49, e42_50, e42_51, e42_54, e42_55, e42_56, e42_59, e42_60, ↓reduceIte, Nat.reduceAdd, Nat.reduceMul, nI_add, pk_mul, n_lt_t, n_lt_f, n_le_t, n_le_f, n_eq_f, n_eq_t, n_z_f, n_z_t, n_lz, n_zl, not_true_eq_false, not_false_eq_true, hs, Option.bind_some, Option.toList_some, Option.toList_none, List.cons_append, List.nil_append, cm_3, fC_s hf0, n_mm1]
end S61
