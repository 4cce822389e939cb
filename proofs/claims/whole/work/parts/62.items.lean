/-! ===== the class: ITEMS ===== -/
theorem k_sw {X : Nat × (Nat → Int32)} {L S : List Value} {w : q_M} {k : Nat} (hk : k < 256) (h1 : k ≠ 98) (h2 : k ≠ 101) (h3 : k ≠ 103) (h4 : k ≠ 109) (h5 : k ≠ 110) : q_ex X (34, 11, L, .int (nI k) :: S, w) = q_ex X (34, 166, L, S, w) := by
  by_cases hc : k < 98 ∨ 110 < k
  · refine e34_11_d ?_
    rw [nI_toInt (by omega)]
    omega
  · rcases (show k = 99 ∨ k = 100 ∨ k = 102 ∨ k = 104 ∨ k = 105 ∨ k = 106 ∨ k = 107 ∨ k = 108 by omega) with rfl | rfl | rfl | rfl | rfl | rfl | rfl | rfl
    · exact e34_11_c99
    · exact e34_11_c100
    · exact e34_11_c102
    · exact e34_11_c104
    · exact e34_11_c105
    · exact e34_11_c106
    · exact e34_11_c107
    · exact e34_11_c108
section S62
variable {X : Nat × (Nat → Int32)} {t u : Nat} {F : Nat → Nat → Int32} {J : Nat → Int64} {w : q_M} {x : Nat → Nat} {l : Nat}
theorem s35 {a p : Nat} {r1 r2 r3 e : Nat × Nat × Nat} (ha : q_isT a = true) (ht : tx F x l) (hp : p ≤ l) (h1 : r1 = cNum x l 0 3 1000 p 0) (h2 : r2 = cNum x l 0 3 1000 r1.2.1 r1.2.2) (h3 : r3 = cNum x l (if r2.1 = r1.1 then 1 else 0) 30 1000 r2.2.1 r2.2.2) (he : e = cEnd x l r3.2.1 r3.2.2) : q_ex X (35, 0, [.ref 1, .ref a, .null, .null, .null], [], q_w t u (cm F p 0) J) = some (none, q_w t u (cm (if e.1 = 1 then q_up F (a + 1) (4 * r1.1 + r2.1) (nI r3.1) else F) e.2.1 e.2.2) J) := by
  have ha2 := isT_cases ha
  have hl := ht.1
  have b1 := cNum_le (x := x) (lo := 0) (hi := 3) (b := 1000) hl hp (Nat.zero_le _) (by omega)
  rw [← h1] at b1
  have e1 := s40_n (X := X) (t := t) (u := u) (J := J) (lo := 0) (hi := 3) ht hp (Nat.zero_le _) (by omega) (by omega)
  rw [← h1] at e1
  have b2 := cNum_le (x := x) (lo := 0) (hi := 3) (b := 1000) hl b1.2.1 b1.2.2.1 (by omega)
  rw [← h2] at b2
  have e2 := s40_n (X := X) (t := t) (u := u) (J := J) (lo := 0) (hi := 3) ht b1.2.1 b1.2.2.1 (by omega) (by omega)
  rw [← h2] at e2
  have b3 := cNum_le (x := x) (lo := (if r2.1 = r1.1 then 1 else 0)) (hi := 30) (b := 1000) hl b2.2.1 b2.2.2.1 (by split <;> omega)
  rw [← h3] at b3
  have e3 := s40_n (X := X) (t := t) (u := u) (J := J) (lo := (if r2.1 = r1.1 then 1 else 0)) (hi := 30) ht b2.2.1 b2.2.2.1 (by split <;> omega) (by omega)
  rw [← h3] at e3
  have bb := cEnd_le (x := x) hl b3.2.1 b3.2.2.1
  rw [← he] at bb
  have ee := s42 (X := X) (t := t) (u := u) (J := J) ht b3.2.1 b3.2.2.1
  rw [← he] at ee
  by_cases hij : r2.1 = r1.1
  · rw [if_pos hij] at e3
    by_cases hf : e.1 = 1
    · rw [if_pos hf, ← cm_up (by omega)]
      simp (disch := (first | omega | assumption | rfl | (simp (disch := assumption) only [l9_2, l9_4, l9_5, l9_6, l9_7, l9_9, l9_10, l9_11, l9_12, l9_14, l9_15, l9_16, l9_17, l9_51, l9_52, l9_53, l9_55, l9_56, l9_58, l9_61, l9_73, l9_74, l9_75, l9_76, l9_77, l9_79, l9_80, l9_81, l9_82, l9_83, l9_84, l9_85, l10_59, l10_78, l9_D1, l9_D2, l9_D3, l9_D4, l9_T1, l9_T2, l9_T3, l9_T4]; omega) | decide)) only [e35_0, e35_1, e35_2, e35_3, e35_4, e35_7, e35_8, e35_9, e35_10, e35_11, e35_12, e35_15, e35_16, e35_17, e35_18, e35_19, e35_22, e35_23, e35_26, e35_27, e35_29, e35_30, e35_33, e35_35, e35_36, e35_39, e35_42, e35_43, e35_46, e35_47, e35_48, e35_49, e35_50, e35_51, e35_53, e35_54, ↓reduceIte, Nat.reduceAdd, Nat.reduceMul, nI_add, pk_mul, n_lt_t, n_lt_f, n_le_t, n_le_f, n_eq_f, n_eq_t, n_z_f, n_z_t, n_lz, n_zl, not_true_eq_false, not_false_eq_true, e1, e2, e3, ee, Option.bind_some, Option.toList_some, Option.toList_none, List.cons_append, List.nil_append, hij, hf]
    · rw [if_neg hf]
      have hf0 : e.1 = 0 := by omega
      simp (disch := (first | omega | assumption | rfl | (simp (disch := assumption) only [l9_2, l9_4, l9_5, l9_6, l9_7, l9_9, l9_10, l9_11, l9_12, l9_14, l9_15, l9_16, l9_17, l9_51, l9_52, l9_53, l9_55, l9_56, l9_58, l9_61, l9_73, l9_74, l9_75, l9_76, l9_77, l9_79, l9_80, l9_81, l9_82, l9_83, l9_84, l9_85, l10_59, l10_78, l9_D1, l9_D2, l9_D3, l9_D4, l9_T1, l9_T2, l9_T3, l9_T4]; omega) | decide)) only [e35_0, e35_1, e35_2, e35_3, e35_4, e35_7, e35_8, e35_9, e35_10, e35_11, e35_12, e35_15, e35_16, e35_17, e35_18, e35_19, e35_22, e35_23, e35_26, e35_27, e35_29, e35_30, e35_33, e35_35, e35_36, e35_39, e35_42, e35_43, e35_46, e35_47, e35_48, e35_49, e35_50, e35_51, e35_53, e35_54, ↓reduceIte, Nat.reduceAdd, Nat.reduceMul, nI_add, pk_mul, n_lt_t, n_lt_f, n_le_t, n_le_f, n_eq_f, n_eq_t, n_z_f, n_z_t, n_lz, n_zl, not_true_eq_false, not_false_eq_true, e1, e2, e3, ee, Option.bind_some, Option.toList_some, Option.toList_none, List.cons_append, List.nil_append, hij, hf0]
  · rw [if_neg hij] at e3
    by_cases hf : e.1 = 1
    · rw [if_pos hf, ← cm_up (by omega)]
      simp (disch := (first | omega | assumption | rfl | (simp (disch := assumption) only [l9_2, l9_4, l9_5, l9_6, l9_7, l9_9, l9_10, l9_11, l9_12, l9_14, l9_15, l9_16, l9_17, l9_51, l9_52, l9_53, l9_55, l9_56, l9_58, l9_61, l9_73, l9_74, l9_75, l9_76, l9_77, l9_79, l9_80, l9_81, l9_82, l9_83, l9_84, l9_85, l10_59, l10_78, l9_D1, l9_D2, l9_D3, l9_D4, l9_T1, l9_T2, l9_T3, l9_T4]; omega) | decide)) only [e35_0, e35_1, e35_2, e35_3, e35_4, e35_7, e35_8, e35_9, e35_10, e35_11, e35_12, e35_15, e35_16, e35_17, e35_18, e35_19, e35_22, e35_23, e35_26, e35_27, e35_29, e35_30, e35_33, e35_35, e35_36, e35_39, e35_42, e35_43, e35_46, e35_47, e35_48, e35_49, e35_50, e35_51, e35_53, e35_54, ↓reduceIte, Nat.reduceAdd, Nat.reduceMul, nI_add, pk_mul, n_lt_t, n_lt_f, n_le_t, n_le_f, n_eq_f, n_eq_t, n_z_f, n_z_t, n_lz, n_zl, not_true_eq_false, not_false_eq_true, e1, e2, e3, ee, Option.bind_some, Option.toList_some, Option.toList_none, List.cons_append, List.nil_append, hf]
    · rw [if_neg hf]
      have hf0 : e.1 = 0 := by omega
      simp (disch := (first | omega | assumption | rfl | (simp (disch := assumption) only [l9_2, l9_4, l9_5, l9_6, l9_7, l9_9, l9_10, l9_11, l9_12, l9_14, l9_15, l9_16, l9_17, l9_51, l9_52, l9_53, l9_55, l9_56, l9_58, l9_61, l9_73, l9_74, l9_75, l9_76, l9_77, l9_79, l9_80, l9_81, l9_82, l9_83, l9_84, l9_85, l10_59, l10_78, l9_D1, l9_D2, l9_D3, l9_D4, l9_T1, l9_T2, l9_T3, l9_T4]; omega) | decide)) only [e35_0, e35_1, e35_2, e35_3, e35_4, e35_7, e35_8, e35_9, e35_10, e35_11, e35_12, e35_15, e35_16, e35_17, e35_18, e35_19, e35_22, e35_23, e35_26, e35_27, e35_29, e35_30, e35_33, e35_35, e35_36, e35_39, e35_42, e35_43, e35_46, e35_47, e35_48, e35_49, e35_50, e35_51, e35_53, e35_54, ↓reduceIte, Nat.reduceAdd, Nat.reduceMul, nI_add, pk_mul, n_lt_t, n_lt_f, n_le_t, n_le_f, n_eq_f, n_eq_t, n_z_f, n_z_t, n_lz, n_zl, not_true_eq_false, not_false_eq_true, e1, e2, e3, ee, Option.bind_some, Option.toList_some, Option.toList_none, List.cons_append, List.nil_append, hf0]
theorem s36 {a p : Nat} {r1 r2 r3 e : Nat × Nat × Nat} (ha : q_isT a = true) (ht : tx F x l) (hp : p ≤ l) (h1 : r1 = cNum x l 0 3 1000 p 0) (h2 : r2 = cNum x l 0 2 1000 r1.2.1 r1.2.2) (h3 : r3 = cNum x l 0 20 1000 r2.2.1 r2.2.2) (he : e = cEnd x l r3.2.1 r3.2.2) : q_ex X (36, 0, [.ref 1, .ref a, .null, .null, .null], [], q_w t u (cm F p 0) J) = some (none, q_w t u (cm (if e.1 = 1 then q_up F (a + 3) (3 * r1.1 + r2.1) (nI r3.1) else F) e.2.1 e.2.2) J) := by
  have ha2 := isT_cases ha
  have hl := ht.1
  have b1 := cNum_le (x := x) (lo := 0) (hi := 3) (b := 1000) hl hp (Nat.zero_le _) (by omega)
  rw [← h1] at b1
  have e1 := s40_n (X := X) (t := t) (u := u) (J := J) (lo := 0) (hi := 3) ht hp (Nat.zero_le _) (by omega) (by omega)
  rw [← h1] at e1
  have b2 := cNum_le (x := x) (lo := 0) (hi := 2) (b := 1000) hl b1.2.1 b1.2.2.1 (by omega)
  rw [← h2] at b2
  have e2 := s40_n (X := X) (t := t) (u := u) (J := J) (lo := 0) (hi := 2) ht b1.2.1 b1.2.2.1 (by omega) (by omega)
  rw [← h2] at e2
  have b3 := cNum_le (x := x) (lo := 0) (hi := 20) (b := 1000) hl b2.2.1 b2.2.2.1 (by omega)
  rw [← h3] at b3
  have e3 := s40_n (X := X) (t := t) (u := u) (J := J) (lo := 0) (hi := 20) ht b2.2.1 b2.2.2.1 (by omega) (by omega)
  rw [← h3] at e3
  have bb := cEnd_le (x := x) hl b3.2.1 b3.2.2.1
  rw [← he] at bb
  have ee := s42 (X := X) (t := t) (u := u) (J := J) ht b3.2.1 b3.2.2.1
  rw [← he] at ee
  by_cases hf : e.1 = 1
  · rw [if_pos hf, ← cm_up (by omega)]
    simp (disch := (first | omega | assumption | rfl | (simp (disch := assumption) only [l9_2, l9_4, l9_5, l9_6, l9_7, l9_9, l9_10, l9_11, l9_12, l9_14, l9_15, l9_16, l9_17, l9_51, l9_52, l9_53, l9_55, l9_56, l9_58, l9_61, l9_73, l9_74, l9_75, l9_76, l9_77, l9_79, l9_80, l9_81, l9_82, l9_83, l9_84, l9_85, l10_59, l10_78, l9_D1, l9_D2, l9_D3, l9_D4, l9_T1, l9_T2, l9_T3, l9_T4]; omega) | decide)) only [e36_0, e36_1, e36_2, e36_3, e36_4, e36_7, e36_8, e36_9, e36_10, e36_11, e36_12, e36_15, e36_16, e36_17, e36_18, e36_20, e36_21, e36_24, e36_26, e36_27, e36_30, e36_33, e36_34, e36_37, e36_38, e36_39, e36_40, e36_41, e36_42, e36_44, e36_45, ↓reduceIte, Nat.reduceAdd, Nat.reduceMul, nI_add, pk_mul, n_lt_t, n_lt_f, n_le_t, n_le_f, n_eq_f, n_eq_t, n_z_f, n_z_t, n_lz, n_zl, not_true_eq_false, not_false_eq_true, e1, e2, e3, ee, Option.bind_some, Option.toList_some, Option.toList_none, List.cons_append, List.nil_append, hf]
  · rw [if_neg hf]
    have hf0 : e.1 = 0 := by omega
    simp (disch := (first | omega | assumption | rfl | (simp (disch := assumption) only [l9_2, l9_4, l9_5, l9_6, l9_7, l9_9, l9_10, l9_11, l9_12, l9_14, l9_15, l9_16, l9_17, l9_51, l9_52, l9_53, l9_55, l9_56, l9_58, l9_61, l9_73, l9_74, l9_75, l9_76, l9_77, l9_79, l9_80, l9_81, l9_82, l9_83, l9_84, l9_85, l10_59, l10_78, l9_D1, l9_D2, l9_D3, l9_D4, l9_T1, l9_T2, l9_T3, l9_T4]; omega) | decide)) only [e36_0, e36_1, e36_2, e36_3, e36_4, e36_7, e36_8, e36_9, e36_10, e36_11, e36_12, e36_15, e36_16, e36_17, e36_18, e36_20, e36_21, e36_24, e36_26, e36_27, e36_30, e36_33, e36_34, e36_37, e36_38, e36_39, e36_40, e36_41, e36_42, e36_44, e36_45, ↓reduceIte, Nat.reduceAdd, Nat.reduceMul, nI_add, pk_mul, n_lt_t, n_lt_f, n_le_t, n_le_f, n_eq_f, n_eq_t, n_z_f, n_z_t, n_lz, n_zl, not_true_eq_false, not_false_eq_true, e1, e2, e3, ee, Option.bind_some, Option.toList_some, Option.toList_none, List.cons_append, List.nil_append, hf0]
theorem s37 {a p : Nat} {r1 r2 r3 e : Nat × Nat × Nat} (ha : q_isT a = true) (ht : tx F x l) (hp : p ≤ l) (h1 : r1 = cNum x l 0 3 1000 p 0) (h2 : r2 = cNum x l 0 3 r1.1 r1.2.1 r1.2.2) (h3 : r3 = cNum x l 0 9 1000 r2.2.1 r2.2.2) (he : e = cEnd x l r3.2.1 r3.2.2) : q_ex X (37, 0, [.ref 1, .ref a, .null, .null, .null], [], q_w t u (cm F p 0) J) = some (none, q_w t u (cm (if e.1 = 1 then q_up F (a + 2) (4 * r1.1 + r2.1) (nI r3.1) else F) e.2.1 e.2.2) J) := by
  have ha2 := isT_cases ha
  have hl := ht.1
  have b1 := cNum_le (x := x) (lo := 0) (hi := 3) (b := 1000) hl hp (Nat.zero_le _) (by omega)
  rw [← h1] at b1
  have e1 := s40_n (X := X) (t := t) (u := u) (J := J) (lo := 0) (hi := 3) ht hp (Nat.zero_le _) (by omega) (by omega)
  rw [← h1] at e1
  have b2 := cNum_le (x := x) (lo := 0) (hi := 3) (b := r1.1) hl b1.2.1 b1.2.2.1 (by omega)
  rw [← h2] at b2
  have e2 := s40_g (X := X) (t := t) (u := u) (J := J) (lo := 0) (hi := 3) (b := r1.1) (bi := nI r1.1) (Or.inl ⟨by omega, rfl⟩) ht b1.2.1 b1.2.2.1 (by omega) (by omega)
  rw [← h2] at e2
  have b3 := cNum_le (x := x) (lo := 0) (hi := 9) (b := 1000) hl b2.2.1 b2.2.2.1 (by omega)
  rw [← h3] at b3
  have e3 := s40_n (X := X) (t := t) (u := u) (J := J) (lo := 0) (hi := 9) ht b2.2.1 b2.2.2.1 (by omega) (by omega)
  rw [← h3] at e3
  have bb := cEnd_le (x := x) hl b3.2.1 b3.2.2.1
  rw [← he] at bb
  have ee := s42 (X := X) (t := t) (u := u) (J := J) ht b3.2.1 b3.2.2.1
  rw [← he] at ee
  by_cases hf : e.1 = 1
  · rw [if_pos hf, ← cm_up (by omega)]
    simp (disch := (first | omega | assumption | rfl | (simp (disch := assumption) only [l9_2, l9_4, l9_5, l9_6, l9_7, l9_9, l9_10, l9_11, l9_12, l9_14, l9_15, l9_16, l9_17, l9_51, l9_52, l9_53, l9_55, l9_56, l9_58, l9_61, l9_73, l9_74, l9_75, l9_76, l9_77, l9_79, l9_80, l9_81, l9_82, l9_83, l9_84, l9_85, l10_59, l10_78, l9_D1, l9_D2, l9_D3, l9_D4, l9_T1, l9_T2, l9_T3, l9_T4]; omega) | decide)) only [e37_0, e37_1, e37_2, e37_3, e37_4, e37_7, e37_8, e37_9, e37_10, e37_11, e37_12, e37_15, e37_16, e37_17, e37_18, e37_20, e37_21, e37_24, e37_26, e37_27, e37_30, e37_33, e37_34, e37_37, e37_38, e37_39, e37_40, e37_41, e37_42, e37_44, e37_45, ↓reduceIte, Nat.reduceAdd, Nat.reduceMul, nI_add, pk_mul, n_lt_t, n_lt_f, n_le_t, n_le_f, n_eq_f, n_eq_t, n_z_f, n_z_t, n_lz, n_zl, not_true_eq_false, not_false_eq_true, e1, e2, e3, ee, Option.bind_some, Option.toList_some, Option.toList_none, List.cons_append, List.nil_append, hf]
  · rw [if_neg hf]
    have hf0 : e.1 = 0 := by omega
    simp (disch := (first | omega | assumption | rfl | (simp (disch := assumption) only [l9_2, l9_4, l9_5, l9_6, l9_7, l9_9, l9_10, l9_11, l9_12, l9_14, l9_15, l9_16, l9_17, l9_51, l9_52, l9_53, l9_55, l9_56, l9_58, l9_61, l9_73, l9_74, l9_75, l9_76, l9_77, l9_79, l9_80, l9_81, l9_82, l9_83, l9_84, l9_85, l10_59, l10_78, l9_D1, l9_D2, l9_D3, l9_D4, l9_T1, l9_T2, l9_T3, l9_T4]; omega) | decide)) only [e37_0, e37_1, e37_2, e37_3, e37_4, e37_7, e37_8, e37_9, e37_10, e37_11, e37_12, e37_15, e37_16, e37_17, e37_18, e37_20, e37_21, e37_24, e37_26, e37_27, e37_30, e37_33, e37_34, e37_37, e37_38, e37_39, e37_40, e37_41, e37_42, e37_44, e37_45, ↓reduceIte, Nat.reduceAdd, Nat.reduceMul, nI_add, pk_mul, n_lt_t, n_lt_f, n_le_t, n_le_f, n_eq_f, n_eq_t, n_z_f, n_z_t, n_lz, n_zl, not_true_eq_false, not_false_eq_true, e1, e2, e3, ee, Option.bind_some, Option.toList_some, Option.toList_none, List.cons_append, List.nil_append, hf0]
theorem s38 {a p : Nat} {r1 r2 e : Nat × Nat × Nat} (ha : q_isT a = true) (ht : tx F x l) (hp : p ≤ l) (h1 : r1 = cNum x l 0 3 1000 p 0) (h2 : r2 = cNum x l 0 12 1000 r1.2.1 r1.2.2) (he : e = cEnd x l r2.2.1 r2.2.2) : q_ex X (38, 0, [.ref 1, .ref a, .null, .null], [], q_w t u (cm F p 0) J) = some (none, q_w t u (cm (if e.1 = 1 then q_up F (a + 4) (r1.1) (nI r2.1) else F) e.2.1 e.2.2) J) := by
  have ha2 := isT_cases ha
  have hl := ht.1
  have b1 := cNum_le (x := x) (lo := 0) (hi := 3) (b := 1000) hl hp (Nat.zero_le _) (by omega)
  rw [← h1] at b1
  have e1 := s40_n (X := X) (t := t) (u := u) (J := J) (lo := 0) (hi := 3) ht hp (Nat.zero_le _) (by omega) (by omega)
  rw [← h1] at e1
  have b2 := cNum_le (x := x) (lo := 0) (hi := 12) (b := 1000) hl b1.2.1 b1.2.2.1 (by omega)
  rw [← h2] at b2
  have e2 := s40_n (X := X) (t := t) (u := u) (J := J) (lo := 0) (hi := 12) ht b1.2.1 b1.2.2.1 (by omega) (by omega)
  rw [← h2] at e2
  have bb := cEnd_le (x := x) hl b2.2.1 b2.2.2.1
  rw [← he] at bb
  have ee := s42 (X := X) (t := t) (u := u) (J := J) ht b2.2.1 b2.2.2.1
  rw [← he] at ee
  by_cases hf : e.1 = 1
  · rw [if_pos hf, ← cm_up (by omega)]
    simp (disch := (first | omega | assumption | rfl | (simp (disch := assumption) only [l9_2, l9_4, l9_5, l9_6, l9_7, l9_9, l9_10, l9_11, l9_12, l9_14, l9_15, l9_16, l9_17, l9_51, l9_52, l9_53, l9_55, l9_56, l9_58, l9_61, l9_73, l9_74, l9_75, l9_76, l9_77, l9_79, l9_80, l9_81, l9_82, l9_83, l9_84, l9_85, l10_59, l10_78, l9_D1, l9_D2, l9_D3, l9_D4, l9_T1, l9_T2, l9_T3, l9_T4]; omega) | decide)) only [e38_0, e38_1, e38_2, e38_3, e38_4, e38_7, e38_8, e38_9, e38_10, e38_12, e38_13, e38_16, e38_17, e38_18, e38_21, e38_24, e38_25, e38_28, e38_29, e38_30, e38_31, ↓reduceIte, Nat.reduceAdd, Nat.reduceMul, nI_add, pk_mul, n_lt_t, n_lt_f, n_le_t, n_le_f, n_eq_f, n_eq_t, n_z_f, n_z_t, n_lz, n_zl, not_true_eq_false, not_false_eq_true, e1, e2, ee, Option.bind_some, Option.toList_some, Option.toList_none, List.cons_append, List.nil_append, hf]
  · rw [if_neg hf]
    have hf0 : e.1 = 0 := by omega
    simp (disch := (first | omega | assumption | rfl | (simp (disch := assumption) only [l9_2, l9_4, l9_5, l9_6, l9_7, l9_9, l9_10, l9_11, l9_12, l9_14, l9_15, l9_16, l9_17, l9_51, l9_52, l9_53, l9_55, l9_56, l9_58, l9_61, l9_73, l9_74, l9_75, l9_76, l9_77, l9_79, l9_80, l9_81, l9_82, l9_83, l9_84, l9_85, l10_59, l10_78, l9_D1, l9_D2, l9_D3, l9_D4, l9_T1, l9_T2, l9_T3, l9_T4]; omega) | decide)) only [e38_0, e38_1, e38_2, e38_3, e38_4, e38_7, e38_8, e38_9, e38_10, e38_12, e38_13, e38_16, e38_17, e38_18, e38_21, e38_24, e38_25, e38_28, e38_29, e38_30, e38_31, ↓reduceIte, Nat.reduceAdd, Nat.reduceMul, nI_add, pk_mul, n_lt_t, n_lt_f, n_le_t, n_le_f, n_eq_f, n_eq_t, n_z_f, n_z_t, n_lz, n_zl, not_true_eq_false, not_false_eq_true, e1, e2, ee, Option.bind_some, Option.toList_some, Option.toList_none, List.cons_append, List.nil_append, hf0]
theorem s39 {a p : Nat} {r1 e : Nat × Nat × Nat} (ha : q_isT a = true) (ht : tx F x l) (hp : p ≤ l) (h1 : r1 = cNum x l 1 12 1000 p 0) (he : e = cEnd x l r1.2.1 r1.2.2) : q_ex X (39, 0, [.ref 1, .ref a, .null], [], q_w t u (cm F p 0) J) = some (none, q_w t u (cm (if e.1 = 1 then q_up F a 4 (nI r1.1) else F) e.2.1 e.2.2) J) := by
  have ha2 := isT_cases ha
  have hl := ht.1
  have b1 := cNum_le (x := x) (lo := 1) (hi := 12) (b := 1000) hl hp (Nat.zero_le _) (by omega)
  rw [← h1] at b1
  have e1 := s40_n (X := X) (t := t) (u := u) (J := J) (lo := 1) (hi := 12) ht hp (Nat.zero_le _) (by omega) (by omega)
  rw [← h1] at e1
  have bb := cEnd_le (x := x) hl b1.2.1 b1.2.2.1
  rw [← he] at bb
  have ee := s42 (X := X) (t := t) (u := u) (J := J) ht b1.2.1 b1.2.2.1
  rw [← he] at ee
  by_cases hf : e.1 = 1
  · rw [if_pos hf, ← cm_up (by omega)]
    simp (disch := (first | omega | assumption | rfl | (simp (disch := assumption) only [l9_2, l9_4, l9_5, l9_6, l9_7, l9_9, l9_10, l9_11, l9_12, l9_14, l9_15, l9_16, l9_17, l9_51, l9_52, l9_53, l9_55, l9_56, l9_58, l9_61, l9_73, l9_74, l9_75, l9_76, l9_77, l9_79, l9_80, l9_81, l9_82, l9_83, l9_84, l9_85, l10_59, l10_78, l9_D1, l9_D2, l9_D3, l9_D4, l9_T1, l9_T2, l9_T3, l9_T4]; omega) | decide)) only [e39_0, e39_1, e39_2, e39_4, e39_5, e39_8, e39_9, e39_10, e39_13, e39_16, e39_17, e39_18, e39_21, ↓reduceIte, Nat.reduceAdd, Nat.reduceMul, nI_add, pk_mul, n_lt_t, n_lt_f, n_le_t, n_le_f, n_eq_f, n_eq_t, n_z_f, n_z_t, n_lz, n_zl, not_true_eq_false, not_false_eq_true, e1, ee, Option.bind_some, Option.toList_some, Option.toList_none, List.cons_append, List.nil_append, hf]
  · rw [if_neg hf]
    have hf0 : e.1 = 0 := by omega
    simp (disch := (first | omega | assumption | rfl | (simp (disch := assumption) only [l9_2, l9_4, l9_5, l9_6, l9_7, l9_9, l9_10, l9_11, l9_12, l9_14, l9_15, l9_16, l9_17, l9_51, l9_52, l9_53, l9_55, l9_56, l9_58, l9_61, l9_73, l9_74, l9_75, l9_76, l9_77, l9_79, l9_80, l9_81, l9_82, l9_83, l9_84, l9_85, l10_59, l10_78, l9_D1, l9_D2, l9_D3, l9_D4, l9_T1, l9_T2, l9_T3, l9_T4]; omega) | decide)) only [e39_0, e39_1, e39_2, e39_4, e39_5, e39_8, e39_9, e39_10, e39_13, e39_16, e39_17, e39_18, e39_21, ↓reduceIte, Nat.reduceAdd, Nat.reduceMul, nI_add, pk_mul, n_lt_t, n_lt_f, n_le_t, n_le_f, n_eq_f, n_eq_t, n_z_f, n_z_t, n_lz, n_zl, not_true_eq_false, not_false_eq_true, e1, ee, Option.bind_some, Option.toList_some, Option.toList_none, List.cons_append, List.nil_append, hf0]
end S62
