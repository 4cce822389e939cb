/-! ===== QuietPairs$Done ===== -/
section S31
variable {X : Nat × (Nat → Int32)} {t u : Nat} {F : Nat → Nat → Int32} {J : Nat → Int64} {w : q_M}
/-- Done d becomes as Done e -/
def cpD (F : Nat → Nat → Int32) (d e : Nat) : Nat → Nat → Int32 := fun b i => if b = d ∧ i = 0 then F e 0 else if b = d + 1 ∧ i < 16 then F (e + 1) i else if b = d + 2 ∧ i < 16 then F (e + 2) i else if b = d + 3 ∧ i < 16 then F (e + 3) i else if b = d + 4 ∧ i < 12 then F (e + 4) i else F b i
theorem s2_l1 {d e : Nat} (hd : q_isD d = true) (he : q_isD e = true) (hde : d ≠ e) : q_ex X (2, 10, [.ref d, .ref e, .int (nI 0)], [], q_w t u F J) = q_ex X (2, 10, [.ref d, .ref e, .int (nI 16)], [], q_w t u (fun b i => if b = d + 1 ∧ i < 16 then F (e + 1) i else if b = d + 2 ∧ i < 16 then F (e + 2) i else F b i) J) := by
  have hap := isD_apart hd he hde
  have h := q_iter0 (X := X) (fun k => (2, 10, [.ref d, .ref e, .int (nI k)], [], q_w t u (fun b i => if b = d + 1 ∧ i < k then F (e + 1) i else if b = d + 2 ∧ i < k then F (e + 2) i else F b i) J)) 16 (fun k hk => ?_)
  · refine Eq.trans ?_ h
    congr 6
    funext b i
    grind
  · try dsimp only
    rw [e2_10]
    simp (disch := (first | omega | assumption | rfl | (simp (disch := assumption) only [l9_2, l9_4, l9_5, l9_6, l9_7, l9_9, l9_10, l9_11, l9_12, l9_14, l9_15, l9_16, l9_17, l9_51, l9_52, l9_53, l9_55, l9_56, l9_58, l9_61, l9_73, l9_74, l9_75, l9_76, l9_77, l9_79, l9_80, l9_81, l9_82, l9_83, l9_84, l9_85, l10_59, l10_78, l9_D1, l9_D2, l9_D3, l9_D4, l9_T1, l9_T2, l9_T3, l9_T4]; omega) | decide)) only [e2_0, e2_1, e2_2, e2_5, e2_8, e2_9, e2_11, e2_13, e2_16, e2_17, e2_20, e2_21, e2_22, e2_25, e2_26, e2_27, e2_28, e2_29, e2_32, e2_33, e2_34, e2_37, e2_38, e2_39, e2_40, e2_43, e2_46, e2_47, e2_48, e2_49, e2_51, e2_54, e2_55, e2_58, e2_59, e2_60, e2_63, e2_64, e2_65, e2_66, e2_69, e2_72, e2_73, e2_74, e2_75, e2_77, e2_80, e2_81, e2_84, e2_85, e2_86, e2_89, e2_90, e2_91, e2_92, e2_95, e2_98, ↓reduceIte, Nat.reduceAdd, Nat.reduceMul, nI_add, pk_mul, n_lt_t, n_lt_f, n_le_t, n_le_f, n_eq_f, n_eq_t, n_z_f, n_z_t, n_lz, n_zl, not_true_eq_false, not_false_eq_true, q_up_n]
    congr 6
    funext b i
    simp only [q_app]
    grind
end S31
section S31b
variable {X : Nat × (Nat → Int32)} {t u : Nat} {F : Nat → Nat → Int32} {J : Nat → Int64} {w : q_M}
theorem s2_l2 {d e : Nat} (hd : q_isD d = true) (he : q_isD e = true) (hde : d ≠ e) : q_ex X (2, 48, [.ref d, .ref e, .int (nI 0)], [], q_w t u F J) = q_ex X (2, 48, [.ref d, .ref e, .int (nI 16)], [], q_w t u (fun b i => if b = d + 3 ∧ i < 16 then F (e + 3) i else F b i) J) := by
  have hap := isD_apart hd he hde
  have h := q_iter0 (X := X) (fun k => (2, 48, [.ref d, .ref e, .int (nI k)], [], q_w t u (fun b i => if b = d + 3 ∧ i < k then F (e + 3) i else F b i) J)) 16 (fun k hk => ?_)
  · refine Eq.trans ?_ h
    congr 6
    funext b i
    grind
  · try dsimp only
    rw [e2_48]
    simp (disch := (first | omega | assumption | rfl | (simp (disch := assumption) only [l9_2, l9_4, l9_5, l9_6, l9_7, l9_9, l9_10, l9_11, l9_12, l9_14, l9_15, l9_16, l9_17, l9_51, l9_52, l9_53, l9_55, l9_56, l9_58, l9_61, l9_73, l9_74, l9_75, l9_76, l9_77, l9_79, l9_80, l9_81, l9_82, l9_83, l9_84, l9_85, l10_59, l10_78, l9_D1, l9_D2, l9_D3, l9_D4, l9_T1, l9_T2, l9_T3, l9_T4]; omega) | decide)) only [e2_0, e2_1, e2_2, e2_5, e2_8, e2_9, e2_11, e2_13, e2_16, e2_17, e2_20, e2_21, e2_22, e2_25, e2_26, e2_27, e2_28, e2_29, e2_32, e2_33, e2_34, e2_37, e2_38, e2_39, e2_40, e2_43, e2_46, e2_47, e2_49, e2_51, e2_54, e2_55, e2_58, e2_59, e2_60, e2_63, e2_64, e2_65, e2_66, e2_69, e2_72, e2_73, e2_75, e2_77, e2_80, e2_81, e2_84, e2_85, e2_86, e2_89, e2_90, e2_91, e2_92, e2_95, e2_98, ↓reduceIte, Nat.reduceAdd, Nat.reduceMul, nI_add, pk_mul, n_lt_t, n_lt_f, n_le_t, n_le_f, n_eq_f, n_eq_t, n_z_f, n_z_t, n_lz, n_zl, not_true_eq_false, not_false_eq_true]
    congr 6
    funext b i
    simp only [q_app]
    grind
theorem s2_l3 {d e : Nat} (hd : q_isD d = true) (he : q_isD e = true) (hde : d ≠ e) : q_ex X (2, 74, [.ref d, .ref e, .int (nI 0)], [], q_w t u F J) = q_ex X (2, 74, [.ref d, .ref e, .int (nI 12)], [], q_w t u (fun b i => if b = d + 4 ∧ i < 12 then F (e + 4) i else F b i) J) := by
  have hap := isD_apart hd he hde
  have h := q_iter0 (X := X) (fun k => (2, 74, [.ref d, .ref e, .int (nI k)], [], q_w t u (fun b i => if b = d + 4 ∧ i < k then F (e + 4) i else F b i) J)) 12 (fun k hk => ?_)
  · refine Eq.trans ?_ h
    congr 6
    funext b i
    grind
  · try dsimp only
    rw [e2_74]
    simp (disch := (first | omega | assumption | rfl | (simp (disch := assumption) only [l9_2, l9_4, l9_5, l9_6, l9_7, l9_9, l9_10, l9_11, l9_12, l9_14, l9_15, l9_16, l9_17, l9_51, l9_52, l9_53, l9_55, l9_56, l9_58, l9_61, l9_73, l9_74, l9_75, l9_76, l9_77, l9_79, l9_80, l9_81, l9_82, l9_83, l9_84, l9_85, l10_59, l10_78, l9_D1, l9_D2, l9_D3, l9_D4, l9_T1, l9_T2, l9_T3, l9_T4]; omega) | decide)) only [e2_0, e2_1, e2_2, e2_5, e2_8, e2_9, e2_11, e2_13, e2_16, e2_17, e2_20, e2_21, e2_22, e2_25, e2_26, e2_27, e2_28, e2_29, e2_32, e2_33, e2_34, e2_37, e2_38, e2_39, e2_40, e2_43, e2_46, e2_47, e2_49, e2_51, e2_54, e2_55, e2_58, e2_59, e2_60, e2_63, e2_64, e2_65, e2_66, e2_69, e2_72, e2_73, e2_75, e2_77, e2_80, e2_81, e2_84, e2_85, e2_86, e2_89, e2_90, e2_91, e2_92, e2_95, e2_98, ↓reduceIte, Nat.reduceAdd, Nat.reduceMul, nI_add, pk_mul, n_lt_t, n_lt_f, n_le_t, n_le_f, n_eq_f, n_eq_t, n_z_f, n_z_t, n_lz, n_zl, not_true_eq_false, not_false_eq_true]
    congr 6
    funext b i
    simp only [q_app]
    grind
theorem s2 {d e : Nat} (hd : q_isD d = true) (he : q_isD e = true) (hde : d ≠ e) : q_ex X (2, 0, [.ref d, .ref e, .null], [], q_w t u F J) = some (none, q_w t u (cpD F d e) J) := by
  have hap := isD_apart hd he hde
  simp (disch := (first | omega | assumption | rfl | (simp (disch := assumption) only [l9_2, l9_4, l9_5, l9_6, l9_7, l9_9, l9_10, l9_11, l9_12, l9_14, l9_15, l9_16, l9_17, l9_51, l9_52, l9_53, l9_55, l9_56, l9_58, l9_61, l9_73, l9_74, l9_75, l9_76, l9_77, l9_79, l9_80, l9_81, l9_82, l9_83, l9_84, l9_85, l10_59, l10_78, l9_D1, l9_D2, l9_D3, l9_D4, l9_T1, l9_T2, l9_T3, l9_T4]; omega) | decide)) only [e2_0, e2_1, e2_2, e2_5, e2_8, e2_9, e2_11, e2_13, e2_16, e2_17, e2_20, e2_21, e2_22, e2_25, e2_26, e2_27, e2_28, e2_29, e2_32, e2_33, e2_34, e2_37, e2_38, e2_39, e2_40, e2_43, e2_46, e2_47, e2_49, e2_51, e2_54, e2_55, e2_58, e2_59, e2_60, e2_63, e2_64, e2_65, e2_66, e2_69, e2_72, e2_73, e2_75, e2_77, e2_80, e2_81, e2_84, e2_85, e2_86, e2_89, e2_90, e2_91, e2_92, e2_95, e2_98]
  rw [s2_l1 hd he hde, e2_10]
  simp (disch := (first | omega | assumption | rfl | (simp (disch := assumption) only [l9_2, l9_4, l9_5, l9_6, l9_7, l9_9, l9_10, l9_11, l9_12, l9_14, l9_15, l9_16, l9_17, l9_51, l9_52, l9_53, l9_55, l9_56, l9_58, l9_61, l9_73, l9_74, l9_75, l9_76, l9_77, l9_79, l9_80, l9_81, l9_82, l9_83, l9_84, l9_85, l10_59, l10_78, l9_D1, l9_D2, l9_D3, l9_D4, l9_T1, l9_T2, l9_T3, l9_T4]; omega) | decide)) only [e2_0, e2_1, e2_2, e2_5, e2_8, e2_9, e2_11, e2_13, e2_16, e2_17, e2_20, e2_21, e2_22, e2_25, e2_26, e2_27, e2_28, e2_29, e2_32, e2_33, e2_34, e2_37, e2_38, e2_39, e2_40, e2_43, e2_46, e2_47, e2_49, e2_51, e2_54, e2_55, e2_58, e2_59, e2_60, e2_63, e2_64, e2_65, e2_66, e2_69, e2_72, e2_73, e2_75, e2_77, e2_80, e2_81, e2_84, e2_85, e2_86, e2_89, e2_90, e2_91, e2_92, e2_95, e2_98, ↓reduceIte, Nat.reduceAdd, Nat.reduceMul, nI_add, pk_mul, n_lt_t, n_lt_f, n_le_t, n_le_f, n_eq_f, n_eq_t, n_z_f, n_z_t, n_lz, n_zl, not_true_eq_false, not_false_eq_true]
  rw [s2_l2 hd he hde, e2_48]
  simp (disch := (first | omega | assumption | rfl | (simp (disch := assumption) only [l9_2, l9_4, l9_5, l9_6, l9_7, l9_9, l9_10, l9_11, l9_12, l9_14, l9_15, l9_16, l9_17, l9_51, l9_52, l9_53, l9_55, l9_56, l9_58, l9_61, l9_73, l9_74, l9_75, l9_76, l9_77, l9_79, l9_80, l9_81, l9_82, l9_83, l9_84, l9_85, l10_59, l10_78, l9_D1, l9_D2, l9_D3, l9_D4, l9_T1, l9_T2, l9_T3, l9_T4]; omega) | decide)) only [e2_0, e2_1, e2_2, e2_5, e2_8, e2_9, e2_11, e2_13, e2_16, e2_17, e2_20, e2_21, e2_22, e2_25, e2_26, e2_27, e2_28, e2_29, e2_32, e2_33, e2_34, e2_37, e2_38, e2_39, e2_40, e2_43, e2_46, e2_47, e2_49, e2_51, e2_54, e2_55, e2_58, e2_59, e2_60, e2_63, e2_64, e2_65, e2_66, e2_69, e2_72, e2_73, e2_75, e2_77, e2_80, e2_81, e2_84, e2_85, e2_86, e2_89, e2_90, e2_91, e2_92, e2_95, e2_98, ↓reduceIte, Nat.reduceAdd, Nat.reduceMul, nI_add, pk_mul, n_lt_t, n_lt_f, n_le_t, n_le_f, n_eq_f, n_eq_t, n_z_f, n_z_t, n_lz, n_zl, not_true_eq_false, not_false_eq_true]
  rw [s2_l3 hd he hde, e2_74]
  simp (disch := (first | omega | assumption | rfl | (simp (disch := assumption) only [l9_2, l9_4, l9_5, l9_6, l9_7, l9_9, l9_10, l9_11, l9_12, l9_14, l9_15, l9_16, l9_17, l9_51, l9_52, l9_53, l9_55, l9_56, l9_58, l9_61, l9_73, l9_74, l9_75, l9_76, l9_77, l9_79, l9_80, l9_81, l9_82, l9_83, l9_84, l9_85, l10_59, l10_78, l9_D1, l9_D2, l9_D3, l9_D4, l9_T1, l9_T2, l9_T3, l9_T4]; omega) | decide)) only [e2_0, e2_1, e2_2, e2_5, e2_8, e2_9, e2_11, e2_13, e2_16, e2_17, e2_20, e2_21, e2_22, e2_25, e2_26, e2_27, e2_28, e2_29, e2_32, e2_33, e2_34, e2_37, e2_38, e2_39, e2_40, e2_43, e2_46, e2_47, e2_49, e2_51, e2_54, e2_55, e2_58, e2_59, e2_60, e2_63, e2_64, e2_65, e2_66, e2_69, e2_72, e2_73, e2_75, e2_77, e2_80, e2_81, e2_84, e2_85, e2_86, e2_89, e2_90, e2_91, e2_92, e2_95, e2_98, ↓reduceIte, Nat.reduceAdd, Nat.reduceMul, nI_add, pk_mul, n_lt_t, n_lt_f, n_le_t, n_le_f, n_eq_f, n_eq_t, n_z_f, n_z_t, n_lz, n_zl, not_true_eq_false, not_false_eq_true]
  congr 3
  funext b i
  simp only [q_app, cpD]
  grind
theorem s3 {d : Nat} (hd : q_isD d = true) : q_ex X (3, 0, [.ref d, .null], [], q_w t u F J) = some (none, q_w t u (fun b i => if b = d + 3 ∧ i < 16 then nI 0 else F b i) J) := by
  have h := q_iter0 (X := X) (fun k => (3, 2, [.ref d, .int (nI k)], [], q_w t u (fun b i => if b = d + 3 ∧ i < k then nI 0 else F b i) J)) 16 (fun k hk => ?_)
  · simp only [e3_0, e3_1]
    refine Eq.trans ?_ (h.trans ?_)
    · congr 6
      funext b i
      grind
    · rw [e3_2]
      simp (disch := (first | omega | assumption | rfl | (simp (disch := assumption) only [l9_2, l9_4, l9_5, l9_6, l9_7, l9_9, l9_10, l9_11, l9_12, l9_14, l9_15, l9_16, l9_17, l9_51, l9_52, l9_53, l9_55, l9_56, l9_58, l9_61, l9_73, l9_74, l9_75, l9_76, l9_77, l9_79, l9_80, l9_81, l9_82, l9_83, l9_84, l9_85, l10_59, l10_78, l9_D1, l9_D2, l9_D3, l9_D4, l9_T1, l9_T2, l9_T3, l9_T4]; omega) | decide)) only [e3_0, e3_1, e3_3, e3_5, e3_8, e3_9, e3_12, e3_13, e3_14, e3_15, e3_18, e3_21, ↓reduceIte, Nat.reduceAdd, Nat.reduceMul, nI_add, pk_mul, n_lt_t, n_lt_f, n_le_t, n_le_f, n_eq_f, n_eq_t, n_z_f, n_z_t, n_lz, n_zl, not_true_eq_false, not_false_eq_true]
  · try dsimp only
    rw [e3_2]
    simp (disch := (first | omega | assumption | rfl | (simp (disch := assumption) only [l9_2, l9_4, l9_5, l9_6, l9_7, l9_9, l9_10, l9_11, l9_12, l9_14, l9_15, l9_16, l9_17, l9_51, l9_52, l9_53, l9_55, l9_56, l9_58, l9_61, l9_73, l9_74, l9_75, l9_76, l9_77, l9_79, l9_80, l9_81, l9_82, l9_83, l9_84, l9_85, l10_59, l10_78, l9_D1, l9_D2, l9_D3, l9_D4, l9_T1, l9_T2, l9_T3, l9_T4]; omega) | decide)) only [e3_0, e3_1, e3_3, e3_5, e3_8, e3_9, e3_12, e3_13, e3_14, e3_15, e3_18, e3_21, ↓reduceIte, Nat.reduceAdd, Nat.reduceMul, nI_add, pk_mul, n_lt_t, n_lt_f, n_le_t, n_le_f, n_eq_f, n_eq_t, n_z_f, n_z_t, n_lz, n_zl, not_true_eq_false, not_false_eq_true]
    congr 6
    funext b i
    simp only [q_app]
    grind
/-- a Done as at first, its EARS as a row e -/
def frD (F : Nat → Nat → Int32) (d e : Nat) : Nat → Nat → Int32 := fun b i => if b = d ∧ i = 0 then nI 0 else if b = d + 1 ∧ i < 16 then F e i else if b = d + 2 ∧ i < 16 then nI (if i % 5 = 0 then 1 else 0) else if b = d + 3 ∧ i < 16 then nI 0 else if b = d + 4 ∧ i < 12 then nI 0 else F b i
theorem s1_d : ∀ k, k < 16 → ((nI k / nI 4 = nI k - nI k / nI 4 * nI 4) ↔ k % 5 = 0) := by decide +kernel
theorem n_4 : ¬ nI 4 = 0 := by decide
theorem s1 {a : Nat} (ha : a = 4 ∨ a = 9) : q_ex X (1, 0, [.ref 13, .ref a, .null], [], q_w t u F J) = some (none, q_w t u (frD F 13 a) J) := by
  have hl : k_l9 a = 16 := by rcases ha with rfl | rfl <;> rfl
  have h := q_iter0 (X := X) (fun k => (1, 7, [.ref 13, .ref a, .int (nI k)], [], q_w t u (fun b i => if b = 13 ∧ i = 0 then nI 0 else if b = 14 ∧ i < k then F a i else if b = 15 ∧ i < k then nI (if i % 5 = 0 then 1 else 0) else F b i) J)) 16 (fun k hk => ?_)
  · simp (disch := (first | omega | assumption | rfl | (simp (disch := assumption) only [l9_2, l9_4, l9_5, l9_6, l9_7, l9_9, l9_10, l9_11, l9_12, l9_14, l9_15, l9_16, l9_17, l9_51, l9_52, l9_53, l9_55, l9_56, l9_58, l9_61, l9_73, l9_74, l9_75, l9_76, l9_77, l9_79, l9_80, l9_81, l9_82, l9_83, l9_84, l9_85, l10_59, l10_78, l9_D1, l9_D2, l9_D3, l9_D4, l9_T1, l9_T2, l9_T3, l9_T4]; omega) | decide)) only [e1_0, e1_1, e1_2, e1_5, e1_6, isD_13]
    have h' : q_ex X (1, 7, [.ref 13, .ref a, .int (nI 0)], [], q_w t u (q_up F 13 0 (nI 0)) J) = q_ex X (1, 7, [.ref 13, .ref a, .int (nI 16)], [], q_w t u (fun b i => if b = 13 ∧ i = 0 then nI 0 else if b = 14 ∧ i < 16 then F a i else if b = 15 ∧ i < 16 then nI (if i % 5 = 0 then 1 else 0) else F b i) J) := by
      refine Eq.trans ?_ h
      congr 6
      funext b i
      simp only [q_app]
      grind
    rw [h', e1_7]
    simp (disch := (first | omega | assumption | rfl | (simp (disch := assumption) only [l9_2, l9_4, l9_5, l9_6, l9_7, l9_9, l9_10, l9_11, l9_12, l9_14, l9_15, l9_16, l9_17, l9_51, l9_52, l9_53, l9_55, l9_56, l9_58, l9_61, l9_73, l9_74, l9_75, l9_76, l9_77, l9_79, l9_80, l9_81, l9_82, l9_83, l9_84, l9_85, l10_59, l10_78, l9_D1, l9_D2, l9_D3, l9_D4, l9_T1, l9_T2, l9_T3, l9_T4]; omega) | decide)) only [e1_0, e1_1, e1_2, e1_5, e1_6, e1_8, e1_10, e1_13, e1_14, e1_17, e1_18, e1_19, e1_20, e1_21, e1_22, e1_23, e1_26, e1_27, e1_28, e1_29, e1_30, e1_31, e1_32, e1_33, e1_36, e1_37, e1_40, e1_41, e1_42, e1_45, e1_48, e1_49, e1_52, e1_53, e1_55, e1_57, e1_60, e1_61, e1_64, e1_65, e1_66, e1_67, e1_70, e1_73, ↓reduceIte, Nat.reduceAdd, Nat.reduceMul, nI_add, pk_mul, n_lt_t, n_lt_f, n_le_t, n_le_f, n_eq_f, n_eq_t, n_z_f, n_z_t, n_lz, n_zl, not_true_eq_false, not_false_eq_true, isD_13, s3, Option.bind_some, Option.toList_some, Option.toList_none, List.cons_append, List.nil_append]
    have h2 := q_iter0 (X := X) (fun k => (1, 54, [.ref 13, .ref a, .int (nI k)], [], q_w t u (fun b i => if b = 17 ∧ i < k then nI 0 else if b = 16 ∧ i < 16 then nI 0 else if b = 13 ∧ i = 0 then nI 0 else if b = 14 ∧ i < 16 then F a i else if b = 15 ∧ i < 16 then nI (if i % 5 = 0 then 1 else 0) else F b i) J)) 12 (fun k hk => ?_)
    · refine Eq.trans ?_ (h2.trans ?_)
      · congr 6
        funext b i
        grind
      · rw [e1_54]
        simp (disch := (first | omega | assumption | rfl | (simp (disch := assumption) only [l9_2, l9_4, l9_5, l9_6, l9_7, l9_9, l9_10, l9_11, l9_12, l9_14, l9_15, l9_16, l9_17, l9_51, l9_52, l9_53, l9_55, l9_56, l9_58, l9_61, l9_73, l9_74, l9_75, l9_76, l9_77, l9_79, l9_80, l9_81, l9_82, l9_83, l9_84, l9_85, l10_59, l10_78, l9_D1, l9_D2, l9_D3, l9_D4, l9_T1, l9_T2, l9_T3, l9_T4]; omega) | decide)) only [e1_0, e1_1, e1_2, e1_5, e1_6, e1_8, e1_10, e1_13, e1_14, e1_17, e1_18, e1_19, e1_20, e1_21, e1_22, e1_23, e1_26, e1_27, e1_28, e1_29, e1_30, e1_31, e1_32, e1_33, e1_36, e1_37, e1_40, e1_41, e1_42, e1_45, e1_48, e1_49, e1_52, e1_53, e1_55, e1_57, e1_60, e1_61, e1_64, e1_65, e1_66, e1_67, e1_70, e1_73, ↓reduceIte, Nat.reduceAdd, Nat.reduceMul, nI_add, pk_mul, n_lt_t, n_lt_f, n_le_t, n_le_f, n_eq_f, n_eq_t, n_z_f, n_z_t, n_lz, n_zl, not_true_eq_false, not_false_eq_true]
        congr 3
        funext b i
        simp only [frD]
        grind
    · try dsimp only
      rw [e1_54]
      simp (disch := (first | omega | assumption | rfl | (simp (disch := assumption) only [l9_2, l9_4, l9_5, l9_6, l9_7, l9_9, l9_10, l9_11, l9_12, l9_14, l9_15, l9_16, l9_17, l9_51, l9_52, l9_53, l9_55, l9_56, l9_58, l9_61, l9_73, l9_74, l9_75, l9_76, l9_77, l9_79, l9_80, l9_81, l9_82, l9_83, l9_84, l9_85, l10_59, l10_78, l9_D1, l9_D2, l9_D3, l9_D4, l9_T1, l9_T2, l9_T3, l9_T4]; omega) | decide)) only [e1_0, e1_1, e1_2, e1_5, e1_6, e1_8, e1_10, e1_13, e1_14, e1_17, e1_18, e1_19, e1_20, e1_21, e1_22, e1_23, e1_26, e1_27, e1_28, e1_29, e1_30, e1_31, e1_32, e1_33, e1_36, e1_37, e1_40, e1_41, e1_42, e1_45, e1_48, e1_49, e1_52, e1_53, e1_55, e1_57, e1_60, e1_61, e1_64, e1_65, e1_66, e1_67, e1_70, e1_73, ↓reduceIte, Nat.reduceAdd, Nat.reduceMul, nI_add, pk_mul, n_lt_t, n_lt_f, n_le_t, n_le_f, n_eq_f, n_eq_t, n_z_f, n_z_t, n_lz, n_zl, not_true_eq_false, not_false_eq_true, isD_13]
      congr 6
      funext b i
      simp only [q_app]
      grind
  · try dsimp only
    rw [e1_7]
    by_cases h5 : k % 5 = 0
    · have h6 := eq_true ((s1_d k hk).mpr h5)
      simp (disch := (first | omega | assumption | rfl | (simp (disch := assumption) only [l9_2, l9_4, l9_5, l9_6, l9_7, l9_9, l9_10, l9_11, l9_12, l9_14, l9_15, l9_16, l9_17, l9_51, l9_52, l9_53, l9_55, l9_56, l9_58, l9_61, l9_73, l9_74, l9_75, l9_76, l9_77, l9_79, l9_80, l9_81, l9_82, l9_83, l9_84, l9_85, l10_59, l10_78, l9_D1, l9_D2, l9_D3, l9_D4, l9_T1, l9_T2, l9_T3, l9_T4]; omega) | decide)) only [e1_0, e1_1, e1_2, e1_5, e1_6, e1_8, e1_10, e1_13, e1_14, e1_17, e1_18, e1_19, e1_20, e1_21, e1_22, e1_23, e1_26, e1_27, e1_28, e1_29, e1_30, e1_31, e1_32, e1_33, e1_36, e1_37, e1_40, e1_41, e1_42, e1_45, e1_48, e1_49, e1_52, e1_53, e1_55, e1_57, e1_60, e1_61, e1_64, e1_65, e1_66, e1_67, e1_70, e1_73, ↓reduceIte, Nat.reduceAdd, Nat.reduceMul, nI_add, pk_mul, n_lt_t, n_lt_f, n_le_t, n_le_f, n_eq_f, n_eq_t, n_z_f, n_z_t, n_lz, n_zl, not_true_eq_false, not_false_eq_true, isD_13, n_4, h6]
      congr 6
      funext b i
      simp only [q_app]
      grind
    · have h6 : ¬ (nI k / nI 4 = nI k - nI k / nI 4 * nI 4) := fun z => h5 ((s1_d k hk).mp z)
      simp (disch := (first | omega | assumption | rfl | (simp (disch := assumption) only [l9_2, l9_4, l9_5, l9_6, l9_7, l9_9, l9_10, l9_11, l9_12, l9_14, l9_15, l9_16, l9_17, l9_51, l9_52, l9_53, l9_55, l9_56, l9_58, l9_61, l9_73, l9_74, l9_75, l9_76, l9_77, l9_79, l9_80, l9_81, l9_82, l9_83, l9_84, l9_85, l10_59, l10_78, l9_D1, l9_D2, l9_D3, l9_D4, l9_T1, l9_T2, l9_T3, l9_T4]; omega) | decide)) only [e1_0, e1_1, e1_2, e1_5, e1_6, e1_8, e1_10, e1_13, e1_14, e1_17, e1_18, e1_19, e1_20, e1_21, e1_22, e1_23, e1_26, e1_27, e1_28, e1_29, e1_30, e1_31, e1_32, e1_33, e1_36, e1_37, e1_40, e1_41, e1_42, e1_45, e1_48, e1_49, e1_52, e1_53, e1_55, e1_57, e1_60, e1_61, e1_64, e1_65, e1_66, e1_67, e1_70, e1_73, ↓reduceIte, Nat.reduceAdd, Nat.reduceMul, nI_add, pk_mul, n_lt_t, n_lt_f, n_le_t, n_le_f, n_eq_f, n_eq_t, n_z_f, n_z_t, n_lz, n_zl, not_true_eq_false, not_false_eq_true, isD_13, n_4, h6]
      congr 6
      funext b i
      simp only [q_app]
      grind
end S31b
