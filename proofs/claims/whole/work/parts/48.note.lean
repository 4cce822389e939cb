/-! ===== the model: begin, start, note, POWER's rows ===== -/
theorem i_add0 (x : Int32) : x + nI 0 = x := by
  have h : nI 0 = 0 := rfl
  rw [h]; exact Int32.add_zero x
section S48
variable {X : Nat × (Nat → Int32)} {t u : Nat} {F : Nat → Nat → Int32} {J : Nat → Int64} {w : q_M}
theorem s90 {a : Nat} (ha : a = 73 ∨ a = 74) : q_ex X (90, 0, [.ref a, .null], [], q_w t u F J) = some (none, q_w t u (bgM F a) J) := by
  have hl : k_l9 a = 49 := by rcases ha with rfl | rfl <;> rfl
  have h := q_iter0 (X := X) (fun k => (90, 2, [.ref a, .int (nI k)], [], q_w t u (fun b i => if b = a ∧ i < k then nI (if i < 16 then (if i % 5 = 0 then 1 else 0) else 0) else F b i) J)) 49 (fun k hk => ?_)
  · simp only [e90_0, e90_1]
    have h' : q_ex X (90, 2, [.ref a, .int (nI 0)], [], q_w t u F J) = _ := Eq.trans (by congr 6; funext b i; grind) h
    rw [h', e90_2]
    simp (disch := (first | omega | assumption | rfl | (simp (disch := assumption) only [l9_2, l9_4, l9_5, l9_6, l9_7, l9_9, l9_10, l9_11, l9_12, l9_14, l9_15, l9_16, l9_17, l9_51, l9_52, l9_53, l9_55, l9_56, l9_58, l9_61, l9_73, l9_74, l9_75, l9_76, l9_77, l9_79, l9_80, l9_81, l9_82, l9_83, l9_84, l9_85, l10_59, l10_78, l9_D1, l9_D2, l9_D3, l9_D4, l9_T1, l9_T2, l9_T3, l9_T4]; omega) | decide)) only [e90_0, e90_1, e90_3, e90_5, e90_8, e90_9, e90_10, e90_11, e90_13, e90_16, e90_17, e90_18, e90_19, e90_22, e90_23, e90_26, e90_27, e90_28, e90_31, e90_34, e90_35, e90_37, e90_38, e90_41, e90_42, e90_44, e90_45, e90_46, e90_47, e90_48, e90_51, e90_54, e90_55, e90_57, e90_59, e90_60, ↓reduceIte, Nat.reduceAdd, Nat.reduceMul, nI_add, pk_mul, n_lt_t, n_lt_f, n_le_t, n_le_f, n_eq_f, n_eq_t, n_z_f, n_z_t, n_lz, n_zl, not_true_eq_false, not_false_eq_true]
    have h2 := q_iter0 (X := X) (fun k => (90, 36, [.ref a, .int (nI k)], [], q_w t u (fun b i => if b = a ∧ i < 49 then nI (if i < 16 then (if i % 5 = 0 then 1 else 0) else if 44 ≤ i ∧ i < 44 + k then 4 else 0) else F b i) J)) 4 (fun k hk => ?_)
    · refine Eq.trans ?_ (h2.trans ?_)
      · congr 6
        funext b i
        grind
      · rw [e90_36]
        simp (disch := (first | omega | assumption | rfl | (simp (disch := assumption) only [l9_2, l9_4, l9_5, l9_6, l9_7, l9_9, l9_10, l9_11, l9_12, l9_14, l9_15, l9_16, l9_17, l9_51, l9_52, l9_53, l9_55, l9_56, l9_58, l9_61, l9_73, l9_74, l9_75, l9_76, l9_77, l9_79, l9_80, l9_81, l9_82, l9_83, l9_84, l9_85, l10_59, l10_78, l9_D1, l9_D2, l9_D3, l9_D4, l9_T1, l9_T2, l9_T3, l9_T4]; omega) | decide)) only [e90_0, e90_1, e90_3, e90_5, e90_8, e90_9, e90_10, e90_11, e90_13, e90_16, e90_17, e90_18, e90_19, e90_22, e90_23, e90_26, e90_27, e90_28, e90_31, e90_34, e90_35, e90_37, e90_38, e90_41, e90_42, e90_44, e90_45, e90_46, e90_47, e90_48, e90_51, e90_54, e90_55, e90_57, e90_59, e90_60, ↓reduceIte, Nat.reduceAdd, Nat.reduceMul, nI_add, pk_mul, n_lt_t, n_lt_f, n_le_t, n_le_f, n_eq_f, n_eq_t, n_z_f, n_z_t, n_lz, n_zl, not_true_eq_false, not_false_eq_true]
        congr 3
        funext b i
        simp only [q_app, bgM, bg]
        grind
    · try dsimp only
      rw [e90_36]
      simp (disch := (first | omega | assumption | rfl | (simp (disch := assumption) only [l9_2, l9_4, l9_5, l9_6, l9_7, l9_9, l9_10, l9_11, l9_12, l9_14, l9_15, l9_16, l9_17, l9_51, l9_52, l9_53, l9_55, l9_56, l9_58, l9_61, l9_73, l9_74, l9_75, l9_76, l9_77, l9_79, l9_80, l9_81, l9_82, l9_83, l9_84, l9_85, l10_59, l10_78, l9_D1, l9_D2, l9_D3, l9_D4, l9_T1, l9_T2, l9_T3, l9_T4]; omega) | decide)) only [e90_0, e90_1, e90_3, e90_5, e90_8, e90_9, e90_10, e90_11, e90_13, e90_16, e90_17, e90_18, e90_19, e90_22, e90_23, e90_26, e90_27, e90_28, e90_31, e90_34, e90_35, e90_37, e90_38, e90_41, e90_42, e90_44, e90_45, e90_46, e90_47, e90_48, e90_51, e90_54, e90_55, e90_57, e90_59, e90_60, ↓reduceIte, Nat.reduceAdd, Nat.reduceMul, nI_add, pk_mul, n_lt_t, n_lt_f, n_le_t, n_le_f, n_eq_f, n_eq_t, n_z_f, n_z_t, n_lz, n_zl, not_true_eq_false, not_false_eq_true]
      congr 6
      funext b i
      simp only [q_app]
      grind
  · try dsimp only
    rw [e90_2]
    by_cases h16 : k < 16
    · by_cases h5 : k % 5 = 0
      · simp (disch := (first | omega | assumption | rfl | (simp (disch := assumption) only [l9_2, l9_4, l9_5, l9_6, l9_7, l9_9, l9_10, l9_11, l9_12, l9_14, l9_15, l9_16, l9_17, l9_51, l9_52, l9_53, l9_55, l9_56, l9_58, l9_61, l9_73, l9_74, l9_75, l9_76, l9_77, l9_79, l9_80, l9_81, l9_82, l9_83, l9_84, l9_85, l10_59, l10_78, l9_D1, l9_D2, l9_D3, l9_D4, l9_T1, l9_T2, l9_T3, l9_T4]; omega) | decide)) only [e90_0, e90_1, e90_3, e90_5, e90_8, e90_9, e90_10, e90_11, e90_13, e90_16, e90_17, e90_18, e90_19, e90_22, e90_23, e90_26, e90_27, e90_28, e90_31, e90_34, e90_35, e90_37, e90_38, e90_41, e90_42, e90_44, e90_45, e90_46, e90_47, e90_48, e90_51, e90_54, e90_55, e90_57, e90_59, e90_60, ↓reduceIte, Nat.reduceAdd, Nat.reduceMul, nI_add, pk_mul, n_lt_t, n_lt_f, n_le_t, n_le_f, n_eq_f, n_eq_t, n_z_f, n_z_t, n_lz, n_zl, not_true_eq_false, not_false_eq_true, n_5, n_irem, h5]
        congr 6
        funext b i
        simp only [q_app]
        grind
      · simp (disch := (first | omega | assumption | rfl | (simp (disch := assumption) only [l9_2, l9_4, l9_5, l9_6, l9_7, l9_9, l9_10, l9_11, l9_12, l9_14, l9_15, l9_16, l9_17, l9_51, l9_52, l9_53, l9_55, l9_56, l9_58, l9_61, l9_73, l9_74, l9_75, l9_76, l9_77, l9_79, l9_80, l9_81, l9_82, l9_83, l9_84, l9_85, l10_59, l10_78, l9_D1, l9_D2, l9_D3, l9_D4, l9_T1, l9_T2, l9_T3, l9_T4]; omega) | decide)) only [e90_0, e90_1, e90_3, e90_5, e90_8, e90_9, e90_10, e90_11, e90_13, e90_16, e90_17, e90_18, e90_19, e90_22, e90_23, e90_26, e90_27, e90_28, e90_31, e90_34, e90_35, e90_37, e90_38, e90_41, e90_42, e90_44, e90_45, e90_46, e90_47, e90_48, e90_51, e90_54, e90_55, e90_57, e90_59, e90_60, ↓reduceIte, Nat.reduceAdd, Nat.reduceMul, nI_add, pk_mul, n_lt_t, n_lt_f, n_le_t, n_le_f, n_eq_f, n_eq_t, n_z_f, n_z_t, n_lz, n_zl, not_true_eq_false, not_false_eq_true, n_5, n_irem]
        congr 6
        funext b i
        simp only [q_app]
        grind
    · simp (disch := (first | omega | assumption | rfl | (simp (disch := assumption) only [l9_2, l9_4, l9_5, l9_6, l9_7, l9_9, l9_10, l9_11, l9_12, l9_14, l9_15, l9_16, l9_17, l9_51, l9_52, l9_53, l9_55, l9_56, l9_58, l9_61, l9_73, l9_74, l9_75, l9_76, l9_77, l9_79, l9_80, l9_81, l9_82, l9_83, l9_84, l9_85, l10_59, l10_78, l9_D1, l9_D2, l9_D3, l9_D4, l9_T1, l9_T2, l9_T3, l9_T4]; omega) | decide)) only [e90_0, e90_1, e90_3, e90_5, e90_8, e90_9, e90_10, e90_11, e90_13, e90_16, e90_17, e90_18, e90_19, e90_22, e90_23, e90_26, e90_27, e90_28, e90_31, e90_34, e90_35, e90_37, e90_38, e90_41, e90_42, e90_44, e90_45, e90_46, e90_47, e90_48, e90_51, e90_54, e90_55, e90_57, e90_59, e90_60, ↓reduceIte, Nat.reduceAdd, Nat.reduceMul, nI_add, pk_mul, n_lt_t, n_lt_f, n_le_t, n_le_f, n_eq_f, n_eq_t, n_z_f, n_z_t, n_lz, n_zl, not_true_eq_false, not_false_eq_true]
      congr 6
      funext b i
      simp only [q_app]
      grind
theorem s91 : q_ex X (91, 0, [.ref 72, .null], [], q_w t u F J) = some (none, q_w t u (stM F) J) := by
  have h := q_iter0 (X := X) (fun k => (91, 2, [.ref 72, .int (nI k)], [], q_w t u (fun b i => if b = 75 ∧ i < k then nI 0 else F b i) J)) 61 (fun k hk => ?_)
  · simp only [e91_0, e91_1]
    have h' : q_ex X (91, 2, [.ref 72, .int (nI 0)], [], q_w t u F J) = _ := Eq.trans (by congr 6; funext b i; grind) h
    rw [h', e91_2]
    simp (disch := (first | omega | assumption | rfl | (simp (disch := assumption) only [l9_2, l9_4, l9_5, l9_6, l9_7, l9_9, l9_10, l9_11, l9_12, l9_14, l9_15, l9_16, l9_17, l9_51, l9_52, l9_53, l9_55, l9_56, l9_58, l9_61, l9_73, l9_74, l9_75, l9_76, l9_77, l9_79, l9_80, l9_81, l9_82, l9_83, l9_84, l9_85, l10_59, l10_78, l9_D1, l9_D2, l9_D3, l9_D4, l9_T1, l9_T2, l9_T3, l9_T4]; omega) | decide)) only [e91_3, e91_5, e91_21, e91_22, ↓reduceIte, Nat.reduceAdd, Nat.reduceMul, nI_add, pk_mul, n_lt_t, n_lt_f, n_le_t, n_le_f, n_eq_f, n_eq_t, n_z_f, n_z_t, n_lz, n_zl, not_true_eq_false, not_false_eq_true]
    have h2 := q_iter0 (X := X) (fun k => (91, 23, [.ref 72, .int (nI k)], [], q_w t u (fun b i => if b = 75 ∧ i < 61 then (if 1 ≤ i ∧ i < 1 + k then F 73 (i - 1) else if 17 ≤ i ∧ i < 17 + k then nI (if (i - 17) % 5 = 0 then 1 else 0) else nI 0) else F b i) J)) 16 (fun k hk => ?_)
    · refine Eq.trans ?_ (h2.trans ?_)
      · congr 6
        funext b i
        grind
      · rw [e91_23]
        simp (disch := (first | omega | assumption | rfl | (simp (disch := assumption) only [l9_2, l9_4, l9_5, l9_6, l9_7, l9_9, l9_10, l9_11, l9_12, l9_14, l9_15, l9_16, l9_17, l9_51, l9_52, l9_53, l9_55, l9_56, l9_58, l9_61, l9_73, l9_74, l9_75, l9_76, l9_77, l9_79, l9_80, l9_81, l9_82, l9_83, l9_84, l9_85, l10_59, l10_78, l9_D1, l9_D2, l9_D3, l9_D4, l9_T1, l9_T2, l9_T3, l9_T4]; omega) | decide)) only [e91_0, e91_1, e91_3, e91_5, e91_8, e91_9, e91_12, e91_13, e91_14, e91_15, e91_18, e91_21, e91_22, e91_24, e91_26, e91_29, e91_30, e91_33, e91_34, e91_35, e91_36, e91_37, e91_40, e91_41, e91_42, e91_43, e91_44, e91_47, e91_49, e91_50, e91_51, e91_52, e91_53, e91_54, e91_57, e91_58, e91_61, e91_62, e91_63, e91_66, e91_69, e91_70, e91_71, e91_74, e91_75, e91_76, e91_79, e91_80, e91_83, e91_84, e91_85, e91_86, e91_87, e91_90, e91_91, e91_92, e91_93, ↓reduceIte, Nat.reduceAdd, Nat.reduceMul, nI_add, pk_mul, n_lt_t, n_lt_f, n_le_t, n_le_f, n_eq_f, n_eq_t, n_z_f, n_z_t, n_lz, n_zl, not_true_eq_false, not_false_eq_true, l10_78]
        congr 3
        funext b i
        simp only [q_app, stM]
        grind
    · try dsimp only
      rw [e91_23]
      by_cases h5 : k % 5 = 0
      · simp (disch := (first | omega | assumption | rfl | (simp (disch := assumption) only [l9_2, l9_4, l9_5, l9_6, l9_7, l9_9, l9_10, l9_11, l9_12, l9_14, l9_15, l9_16, l9_17, l9_51, l9_52, l9_53, l9_55, l9_56, l9_58, l9_61, l9_73, l9_74, l9_75, l9_76, l9_77, l9_79, l9_80, l9_81, l9_82, l9_83, l9_84, l9_85, l10_59, l10_78, l9_D1, l9_D2, l9_D3, l9_D4, l9_T1, l9_T2, l9_T3, l9_T4]; omega) | decide)) only [e91_0, e91_1, e91_3, e91_5, e91_8, e91_9, e91_12, e91_13, e91_14, e91_15, e91_18, e91_21, e91_22, e91_24, e91_26, e91_29, e91_30, e91_33, e91_34, e91_35, e91_36, e91_37, e91_40, e91_41, e91_42, e91_43, e91_44, e91_47, e91_49, e91_50, e91_51, e91_52, e91_53, e91_54, e91_57, e91_58, e91_61, e91_62, e91_63, e91_66, e91_69, e91_70, e91_71, e91_74, e91_75, e91_76, e91_79, e91_80, e91_83, e91_84, e91_85, e91_86, e91_87, e91_90, e91_91, e91_92, e91_93, ↓reduceIte, Nat.reduceAdd, Nat.reduceMul, nI_add, pk_mul, n_lt_t, n_lt_f, n_le_t, n_le_f, n_eq_f, n_eq_t, n_z_f, n_z_t, n_lz, n_zl, not_true_eq_false, not_false_eq_true, n_5, n_irem, h5]
        congr 6
        funext b i
        simp only [q_app]
        grind
      · simp (disch := (first | omega | assumption | rfl | (simp (disch := assumption) only [l9_2, l9_4, l9_5, l9_6, l9_7, l9_9, l9_10, l9_11, l9_12, l9_14, l9_15, l9_16, l9_17, l9_51, l9_52, l9_53, l9_55, l9_56, l9_58, l9_61, l9_73, l9_74, l9_75, l9_76, l9_77, l9_79, l9_80, l9_81, l9_82, l9_83, l9_84, l9_85, l10_59, l10_78, l9_D1, l9_D2, l9_D3, l9_D4, l9_T1, l9_T2, l9_T3, l9_T4]; omega) | decide)) only [e91_0, e91_1, e91_3, e91_5, e91_8, e91_9, e91_12, e91_13, e91_14, e91_15, e91_18, e91_21, e91_22, e91_24, e91_26, e91_29, e91_30, e91_33, e91_34, e91_35, e91_36, e91_37, e91_40, e91_41, e91_42, e91_43, e91_44, e91_47, e91_49, e91_50, e91_51, e91_52, e91_53, e91_54, e91_57, e91_58, e91_61, e91_62, e91_63, e91_66, e91_69, e91_70, e91_71, e91_74, e91_75, e91_76, e91_79, e91_80, e91_83, e91_84, e91_85, e91_86, e91_87, e91_90, e91_91, e91_92, e91_93, ↓reduceIte, Nat.reduceAdd, Nat.reduceMul, nI_add, pk_mul, n_lt_t, n_lt_f, n_le_t, n_le_f, n_eq_f, n_eq_t, n_z_f, n_z_t, n_lz, n_zl, not_true_eq_false, not_false_eq_true, n_5, n_irem]
        congr 6
        funext b i
        simp only [q_app]
        grind
  · try dsimp only
    rw [e91_2]
    simp (disch := (first | omega | assumption | rfl | (simp (disch := assumption) only [l9_2, l9_4, l9_5, l9_6, l9_7, l9_9, l9_10, l9_11, l9_12, l9_14, l9_15, l9_16, l9_17, l9_51, l9_52, l9_53, l9_55, l9_56, l9_58, l9_61, l9_73, l9_74, l9_75, l9_76, l9_77, l9_79, l9_80, l9_81, l9_82, l9_83, l9_84, l9_85, l10_59, l10_78, l9_D1, l9_D2, l9_D3, l9_D4, l9_T1, l9_T2, l9_T3, l9_T4]; omega) | decide)) only [e91_0, e91_1, e91_3, e91_5, e91_8, e91_9, e91_12, e91_13, e91_14, e91_15, e91_18, e91_21, e91_22, e91_24, e91_26, e91_29, e91_30, e91_33, e91_34, e91_35, e91_36, e91_37, e91_40, e91_41, e91_42, e91_43, e91_44, e91_47, e91_49, e91_50, e91_51, e91_52, e91_53, e91_54, e91_57, e91_58, e91_61, e91_62, e91_63, e91_66, e91_69, e91_70, e91_71, e91_74, e91_75, e91_76, e91_79, e91_80, e91_83, e91_84, e91_85, e91_86, e91_87, e91_90, e91_91, e91_92, e91_93, ↓reduceIte, Nat.reduceAdd, Nat.reduceMul, nI_add, pk_mul, n_lt_t, n_lt_f, n_le_t, n_le_f, n_eq_f, n_eq_t, n_z_f, n_z_t, n_lz, n_zl, not_true_eq_false, not_false_eq_true]
    congr 6
    funext b i
    simp only [q_app]
    grind
theorem s95_2 {p : Nat} (hp : p < 6) (h1 : F 72 4 = nI p) (v : Value) : q_ex X (95, 49, [.ref 72, v], [], q_w t u F J) = some (none, q_w t u (ntM F p) J) := by
  have h := q_iter0 (X := X) (fun k => (95, 51, [.ref 72, .int (nI k)], [], q_w t u (fun b i => if b = 76 ∧ 61 * p ≤ i ∧ i < 61 * p + k then F 75 (i - 61 * p) else F b i) J)) 61 (fun k hk => ?_)
  · simp only [e95_49, e95_50]
    have h' : q_ex X (95, 51, [.ref 72, .int (nI 0)], [], q_w t u F J) = _ := Eq.trans (by congr 6; funext b i; grind) h
    rw [h', e95_51]
    simp (disch := (first | omega | assumption | rfl | (simp (disch := assumption) only [l9_2, l9_4, l9_5, l9_6, l9_7, l9_9, l9_10, l9_11, l9_12, l9_14, l9_15, l9_16, l9_17, l9_51, l9_52, l9_53, l9_55, l9_56, l9_58, l9_61, l9_73, l9_74, l9_75, l9_76, l9_77, l9_79, l9_80, l9_81, l9_82, l9_83, l9_84, l9_85, l10_59, l10_78, l9_D1, l9_D2, l9_D3, l9_D4, l9_T1, l9_T2, l9_T3, l9_T4]; omega) | decide)) only [e95_0, e95_1, e95_4, e95_6, e95_9, e95_10, e95_12, e95_15, e95_18, e95_19, e95_22, e95_23, e95_24, e95_27, e95_28, e95_30, e95_31, e95_32, e95_33, e95_36, e95_39, e95_40, e95_41, e95_44, e95_45, e95_46, e95_50, e95_52, e95_54, e95_57, e95_58, e95_61, e95_63, e95_64, e95_67, e95_68, e95_69, e95_70, e95_71, e95_74, e95_75, e95_76, e95_77, e95_80, e95_83, e95_84, e95_85, e95_88, e95_89, e95_90, e95_93, ↓reduceIte, Nat.reduceAdd, Nat.reduceMul, nI_add, pk_mul, n_lt_t, n_lt_f, n_le_t, n_le_f, n_eq_f, n_eq_t, n_z_f, n_z_t, n_lz, n_zl, not_true_eq_false, not_false_eq_true, h1, Nat.reduceEqDiff, Nat.reduceLT, Nat.reduceLeDiff, false_and, and_false, true_and, and_true, or_false, false_or, and_self]
    congr 3
    funext b i
    simp only [q_app, ntM]
    grind
  · try dsimp only
    rw [e95_51]
    simp (disch := (first | omega | assumption | rfl | (simp (disch := assumption) only [l9_2, l9_4, l9_5, l9_6, l9_7, l9_9, l9_10, l9_11, l9_12, l9_14, l9_15, l9_16, l9_17, l9_51, l9_52, l9_53, l9_55, l9_56, l9_58, l9_61, l9_73, l9_74, l9_75, l9_76, l9_77, l9_79, l9_80, l9_81, l9_82, l9_83, l9_84, l9_85, l10_59, l10_78, l9_D1, l9_D2, l9_D3, l9_D4, l9_T1, l9_T2, l9_T3, l9_T4]; omega) | decide)) only [e95_0, e95_1, e95_4, e95_6, e95_9, e95_10, e95_12, e95_15, e95_18, e95_19, e95_22, e95_23, e95_24, e95_27, e95_28, e95_30, e95_31, e95_32, e95_33, e95_36, e95_39, e95_40, e95_41, e95_44, e95_45, e95_46, e95_50, e95_52, e95_54, e95_57, e95_58, e95_61, e95_63, e95_64, e95_67, e95_68, e95_69, e95_70, e95_71, e95_74, e95_75, e95_76, e95_77, e95_80, e95_83, e95_84, e95_85, e95_88, e95_89, e95_90, e95_93, ↓reduceIte, Nat.reduceAdd, Nat.reduceMul, nI_add, pk_mul, n_lt_t, n_lt_f, n_le_t, n_le_f, n_eq_f, n_eq_t, n_z_f, n_z_t, n_lz, n_zl, not_true_eq_false, not_false_eq_true, h1, Nat.reduceEqDiff, Nat.reduceLT, Nat.reduceLeDiff, false_and, and_false, true_and, and_true, or_false, false_or, and_self]
    congr 6
    funext b i
    simp only [q_app]
    grind
theorem s95 {p : Nat} (hp : p ≤ 6) (h1 : F 72 4 = nI p) : q_ex X (95, 0, [.ref 72, .null], [], q_w t u F J) = some (none, q_w t u (ntM F p) J) := by
  by_cases h6 : p < 6
  · simp (disch := (first | omega | assumption | rfl | (simp (disch := assumption) only [l9_2, l9_4, l9_5, l9_6, l9_7, l9_9, l9_10, l9_11, l9_12, l9_14, l9_15, l9_16, l9_17, l9_51, l9_52, l9_53, l9_55, l9_56, l9_58, l9_61, l9_73, l9_74, l9_75, l9_76, l9_77, l9_79, l9_80, l9_81, l9_82, l9_83, l9_84, l9_85, l10_59, l10_78, l9_D1, l9_D2, l9_D3, l9_D4, l9_T1, l9_T2, l9_T3, l9_T4]; omega) | decide)) only [e95_0, e95_1, e95_4, e95_6, e95_9, e95_10, e95_12, e95_15, e95_18, e95_19, e95_22, e95_23, e95_24, e95_27, e95_28, e95_30, e95_31, e95_32, e95_33, e95_36, e95_39, e95_40, e95_41, e95_44, e95_45, e95_46, e95_50, e95_52, e95_54, e95_57, e95_58, e95_61, e95_63, e95_64, e95_67, e95_68, e95_69, e95_70, e95_71, e95_74, e95_75, e95_76, e95_77, e95_80, e95_83, e95_84, e95_85, e95_88, e95_89, e95_90, e95_93, ↓reduceIte, Nat.reduceAdd, Nat.reduceMul, nI_add, pk_mul, n_lt_t, n_lt_f, n_le_t, n_le_f, n_eq_f, n_eq_t, n_z_f, n_z_t, n_lz, n_zl, not_true_eq_false, not_false_eq_true, h1]
    exact s95_2 h6 h1 _
  · obtain rfl : p = 6 := by omega
    have h := q_iter0 (X := X) (fun k => (95, 11, [.ref 72, .int (nI k)], [], q_w t u (fun b i => if b = 76 ∧ i < k then F 76 (i + 61) else F b i) J)) 305 (fun k hk => ?_)
    · simp (disch := (first | omega | assumption | rfl | (simp (disch := assumption) only [l9_2, l9_4, l9_5, l9_6, l9_7, l9_9, l9_10, l9_11, l9_12, l9_14, l9_15, l9_16, l9_17, l9_51, l9_52, l9_53, l9_55, l9_56, l9_58, l9_61, l9_73, l9_74, l9_75, l9_76, l9_77, l9_79, l9_80, l9_81, l9_82, l9_83, l9_84, l9_85, l10_59, l10_78, l9_D1, l9_D2, l9_D3, l9_D4, l9_T1, l9_T2, l9_T3, l9_T4]; omega) | decide)) only [e95_0, e95_1, e95_4, e95_6, e95_9, e95_10, e95_12, e95_15, e95_18, e95_19, e95_22, e95_23, e95_24, e95_27, e95_28, e95_30, e95_31, e95_32, e95_33, e95_36, e95_39, e95_40, e95_41, e95_44, e95_45, e95_46, e95_50, e95_52, e95_54, e95_57, e95_58, e95_61, e95_63, e95_64, e95_67, e95_68, e95_69, e95_70, e95_71, e95_74, e95_75, e95_76, e95_77, e95_80, e95_83, e95_84, e95_85, e95_88, e95_89, e95_90, e95_93, ↓reduceIte, Nat.reduceAdd, Nat.reduceMul, nI_add, pk_mul, n_lt_t, n_lt_f, n_le_t, n_le_f, n_eq_f, n_eq_t, n_z_f, n_z_t, n_lz, n_zl, not_true_eq_false, not_false_eq_true, h1]
      have h' : q_ex X (95, 11, [.ref 72, .int (nI 0)], [], q_w t u F J) = _ := Eq.trans (by congr 6; funext b i; grind) h
      rw [h', e95_11]
      simp (disch := (first | omega | assumption | rfl | (simp (disch := assumption) only [l9_2, l9_4, l9_5, l9_6, l9_7, l9_9, l9_10, l9_11, l9_12, l9_14, l9_15, l9_16, l9_17, l9_51, l9_52, l9_53, l9_55, l9_56, l9_58, l9_61, l9_73, l9_74, l9_75, l9_76, l9_77, l9_79, l9_80, l9_81, l9_82, l9_83, l9_84, l9_85, l10_59, l10_78, l9_D1, l9_D2, l9_D3, l9_D4, l9_T1, l9_T2, l9_T3, l9_T4]; omega) | decide)) only [e95_0, e95_1, e95_4, e95_6, e95_9, e95_10, e95_12, e95_15, e95_18, e95_19, e95_22, e95_23, e95_24, e95_27, e95_28, e95_30, e95_31, e95_32, e95_33, e95_36, e95_39, e95_40, e95_41, e95_44, e95_45, e95_46, e95_50, e95_52, e95_54, e95_57, e95_58, e95_61, e95_63, e95_64, e95_67, e95_68, e95_69, e95_70, e95_71, e95_74, e95_75, e95_76, e95_77, e95_80, e95_83, e95_84, e95_85, e95_88, e95_89, e95_90, e95_93, ↓reduceIte, Nat.reduceAdd, Nat.reduceMul, nI_add, pk_mul, n_lt_t, n_lt_f, n_le_t, n_le_f, n_eq_f, n_eq_t, n_z_f, n_z_t, n_lz, n_zl, not_true_eq_false, not_false_eq_true, h1, Nat.reduceEqDiff, Nat.reduceLT, Nat.reduceLeDiff, false_and, and_false, true_and, and_true, or_false, false_or, and_self, n_sub]
      rw [s95_2 (p := 5) (by omega) (by simp only [q_app]; grind)]
      congr 3
      funext b i
      simp only [q_app, ntM]
      grind
    · try dsimp only
      rw [e95_11]
      simp (disch := (first | omega | assumption | rfl | (simp (disch := assumption) only [l9_2, l9_4, l9_5, l9_6, l9_7, l9_9, l9_10, l9_11, l9_12, l9_14, l9_15, l9_16, l9_17, l9_51, l9_52, l9_53, l9_55, l9_56, l9_58, l9_61, l9_73, l9_74, l9_75, l9_76, l9_77, l9_79, l9_80, l9_81, l9_82, l9_83, l9_84, l9_85, l10_59, l10_78, l9_D1, l9_D2, l9_D3, l9_D4, l9_T1, l9_T2, l9_T3, l9_T4]; omega) | decide)) only [e95_0, e95_1, e95_4, e95_6, e95_9, e95_10, e95_12, e95_15, e95_18, e95_19, e95_22, e95_23, e95_24, e95_27, e95_28, e95_30, e95_31, e95_32, e95_33, e95_36, e95_39, e95_40, e95_41, e95_44, e95_45, e95_46, e95_50, e95_52, e95_54, e95_57, e95_58, e95_61, e95_63, e95_64, e95_67, e95_68, e95_69, e95_70, e95_71, e95_74, e95_75, e95_76, e95_77, e95_80, e95_83, e95_84, e95_85, e95_88, e95_89, e95_90, e95_93, ↓reduceIte, Nat.reduceAdd, Nat.reduceMul, nI_add, pk_mul, n_lt_t, n_lt_f, n_le_t, n_le_f, n_eq_f, n_eq_t, n_z_f, n_z_t, n_lz, n_zl, not_true_eq_false, not_false_eq_true]
      congr 6
      funext b i
      simp only [q_app]
      grind
/-- the model's POWER -/
def setP (F : Nat → Nat → Int32) (P : Nat → Int32) : Nat → Nat → Int32 := va_up F 75 (fun i => if 33 ≤ i ∧ i < 45 then P (i - 33) else F 75 i)
theorem setP_n {b : Nat} {P : Nat → Int32} (h : b ≠ 75) : setP F P b = F b := va_up_ne _ _ h
theorem setP_rd {P : Nat → Int32} {i : Nat} (h : i < 12) : setP F P 75 (33 + i) = P i := by
  simp only [setP, va_app, if_true]
  rw [if_pos (by omega), show 33 + i - 33 = i by omega]
theorem setP_lo {P : Nat → Int32} {i : Nat} (h : i < 33) : setP F P 75 i = F 75 i := by
  simp only [setP, va_app, if_true]
  rw [if_neg (by omega)]
theorem setP_up {P : Nat → Int32} {i : Nat} {v : Int32} (h : i < 12) : q_up (setP F P) 75 (33 + i) v = setP F (upd P i v) := by
  funext b j
  simp only [q_app, setP, va_app, upd]
  grind
theorem setP_self : setP F (fun i => F 75 (33 + i)) = F := by
  funext b i
  simp only [setP, va_app]
  grind
theorem setP_eq {P Q : Nat → Int32} (h : ∀ i, i < 12 → P i = Q i) : setP F P = setP F Q := by
  funext b i
  simp only [setP, va_app]
  grind
theorem s102 {j : Nat} {P : Nat → Int32} (hj : j < 4) : q_ex X (102, 0, [.ref 72, .int (nI j), .null], [], q_w t u (setP F P) J) = some (none, q_w t u (setP F (pz P j)) J) := by
  have h := q_iter0 (X := X) (fun k => (102, 2, [.ref 72, .int (nI j), .int (nI k)], [], q_w t u (setP F (fun i => if 3 * j ≤ i ∧ i < 3 * j + k then nI 0 else P i)) J)) 3 (fun k hk => ?_)
  · simp only [e102_0, e102_1]
    have h' : q_ex X (102, 2, [.ref 72, .int (nI j), .int (nI 0)], [], q_w t u (setP F P) J) = _ := Eq.trans (by rw [setP_eq (Q := fun i => if 3 * j ≤ i ∧ i < 3 * j + 0 then nI 0 else P i) (fun i _ => by grind)]) h
    rw [h', e102_2]
    simp (disch := (first | omega | assumption | rfl | (simp (disch := assumption) only [l9_2, l9_4, l9_5, l9_6, l9_7, l9_9, l9_10, l9_11, l9_12, l9_14, l9_15, l9_16, l9_17, l9_51, l9_52, l9_53, l9_55, l9_56, l9_58, l9_61, l9_73, l9_74, l9_75, l9_76, l9_77, l9_79, l9_80, l9_81, l9_82, l9_83, l9_84, l9_85, l10_59, l10_78, l9_D1, l9_D2, l9_D3, l9_D4, l9_T1, l9_T2, l9_T3, l9_T4]; omega) | decide)) only [e102_0, e102_1, e102_3, e102_4, e102_7, e102_8, e102_11, e102_13, e102_14, e102_15, e102_16, e102_17, e102_18, e102_19, e102_20, e102_21, e102_24, e102_27, ↓reduceIte, Nat.reduceAdd, Nat.reduceMul, nI_add, pk_mul, n_lt_t, n_lt_f, n_le_t, n_le_f, n_eq_f, n_eq_t, n_z_f, n_z_t, n_lz, n_zl, not_true_eq_false, not_false_eq_true]
    rfl
  · try dsimp only
    rw [e102_2]
    simp (disch := (first | omega | assumption | rfl | (simp (disch := assumption) only [l9_2, l9_4, l9_5, l9_6, l9_7, l9_9, l9_10, l9_11, l9_12, l9_14, l9_15, l9_16, l9_17, l9_51, l9_52, l9_53, l9_55, l9_56, l9_58, l9_61, l9_73, l9_74, l9_75, l9_76, l9_77, l9_79, l9_80, l9_81, l9_82, l9_83, l9_84, l9_85, l10_59, l10_78, l9_D1, l9_D2, l9_D3, l9_D4, l9_T1, l9_T2, l9_T3, l9_T4]; omega) | decide)) only [e102_0, e102_1, e102_3, e102_4, e102_7, e102_8, e102_11, e102_13, e102_14, e102_15, e102_16, e102_17, e102_18, e102_19, e102_20, e102_21, e102_24, e102_27, ↓reduceIte, Nat.reduceAdd, Nat.reduceMul, nI_add, pk_mul, n_lt_t, n_lt_f, n_le_t, n_le_f, n_eq_f, n_eq_t, n_z_f, n_z_t, n_lz, n_zl, not_true_eq_false, not_false_eq_true]
    rw [show 33 + 3 * j + k = 33 + (3 * j + k) by omega, setP_up (by omega)]
    congr 6
    refine setP_eq (fun i hi => ?_)
    simp only [upd]
    grind
theorem s103 {o j c : Nat} {P : Nat → Int32} (hO : F 75 0 = nI o) (ho : o < 16) (hj : j < 4) (hc : c < 3) : q_ex X (103, 0, [.ref 72, .int (nI j), .int (nI c), .null, .null], [], q_w t u (setP F P) J) = some (some (.int (levS (fun i => F 73 (16 + i)) P (fun i => F 73 (28 + i)) o j c 4)), q_w t u (setP F P) J) := by
  have h := q_iter0 (X := X) (fun k => (103, 31, [.ref 72, .int (nI j), .int (nI c), .int (levS (fun i => F 73 (16 + i)) P (fun i => F 73 (28 + i)) o j c k), .int (nI k)], [], q_w t u (setP F P) J)) 4 (fun k hk => ?_)
  · simp (disch := (first | omega | assumption | rfl | (simp (disch := assumption) only [l9_2, l9_4, l9_5, l9_6, l9_7, l9_9, l9_10, l9_11, l9_12, l9_14, l9_15, l9_16, l9_17, l9_51, l9_52, l9_53, l9_55, l9_56, l9_58, l9_61, l9_73, l9_74, l9_75, l9_76, l9_77, l9_79, l9_80, l9_81, l9_82, l9_83, l9_84, l9_85, l10_59, l10_78, l9_D1, l9_D2, l9_D3, l9_D4, l9_T1, l9_T2, l9_T3, l9_T4]; omega) | decide)) only [e103_0, e103_1, e103_4, e103_6, e103_7, e103_8, e103_9, e103_10, e103_11, e103_12, e103_13, e103_14, e103_17, e103_19, e103_20, e103_21, e103_22, e103_23, e103_24, e103_25, e103_26, e103_27, e103_28, e103_29, e103_33, e103_34, e103_37, e103_38, e103_40, e103_41, e103_44, e103_45, e103_48, e103_49, e103_50, e103_52, e103_55, e103_58, e103_59, e103_62, e103_64, e103_65, e103_66, e103_67, e103_68, e103_70, e103_71, e103_72, e103_73, e103_76, e103_78, e103_79, e103_81, e103_82, e103_83, e103_84, e103_85, e103_86, e103_87, e103_90, e103_91, e103_92, e103_93, e103_96, e103_99, e103_100, ↓reduceIte, Nat.reduceAdd, Nat.reduceMul, nI_add, pk_mul, n_lt_t, n_lt_f, n_le_t, n_le_f, n_eq_f, n_eq_t, n_z_f, n_z_t, n_lz, n_zl, not_true_eq_false, not_false_eq_true, setP_n]
    rw [show 33 + 3 * j + c = 33 + (3 * j + c) by omega, show 16 + 3 * j + c = 16 + (3 * j + c) by omega, setP_rd (by omega)]
    refine Eq.trans ?_ (h.trans ?_)
    · rfl
    · rw [e103_31]
      simp (disch := (first | omega | assumption | rfl | (simp (disch := assumption) only [l9_2, l9_4, l9_5, l9_6, l9_7, l9_9, l9_10, l9_11, l9_12, l9_14, l9_15, l9_16, l9_17, l9_51, l9_52, l9_53, l9_55, l9_56, l9_58, l9_61, l9_73, l9_74, l9_75, l9_76, l9_77, l9_79, l9_80, l9_81, l9_82, l9_83, l9_84, l9_85, l10_59, l10_78, l9_D1, l9_D2, l9_D3, l9_D4, l9_T1, l9_T2, l9_T3, l9_T4]; omega) | decide)) only [e103_0, e103_1, e103_4, e103_6, e103_7, e103_8, e103_9, e103_10, e103_11, e103_12, e103_13, e103_14, e103_17, e103_19, e103_20, e103_21, e103_22, e103_23, e103_24, e103_25, e103_26, e103_27, e103_28, e103_29, e103_33, e103_34, e103_37, e103_38, e103_40, e103_41, e103_44, e103_45, e103_48, e103_49, e103_50, e103_52, e103_55, e103_58, e103_59, e103_62, e103_64, e103_65, e103_66, e103_67, e103_68, e103_70, e103_71, e103_72, e103_73, e103_76, e103_78, e103_79, e103_81, e103_82, e103_83, e103_84, e103_85, e103_86, e103_87, e103_90, e103_91, e103_92, e103_93, e103_96, e103_99, e103_100, ↓reduceIte, Nat.reduceAdd, Nat.reduceMul, nI_add, pk_mul, n_lt_t, n_lt_f, n_le_t, n_le_f, n_eq_f, n_eq_t, n_z_f, n_z_t, n_lz, n_zl, not_true_eq_false, not_false_eq_true]
  · try dsimp only
    rw [e103_31]
    have hb := bt_lt o k
    have r1 : setP F P 75 (33 + 3 * k + c) = P (3 * k + c) := by rw [show 33 + 3 * k + c = 33 + (3 * k + c) by omega, setP_rd (by omega)]
    have r2 : setP F P 75 0 = nI o := by rw [setP_lo (by omega), hO]
    have r3 : F 73 (28 + 4 * j + k) = F 73 (28 + (4 * j + k)) := by rw [show 28 + 4 * j + k = 28 + (4 * j + k) by omega]
    by_cases h1 : k = j
    · subst h1
      simp (disch := (first | omega | assumption | rfl | (simp (disch := assumption) only [l9_2, l9_4, l9_5, l9_6, l9_7, l9_9, l9_10, l9_11, l9_12, l9_14, l9_15, l9_16, l9_17, l9_51, l9_52, l9_53, l9_55, l9_56, l9_58, l9_61, l9_73, l9_74, l9_75, l9_76, l9_77, l9_79, l9_80, l9_81, l9_82, l9_83, l9_84, l9_85, l10_59, l10_78, l9_D1, l9_D2, l9_D3, l9_D4, l9_T1, l9_T2, l9_T3, l9_T4]; omega) | decide)) only [e103_0, e103_1, e103_4, e103_6, e103_7, e103_8, e103_9, e103_10, e103_11, e103_12, e103_13, e103_14, e103_17, e103_19, e103_20, e103_21, e103_22, e103_23, e103_24, e103_25, e103_26, e103_27, e103_28, e103_29, e103_33, e103_34, e103_37, e103_38, e103_40, e103_41, e103_44, e103_45, e103_48, e103_49, e103_50, e103_52, e103_55, e103_58, e103_59, e103_62, e103_64, e103_65, e103_66, e103_67, e103_68, e103_70, e103_71, e103_72, e103_73, e103_76, e103_78, e103_79, e103_81, e103_82, e103_83, e103_84, e103_85, e103_86, e103_87, e103_90, e103_91, e103_92, e103_93, e103_96, e103_99, e103_100, ↓reduceIte, Nat.reduceAdd, Nat.reduceMul, nI_add, pk_mul, n_lt_t, n_lt_f, n_le_t, n_le_f, n_eq_f, n_eq_t, n_z_f, n_z_t, n_lz, n_zl, not_true_eq_false, not_false_eq_true, i_add0]
      simp only [levS, ne_eq, not_true_eq_false, false_and, ↓reduceIte]
    · by_cases h2 : bt o k = 1
      · simp (disch := (first | omega | assumption | rfl | (simp (disch := assumption) only [l9_2, l9_4, l9_5, l9_6, l9_7, l9_9, l9_10, l9_11, l9_12, l9_14, l9_15, l9_16, l9_17, l9_51, l9_52, l9_53, l9_55, l9_56, l9_58, l9_61, l9_73, l9_74, l9_75, l9_76, l9_77, l9_79, l9_80, l9_81, l9_82, l9_83, l9_84, l9_85, l10_59, l10_78, l9_D1, l9_D2, l9_D3, l9_D4, l9_T1, l9_T2, l9_T3, l9_T4]; omega) | decide)) only [e103_0, e103_1, e103_4, e103_6, e103_7, e103_8, e103_9, e103_10, e103_11, e103_12, e103_13, e103_14, e103_17, e103_19, e103_20, e103_21, e103_22, e103_23, e103_24, e103_25, e103_26, e103_27, e103_28, e103_29, e103_33, e103_34, e103_37, e103_38, e103_40, e103_41, e103_44, e103_45, e103_48, e103_49, e103_50, e103_52, e103_55, e103_58, e103_59, e103_62, e103_64, e103_65, e103_66, e103_67, e103_68, e103_70, e103_71, e103_72, e103_73, e103_76, e103_78, e103_79, e103_81, e103_82, e103_83, e103_84, e103_85, e103_86, e103_87, e103_90, e103_91, e103_92, e103_93, e103_96, e103_99, e103_100, ↓reduceIte, Nat.reduceAdd, Nat.reduceMul, nI_add, pk_mul, n_lt_t, n_lt_f, n_le_t, n_le_f, n_eq_f, n_eq_t, n_z_f, n_z_t, n_lz, n_zl, not_true_eq_false, not_false_eq_true, r2, s86, Option.bind_some, Option.toList_some, Option.toList_none, List.cons_append, List.nil_append, h2, setP_n, r1, r3]
        simp only [levS, ne_eq, h1, not_false_eq_true, h2, and_self, ↓reduceIte]
      · have h0 : bt o k = 0 := by omega
        simp (disch := (first | omega | assumption | rfl | (simp (disch := assumption) only [l9_2, l9_4, l9_5, l9_6, l9_7, l9_9, l9_10, l9_11, l9_12, l9_14, l9_15, l9_16, l9_17, l9_51, l9_52, l9_53, l9_55, l9_56, l9_58, l9_61, l9_73, l9_74, l9_75, l9_76, l9_77, l9_79, l9_80, l9_81, l9_82, l9_83, l9_84, l9_85, l10_59, l10_78, l9_D1, l9_D2, l9_D3, l9_D4, l9_T1, l9_T2, l9_T3, l9_T4]; omega) | decide)) only [e103_0, e103_1, e103_4, e103_6, e103_7, e103_8, e103_9, e103_10, e103_11, e103_12, e103_13, e103_14, e103_17, e103_19, e103_20, e103_21, e103_22, e103_23, e103_24, e103_25, e103_26, e103_27, e103_28, e103_29, e103_33, e103_34, e103_37, e103_38, e103_40, e103_41, e103_44, e103_45, e103_48, e103_49, e103_50, e103_52, e103_55, e103_58, e103_59, e103_62, e103_64, e103_65, e103_66, e103_67, e103_68, e103_70, e103_71, e103_72, e103_73, e103_76, e103_78, e103_79, e103_81, e103_82, e103_83, e103_84, e103_85, e103_86, e103_87, e103_90, e103_91, e103_92, e103_93, e103_96, e103_99, e103_100, ↓reduceIte, Nat.reduceAdd, Nat.reduceMul, nI_add, pk_mul, n_lt_t, n_lt_f, n_le_t, n_le_f, n_eq_f, n_eq_t, n_z_f, n_z_t, n_lz, n_zl, not_true_eq_false, not_false_eq_true, r2, s86, Option.bind_some, Option.toList_some, Option.toList_none, List.cons_append, List.nil_append, h0, i_add0]
        simp only [levS, ne_eq, h1, not_false_eq_true, h2, and_false, ↓reduceIte]
theorem s116 {j : Nat} {P : Nat → Int32} (hj : j < 4) (hP : ∀ i, i < 12 → F 75 (33 + i) = P i) : q_ex X (116, 0, [.ref 72, .int (nI j), .null, .null], [], q_w t u F J) = some (some (.int (smS (fun k => P (3 * j + k)) 3)), q_w t u F J) := by
  have h := q_iter0 (X := X) (fun k => (116, 4, [.ref 72, .int (nI j), .int (smS (fun k => P (3 * j + k)) k), .int (nI k)], [], q_w t u F J)) 3 (fun k hk => ?_)
  · simp only [e116_0, e116_1, e116_2, e116_3]
    have h' : q_ex X (116, 4, [.ref 72, .int (nI j), .int (nI 0), .int (nI 0)], [], q_w t u F J) = _ := h
    rw [h', e116_4]
    simp (disch := (first | omega | assumption | rfl | (simp (disch := assumption) only [l9_2, l9_4, l9_5, l9_6, l9_7, l9_9, l9_10, l9_11, l9_12, l9_14, l9_15, l9_16, l9_17, l9_51, l9_52, l9_53, l9_55, l9_56, l9_58, l9_61, l9_73, l9_74, l9_75, l9_76, l9_77, l9_79, l9_80, l9_81, l9_82, l9_83, l9_84, l9_85, l10_59, l10_78, l9_D1, l9_D2, l9_D3, l9_D4, l9_T1, l9_T2, l9_T3, l9_T4]; omega) | decide)) only [e116_0, e116_1, e116_2, e116_3, e116_5, e116_6, e116_9, e116_10, e116_11, e116_14, e116_16, e116_17, e116_18, e116_19, e116_20, e116_21, e116_22, e116_23, e116_24, e116_25, e116_28, e116_31, e116_32, ↓reduceIte, Nat.reduceAdd, Nat.reduceMul, nI_add, pk_mul, n_lt_t, n_lt_f, n_le_t, n_le_f, n_eq_f, n_eq_t, n_z_f, n_z_t, n_lz, n_zl, not_true_eq_false, not_false_eq_true]
  · try dsimp only
    rw [e116_4]
    have r1 : F 75 (33 + 3 * j + k) = P (3 * j + k) := by rw [show 33 + 3 * j + k = 33 + (3 * j + k) by omega, hP _ (by omega)]
    simp (disch := (first | omega | assumption | rfl | (simp (disch := assumption) only [l9_2, l9_4, l9_5, l9_6, l9_7, l9_9, l9_10, l9_11, l9_12, l9_14, l9_15, l9_16, l9_17, l9_51, l9_52, l9_53, l9_55, l9_56, l9_58, l9_61, l9_73, l9_74, l9_75, l9_76, l9_77, l9_79, l9_80, l9_81, l9_82, l9_83, l9_84, l9_85, l10_59, l10_78, l9_D1, l9_D2, l9_D3, l9_D4, l9_T1, l9_T2, l9_T3, l9_T4]; omega) | decide)) only [e116_0, e116_1, e116_2, e116_3, e116_5, e116_6, e116_9, e116_10, e116_11, e116_14, e116_16, e116_17, e116_18, e116_19, e116_20, e116_21, e116_22, e116_23, e116_24, e116_25, e116_28, e116_31, e116_32, ↓reduceIte, Nat.reduceAdd, Nat.reduceMul, nI_add, pk_mul, n_lt_t, n_lt_f, n_le_t, n_le_f, n_eq_f, n_eq_t, n_z_f, n_z_t, n_lz, n_zl, not_true_eq_false, not_false_eq_true, r1]
    simp only [smS]
theorem s106 {a : Nat} {P : Nat → Int32} (ha : a = 79 ∨ a = 80) : q_ex X (106, 0, [.ref 72, .ref a, .null], [], q_w t u (setP F P) J) = some (none, q_w t u (setP (va_up F a (cp 12 P (F a))) P) J) := by
  have hl : k_l9 a = 12 := by rcases ha with rfl | rfl <;> rfl
  have h := q_iter0 (X := X) (fun k => (106, 2, [.ref 72, .ref a, .int (nI k)], [], q_w t u (setP (va_up F a (cp k P (F a))) P) J)) 12 (fun k hk => ?_)
  · simp only [e106_0, e106_1]
    have h' : q_ex X (106, 2, [.ref 72, .ref a, .int (nI 0)], [], q_w t u (setP F P) J) = _ := Eq.trans (by rw [cp_0]; congr 6; funext b i; simp only [setP, va_app]; grind) h
    rw [h', e106_2]
    simp (disch := (first | omega | assumption | rfl | (simp (disch := assumption) only [l9_2, l9_4, l9_5, l9_6, l9_7, l9_9, l9_10, l9_11, l9_12, l9_14, l9_15, l9_16, l9_17, l9_51, l9_52, l9_53, l9_55, l9_56, l9_58, l9_61, l9_73, l9_74, l9_75, l9_76, l9_77, l9_79, l9_80, l9_81, l9_82, l9_83, l9_84, l9_85, l10_59, l10_78, l9_D1, l9_D2, l9_D3, l9_D4, l9_T1, l9_T2, l9_T3, l9_T4]; omega) | decide)) only [e106_0, e106_1, e106_3, e106_5, e106_8, e106_9, e106_10, e106_11, e106_14, e106_16, e106_17, e106_18, e106_19, e106_20, e106_23, e106_26, ↓reduceIte, Nat.reduceAdd, Nat.reduceMul, nI_add, pk_mul, n_lt_t, n_lt_f, n_le_t, n_le_f, n_eq_f, n_eq_t, n_z_f, n_z_t, n_lz, n_zl, not_true_eq_false, not_false_eq_true]
  · try dsimp only
    rw [e106_2]
    simp (disch := (first | omega | assumption | rfl | (simp (disch := assumption) only [l9_2, l9_4, l9_5, l9_6, l9_7, l9_9, l9_10, l9_11, l9_12, l9_14, l9_15, l9_16, l9_17, l9_51, l9_52, l9_53, l9_55, l9_56, l9_58, l9_61, l9_73, l9_74, l9_75, l9_76, l9_77, l9_79, l9_80, l9_81, l9_82, l9_83, l9_84, l9_85, l10_59, l10_78, l9_D1, l9_D2, l9_D3, l9_D4, l9_T1, l9_T2, l9_T3, l9_T4]; omega) | decide)) only [e106_0, e106_1, e106_3, e106_5, e106_8, e106_9, e106_10, e106_11, e106_14, e106_16, e106_17, e106_18, e106_19, e106_20, e106_23, e106_26, ↓reduceIte, Nat.reduceAdd, Nat.reduceMul, nI_add, pk_mul, n_lt_t, n_lt_f, n_le_t, n_le_f, n_eq_f, n_eq_t, n_z_f, n_z_t, n_lz, n_zl, not_true_eq_false, not_false_eq_true, setP_rd]
    congr 6
    funext b i
    simp only [q_app, setP, va_app, cp]
    grind
theorem s107 {a : Nat} {P Q : Nat → Int32} (ha : a = 79 ∨ a = 80) (hQ : ∀ i, i < 12 → F a i = Q i) : q_ex X (107, 0, [.ref 72, .ref a, .null], [], q_w t u (setP F P) J) = some (none, q_w t u (setP F Q) J) := by
  have hl : k_l9 a = 12 := by rcases ha with rfl | rfl <;> rfl
  have h := q_iter0 (X := X) (fun k => (107, 2, [.ref 72, .ref a, .int (nI k)], [], q_w t u (setP F (cp k Q P)) J)) 12 (fun k hk => ?_)
  · simp only [e107_0, e107_1]
    have h' : q_ex X (107, 2, [.ref 72, .ref a, .int (nI 0)], [], q_w t u (setP F P) J) = _ := Eq.trans (by rw [cp_0]) h
    rw [h', e107_2]
    simp (disch := (first | omega | assumption | rfl | (simp (disch := assumption) only [l9_2, l9_4, l9_5, l9_6, l9_7, l9_9, l9_10, l9_11, l9_12, l9_14, l9_15, l9_16, l9_17, l9_51, l9_52, l9_53, l9_55, l9_56, l9_58, l9_61, l9_73, l9_74, l9_75, l9_76, l9_77, l9_79, l9_80, l9_81, l9_82, l9_83, l9_84, l9_85, l10_59, l10_78, l9_D1, l9_D2, l9_D3, l9_D4, l9_T1, l9_T2, l9_T3, l9_T4]; omega) | decide)) only [e107_0, e107_1, e107_3, e107_5, e107_8, e107_9, e107_12, e107_14, e107_15, e107_16, e107_17, e107_18, e107_19, e107_20, e107_23, e107_26, ↓reduceIte, Nat.reduceAdd, Nat.reduceMul, nI_add, pk_mul, n_lt_t, n_lt_f, n_le_t, n_le_f, n_eq_f, n_eq_t, n_z_f, n_z_t, n_lz, n_zl, not_true_eq_false, not_false_eq_true]
    congr 3
    exact setP_eq (fun i hi => by simp only [cp, if_pos hi])
  · try dsimp only
    rw [e107_2]
    have r1 := hQ k hk
    simp (disch := (first | omega | assumption | rfl | (simp (disch := assumption) only [l9_2, l9_4, l9_5, l9_6, l9_7, l9_9, l9_10, l9_11, l9_12, l9_14, l9_15, l9_16, l9_17, l9_51, l9_52, l9_53, l9_55, l9_56, l9_58, l9_61, l9_73, l9_74, l9_75, l9_76, l9_77, l9_79, l9_80, l9_81, l9_82, l9_83, l9_84, l9_85, l10_59, l10_78, l9_D1, l9_D2, l9_D3, l9_D4, l9_T1, l9_T2, l9_T3, l9_T4]; omega) | decide)) only [e107_0, e107_1, e107_3, e107_5, e107_8, e107_9, e107_12, e107_14, e107_15, e107_16, e107_17, e107_18, e107_19, e107_20, e107_23, e107_26, ↓reduceIte, Nat.reduceAdd, Nat.reduceMul, nI_add, pk_mul, n_lt_t, n_lt_f, n_le_t, n_le_f, n_eq_f, n_eq_t, n_z_f, n_z_t, n_lz, n_zl, not_true_eq_false, not_false_eq_true, setP_n, r1, setP_up]
    congr 6
    refine setP_eq (fun i hi => ?_)
    simp only [upd, cp]
    grind
/-- two rows are alike -/
def eqS (P Q : Nat → Int32) : Nat → Bool
  | 0 => true
  | k + 1 => eqS P Q k && decide (Q k = P k)
theorem s108 {a : Nat} {P Q : Nat → Int32} (ha : a = 79 ∨ a = 80) (hQ : ∀ i, i < 12 → F a i = Q i) : q_ex X (108, 0, [.ref 72, .ref a, .null, .null], [], q_w t u (setP F P) J) = some (some (.int (bI (eqS P Q 12))), q_w t u (setP F P) J) := by
  have hl : k_l9 a = 12 := by rcases ha with rfl | rfl <;> rfl
  have h := q_iter0 (X := X) (fun k => (108, 4, [.ref 72, .ref a, .int (bI (eqS P Q k)), .int (nI k)], [], q_w t u (setP F P) J)) 12 (fun k hk => ?_)
  · simp only [e108_0, e108_1, e108_2, e108_3]
    have h' : q_ex X (108, 4, [.ref 72, .ref a, .int (nI 1), .int (nI 0)], [], q_w t u (setP F P) J) = _ := h
    rw [h', e108_4]
    have hb := bI_z (eqS P Q 12)
    simp (disch := (first | omega | assumption | rfl | (simp (disch := assumption) only [l9_2, l9_4, l9_5, l9_6, l9_7, l9_9, l9_10, l9_11, l9_12, l9_14, l9_15, l9_16, l9_17, l9_51, l9_52, l9_53, l9_55, l9_56, l9_58, l9_61, l9_73, l9_74, l9_75, l9_76, l9_77, l9_79, l9_80, l9_81, l9_82, l9_83, l9_84, l9_85, l10_59, l10_78, l9_D1, l9_D2, l9_D3, l9_D4, l9_T1, l9_T2, l9_T3, l9_T4]; omega) | decide)) only [e108_0, e108_1, e108_2, e108_3, e108_5, e108_7, e108_10, e108_11, e108_14, e108_15, e108_16, e108_17, e108_18, e108_21, e108_23, e108_24, e108_25, e108_26, e108_29, e108_30, e108_33, e108_34, e108_35, e108_38, e108_41, e108_42, ↓reduceIte, Nat.reduceAdd, Nat.reduceMul, nI_add, pk_mul, n_lt_t, n_lt_f, n_le_t, n_le_f, n_eq_f, n_eq_t, n_z_f, n_z_t, n_lz, n_zl, not_true_eq_false, not_false_eq_true]
  · try dsimp only
    rw [e108_4]
    have r1 := hQ k hk
    cases he : eqS P Q k with
    | false =>
      simp (disch := (first | omega | assumption | rfl | (simp (disch := assumption) only [l9_2, l9_4, l9_5, l9_6, l9_7, l9_9, l9_10, l9_11, l9_12, l9_14, l9_15, l9_16, l9_17, l9_51, l9_52, l9_53, l9_55, l9_56, l9_58, l9_61, l9_73, l9_74, l9_75, l9_76, l9_77, l9_79, l9_80, l9_81, l9_82, l9_83, l9_84, l9_85, l10_59, l10_78, l9_D1, l9_D2, l9_D3, l9_D4, l9_T1, l9_T2, l9_T3, l9_T4]; omega) | decide)) only [e108_0, e108_1, e108_2, e108_3, e108_5, e108_7, e108_10, e108_11, e108_14, e108_15, e108_16, e108_17, e108_18, e108_21, e108_23, e108_24, e108_25, e108_26, e108_29, e108_30, e108_33, e108_34, e108_35, e108_38, e108_41, e108_42, ↓reduceIte, Nat.reduceAdd, Nat.reduceMul, nI_add, pk_mul, n_lt_t, n_lt_f, n_le_t, n_le_f, n_eq_f, n_eq_t, n_z_f, n_z_t, n_lz, n_zl, not_true_eq_false, not_false_eq_true, bI_f]
      simp only [eqS, he, Bool.false_and, bI_f]
    | true =>
      by_cases hc : Q k = P k
      · simp (disch := (first | omega | assumption | rfl | (simp (disch := assumption) only [l9_2, l9_4, l9_5, l9_6, l9_7, l9_9, l9_10, l9_11, l9_12, l9_14, l9_15, l9_16, l9_17, l9_51, l9_52, l9_53, l9_55, l9_56, l9_58, l9_61, l9_73, l9_74, l9_75, l9_76, l9_77, l9_79, l9_80, l9_81, l9_82, l9_83, l9_84, l9_85, l10_59, l10_78, l9_D1, l9_D2, l9_D3, l9_D4, l9_T1, l9_T2, l9_T3, l9_T4]; omega) | decide)) only [e108_0, e108_1, e108_2, e108_3, e108_5, e108_7, e108_10, e108_11, e108_14, e108_15, e108_16, e108_17, e108_18, e108_21, e108_23, e108_24, e108_25, e108_26, e108_29, e108_30, e108_33, e108_34, e108_35, e108_38, e108_41, e108_42, ↓reduceIte, Nat.reduceAdd, Nat.reduceMul, nI_add, pk_mul, n_lt_t, n_lt_f, n_le_t, n_le_f, n_eq_f, n_eq_t, n_z_f, n_z_t, n_lz, n_zl, not_true_eq_false, not_false_eq_true, bI_t, setP_n, setP_rd, r1, hc]
        simp only [eqS, he, hc, Bool.true_and, decide_true, bI_t]
      · simp (disch := (first | omega | assumption | rfl | (simp (disch := assumption) only [l9_2, l9_4, l9_5, l9_6, l9_7, l9_9, l9_10, l9_11, l9_12, l9_14, l9_15, l9_16, l9_17, l9_51, l9_52, l9_53, l9_55, l9_56, l9_58, l9_61, l9_73, l9_74, l9_75, l9_76, l9_77, l9_79, l9_80, l9_81, l9_82, l9_83, l9_84, l9_85, l10_59, l10_78, l9_D1, l9_D2, l9_D3, l9_D4, l9_T1, l9_T2, l9_T3, l9_T4]; omega) | decide)) only [e108_0, e108_1, e108_2, e108_3, e108_5, e108_7, e108_10, e108_11, e108_14, e108_15, e108_16, e108_17, e108_18, e108_21, e108_23, e108_24, e108_25, e108_26, e108_29, e108_30, e108_33, e108_34, e108_35, e108_38, e108_41, e108_42, ↓reduceIte, Nat.reduceAdd, Nat.reduceMul, nI_add, pk_mul, n_lt_t, n_lt_f, n_le_t, n_le_f, n_eq_f, n_eq_t, n_z_f, n_z_t, n_lz, n_zl, not_true_eq_false, not_false_eq_true, bI_t, setP_n, setP_rd, r1, hc]
        simp only [eqS, he, hc, Bool.true_and, decide_false, bI_f]
end S48
