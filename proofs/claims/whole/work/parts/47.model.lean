/-! ===== the rest of Told, Text; small methods of the model ===== -/
theorem i_cases (x : Int32) {k : Nat} (hk : k < 2 ^ 31) : (x < 0 ∨ nI k ≤ x) ∨ ∃ j, j < k ∧ x = nI j := by
  by_cases h : x < 0
  · exact Or.inl (Or.inl h)
  · by_cases h2 : nI k ≤ x
    · exact Or.inl (Or.inr h2)
    · refine Or.inr ⟨x.toNatClampNeg, ?_, ?_⟩
      · have h3 := Int32.not_lt.mp h
        have h4 := Int32.not_le.mp h2
        rw [Int32.le_iff_toInt_le] at h3
        rw [Int32.lt_iff_toInt_lt, nI_toInt hk] at h4
        have h5 : x.toNatClampNeg = x.toInt.toNat := rfl
        have h6 : (0 : Int32).toInt = 0 := rfl
        omega
      · apply Int32.toInt_inj.mp
        have h3 := Int32.not_lt.mp h
        rw [Int32.le_iff_toInt_le] at h3
        have h5 : x.toNatClampNeg = x.toInt.toNat := rfl
        have h6 : (0 : Int32).toInt = 0 := rfl
        have h7 := Int32.toInt_lt x
        rw [nI_toInt (by omega)]
        omega
theorem i_bad {x : Int32} {k : Nat} (hk : k + 1 < 2 ^ 31) (h : x < 0 ∨ nI (k + 1) ≤ x) : ¬ (nI 0 ≤ x ∧ x ≤ nI k) := by
  rintro ⟨h1, h2⟩
  rw [Int32.le_iff_toInt_le, nI_toInt (by omega)] at h1 h2
  rcases h with h | h
  · rw [Int32.lt_iff_toInt_lt] at h
    have h6 : (0 : Int32).toInt = 0 := rfl
    omega
  · rw [Int32.le_iff_toInt_le, nI_toInt (by omega)] at h
    omega
def bg (i : Nat) : Nat := if i < 16 then (if i % 5 = 0 then 1 else 0) else if 44 ≤ i ∧ i < 48 then 4 else if i = 48 then 12 else 0
def frT (F : Nat → Nat → Int32) (u : Nat) : Nat → Nat → Int32 := fun b i => if b = u + 1 ∧ i < 16 then nI (if i % 5 = 0 then 1 else 0) else if b = u + 2 ∧ i < 16 then nI 0 else if b = u + 3 ∧ i < 12 then nI 0 else if b = u + 4 ∧ i < 4 then nI 4 else if b = u ∧ i = 4 then nI 12 else F b i
def bgM (F : Nat → Nat → Int32) (a : Nat) : Nat → Nat → Int32 := fun b i => if b = a ∧ i < 49 then nI (bg i) else F b i
def stM (F : Nat → Nat → Int32) : Nat → Nat → Int32 := fun b i => if b = 75 ∧ i < 61 then (if 1 ≤ i ∧ i < 17 then F 73 (i - 1) else if 17 ≤ i ∧ i < 33 then nI (if (i - 17) % 5 = 0 then 1 else 0) else nI 0) else if b = 72 ∧ (i = 4 ∨ i = 10) then nI 0 else if b = 78 ∧ i < 2 then nI 0 else F b i
def ntM (F : Nat → Nat → Int32) (p : Nat) : Nat → Nat → Int32 := fun b i => if p < 6 then (if b = 76 ∧ 61 * p ≤ i ∧ i < 61 * p + 61 then F 75 (i - 61 * p) else if b = 72 ∧ i = 4 then nI (p + 1) else F b i) else (if b = 76 ∧ i < 305 then F 76 (i + 61) else if b = 76 ∧ i < 366 then F 75 (i - 305) else F b i)
theorem n_irem {a d : Nat} (ha : a < 2 ^ 31) (h0 : 0 < d) (hd : d < 2 ^ 31) : nI a - nI a / nI d * nI d = nI (a % d) := pk_rem ha h0 hd
theorem by_ok : ∀ a, a < 31 → ∀ b, b < 31 → b ≠ 0 → (a * ob b % 31 * b) % 31 = a ∧ ∀ v, v < a * ob b % 31 → v * b % 31 ≠ a := by decide +kernel
theorem sy_neg : ∀ c, c < 1000 → (if 0 ≤ (0 - nI c) - (0 - nI c) / nI 31 * nI 31 then (0 - nI c) - (0 - nI c) / nI 31 * nI 31 else (0 - nI c) - (0 - nI c) / nI 31 * nI 31 + nI 31) = nI (30 * c % 31) := by decide +kernel
theorem mk_if : ∀ i, i < 4 → ∀ b, b < 4 → (if (nI i &&& nI b) &&& nI 1 = ((nI i &&& nI b) >>> (nI 1 &&& 31)) &&& nI 1 then nI 1 else nI 30) = nI (mk (4 * i + b)) := by decide +kernel
theorem n_5 : ¬ nI 5 = 0 := by decide
section S47
variable {X : Nat × (Nat → Int32)} {t u : Nat} {F : Nat → Nat → Int32} {J : Nat → Int64} {w : q_M}
theorem s31 : q_ex X (31, 0, [.ref 1, .null], [], q_w t u F J) = some (some (.int (F 1 1)), q_w t u (q_up F 1 1 (nI 0)) J) := by
  simp (disch := (first | omega | assumption | rfl | (simp (disch := assumption) only [l9_2, l9_4, l9_5, l9_6, l9_7, l9_9, l9_10, l9_11, l9_12, l9_14, l9_15, l9_16, l9_17, l9_51, l9_52, l9_53, l9_55, l9_56, l9_58, l9_61, l9_73, l9_74, l9_75, l9_76, l9_77, l9_79, l9_80, l9_81, l9_82, l9_83, l9_84, l9_85, l10_59, l10_78, l9_D1, l9_D2, l9_D3, l9_D4, l9_T1, l9_T2, l9_T3, l9_T4]; omega) | decide)) only [e31_0, e31_1, e31_4, e31_5, e31_6, e31_7, e31_10, e31_11]
theorem s44 {a : Nat} (ha : q_isT a = true) : q_ex X (44, 0, [.ref a, .null], [], q_w t u F J) = some (none, q_w t u (frT F a) J) := by
  have ha2 := isT_cases ha
  have h := q_iter0 (X := X) (fun k => (44, 2, [.ref a, .int (nI k)], [], q_w t u (fun b i => if b = a + 1 ∧ i < k then nI (if i % 5 = 0 then 1 else 0) else if b = a + 2 ∧ i < k then nI 0 else F b i) J)) 16 (fun k hk => ?_)
  · simp (disch := (first | omega | assumption | rfl | (simp (disch := assumption) only [l9_2, l9_4, l9_5, l9_6, l9_7, l9_9, l9_10, l9_11, l9_12, l9_14, l9_15, l9_16, l9_17, l9_51, l9_52, l9_53, l9_55, l9_56, l9_58, l9_61, l9_73, l9_74, l9_75, l9_76, l9_77, l9_79, l9_80, l9_81, l9_82, l9_83, l9_84, l9_85, l10_59, l10_78, l9_D1, l9_D2, l9_D3, l9_D4, l9_T1, l9_T2, l9_T3, l9_T4]; omega) | decide)) only [e44_0, e44_1]
    have h' : q_ex X (44, 2, [.ref a, .int (nI 0)], [], q_w t u F J) = q_ex X (44, 2, [.ref a, .int (nI 16)], [], q_w t u (fun b i => if b = a + 1 ∧ i < 16 then nI (if i % 5 = 0 then 1 else 0) else if b = a + 2 ∧ i < 16 then nI 0 else F b i) J) := by
      refine Eq.trans ?_ h
      congr 6
      funext b i
      grind
    rw [h', e44_2]
    simp (disch := (first | omega | assumption | rfl | (simp (disch := assumption) only [l9_2, l9_4, l9_5, l9_6, l9_7, l9_9, l9_10, l9_11, l9_12, l9_14, l9_15, l9_16, l9_17, l9_51, l9_52, l9_53, l9_55, l9_56, l9_58, l9_61, l9_73, l9_74, l9_75, l9_76, l9_77, l9_79, l9_80, l9_81, l9_82, l9_83, l9_84, l9_85, l10_59, l10_78, l9_D1, l9_D2, l9_D3, l9_D4, l9_T1, l9_T2, l9_T3, l9_T4]; omega) | decide)) only [e44_3, e44_5, e44_41, e44_42, ↓reduceIte, Nat.reduceAdd, Nat.reduceMul, nI_add, pk_mul, n_lt_t, n_lt_f, n_le_t, n_le_f, n_eq_f, n_eq_t, n_z_f, n_z_t, n_lz, n_zl, not_true_eq_false, not_false_eq_true]
    have h2 := q_iter0 (X := X) (fun k => (44, 43, [.ref a, .int (nI k)], [], q_w t u (fun b i => if b = a + 1 ∧ i < 16 then nI (if i % 5 = 0 then 1 else 0) else if b = a + 2 ∧ i < 16 then nI 0 else if b = a + 3 ∧ i < k then nI 0 else F b i) J)) 12 (fun k hk => ?_)
    · refine Eq.trans ?_ (h2.trans ?_)
      · congr 6
        funext b i
        grind
      · rw [e44_43]
        simp (disch := (first | omega | assumption | rfl | (simp (disch := assumption) only [l9_2, l9_4, l9_5, l9_6, l9_7, l9_9, l9_10, l9_11, l9_12, l9_14, l9_15, l9_16, l9_17, l9_51, l9_52, l9_53, l9_55, l9_56, l9_58, l9_61, l9_73, l9_74, l9_75, l9_76, l9_77, l9_79, l9_80, l9_81, l9_82, l9_83, l9_84, l9_85, l10_59, l10_78, l9_D1, l9_D2, l9_D3, l9_D4, l9_T1, l9_T2, l9_T3, l9_T4]; omega) | decide)) only [e44_0, e44_1, e44_3, e44_5, e44_8, e44_9, e44_12, e44_13, e44_14, e44_15, e44_16, e44_17, e44_18, e44_19, e44_22, e44_23, e44_26, e44_27, e44_28, e44_29, e44_32, e44_33, e44_34, e44_35, e44_38, e44_41, e44_42, e44_44, e44_46, e44_49, e44_50, e44_53, e44_54, e44_55, e44_56, e44_59, e44_62, e44_63, e44_65, e44_66, e44_69, e44_70, e44_73, e44_74, e44_75, e44_76, e44_79, e44_82, e44_83, e44_85, e44_88, ↓reduceIte, Nat.reduceAdd, Nat.reduceMul, nI_add, pk_mul, n_lt_t, n_lt_f, n_le_t, n_le_f, n_eq_f, n_eq_t, n_z_f, n_z_t, n_lz, n_zl, not_true_eq_false, not_false_eq_true]
        have h3 := q_iter0 (X := X) (fun k => (44, 64, [.ref a, .int (nI k)], [], q_w t u (fun b i => if b = a + 1 ∧ i < 16 then nI (if i % 5 = 0 then 1 else 0) else if b = a + 2 ∧ i < 16 then nI 0 else if b = a + 3 ∧ i < 12 then nI 0 else if b = a + 4 ∧ i < k then nI 4 else F b i) J)) 4 (fun k hk => ?_)
        · refine Eq.trans ?_ (h3.trans ?_)
          · congr 6
            funext b i
            grind
          · rw [e44_64]
            simp (disch := (first | omega | assumption | rfl | (simp (disch := assumption) only [l9_2, l9_4, l9_5, l9_6, l9_7, l9_9, l9_10, l9_11, l9_12, l9_14, l9_15, l9_16, l9_17, l9_51, l9_52, l9_53, l9_55, l9_56, l9_58, l9_61, l9_73, l9_74, l9_75, l9_76, l9_77, l9_79, l9_80, l9_81, l9_82, l9_83, l9_84, l9_85, l10_59, l10_78, l9_D1, l9_D2, l9_D3, l9_D4, l9_T1, l9_T2, l9_T3, l9_T4]; omega) | decide)) only [e44_0, e44_1, e44_3, e44_5, e44_8, e44_9, e44_12, e44_13, e44_14, e44_15, e44_16, e44_17, e44_18, e44_19, e44_22, e44_23, e44_26, e44_27, e44_28, e44_29, e44_32, e44_33, e44_34, e44_35, e44_38, e44_41, e44_42, e44_44, e44_46, e44_49, e44_50, e44_53, e44_54, e44_55, e44_56, e44_59, e44_62, e44_63, e44_65, e44_66, e44_69, e44_70, e44_73, e44_74, e44_75, e44_76, e44_79, e44_82, e44_83, e44_85, e44_88, ↓reduceIte, Nat.reduceAdd, Nat.reduceMul, nI_add, pk_mul, n_lt_t, n_lt_f, n_le_t, n_le_f, n_eq_f, n_eq_t, n_z_f, n_z_t, n_lz, n_zl, not_true_eq_false, not_false_eq_true]
            congr 3
            funext b i
            simp only [q_app, frT]
            grind
        · try dsimp only
          rw [e44_64]
          simp (disch := (first | omega | assumption | rfl | (simp (disch := assumption) only [l9_2, l9_4, l9_5, l9_6, l9_7, l9_9, l9_10, l9_11, l9_12, l9_14, l9_15, l9_16, l9_17, l9_51, l9_52, l9_53, l9_55, l9_56, l9_58, l9_61, l9_73, l9_74, l9_75, l9_76, l9_77, l9_79, l9_80, l9_81, l9_82, l9_83, l9_84, l9_85, l10_59, l10_78, l9_D1, l9_D2, l9_D3, l9_D4, l9_T1, l9_T2, l9_T3, l9_T4]; omega) | decide)) only [e44_0, e44_1, e44_3, e44_5, e44_8, e44_9, e44_12, e44_13, e44_14, e44_15, e44_16, e44_17, e44_18, e44_19, e44_22, e44_23, e44_26, e44_27, e44_28, e44_29, e44_32, e44_33, e44_34, e44_35, e44_38, e44_41, e44_42, e44_44, e44_46, e44_49, e44_50, e44_53, e44_54, e44_55, e44_56, e44_59, e44_62, e44_63, e44_65, e44_66, e44_69, e44_70, e44_73, e44_74, e44_75, e44_76, e44_79, e44_82, e44_83, e44_85, e44_88, ↓reduceIte, Nat.reduceAdd, Nat.reduceMul, nI_add, pk_mul, n_lt_t, n_lt_f, n_le_t, n_le_f, n_eq_f, n_eq_t, n_z_f, n_z_t, n_lz, n_zl, not_true_eq_false, not_false_eq_true]
          congr 6
          funext b i
          simp only [q_app]
          grind
    · try dsimp only
      rw [e44_43]
      simp (disch := (first | omega | assumption | rfl | (simp (disch := assumption) only [l9_2, l9_4, l9_5, l9_6, l9_7, l9_9, l9_10, l9_11, l9_12, l9_14, l9_15, l9_16, l9_17, l9_51, l9_52, l9_53, l9_55, l9_56, l9_58, l9_61, l9_73, l9_74, l9_75, l9_76, l9_77, l9_79, l9_80, l9_81, l9_82, l9_83, l9_84, l9_85, l10_59, l10_78, l9_D1, l9_D2, l9_D3, l9_D4, l9_T1, l9_T2, l9_T3, l9_T4]; omega) | decide)) only [e44_0, e44_1, e44_3, e44_5, e44_8, e44_9, e44_12, e44_13, e44_14, e44_15, e44_16, e44_17, e44_18, e44_19, e44_22, e44_23, e44_26, e44_27, e44_28, e44_29, e44_32, e44_33, e44_34, e44_35, e44_38, e44_41, e44_42, e44_44, e44_46, e44_49, e44_50, e44_53, e44_54, e44_55, e44_56, e44_59, e44_62, e44_63, e44_65, e44_66, e44_69, e44_70, e44_73, e44_74, e44_75, e44_76, e44_79, e44_82, e44_83, e44_85, e44_88, ↓reduceIte, Nat.reduceAdd, Nat.reduceMul, nI_add, pk_mul, n_lt_t, n_lt_f, n_le_t, n_le_f, n_eq_f, n_eq_t, n_z_f, n_z_t, n_lz, n_zl, not_true_eq_false, not_false_eq_true]
      congr 6
      funext b i
      simp only [q_app]
      grind
  · try dsimp only
    rw [e44_2]
    by_cases h5 : k % 5 = 0
    · have h6 := eq_true ((s1_d k hk).mpr h5)
      simp (disch := (first | omega | assumption | rfl | (simp (disch := assumption) only [l9_2, l9_4, l9_5, l9_6, l9_7, l9_9, l9_10, l9_11, l9_12, l9_14, l9_15, l9_16, l9_17, l9_51, l9_52, l9_53, l9_55, l9_56, l9_58, l9_61, l9_73, l9_74, l9_75, l9_76, l9_77, l9_79, l9_80, l9_81, l9_82, l9_83, l9_84, l9_85, l10_59, l10_78, l9_D1, l9_D2, l9_D3, l9_D4, l9_T1, l9_T2, l9_T3, l9_T4]; omega) | decide)) only [e44_0, e44_1, e44_3, e44_5, e44_8, e44_9, e44_12, e44_13, e44_14, e44_15, e44_16, e44_17, e44_18, e44_19, e44_22, e44_23, e44_26, e44_27, e44_28, e44_29, e44_32, e44_33, e44_34, e44_35, e44_38, e44_41, e44_42, e44_44, e44_46, e44_49, e44_50, e44_53, e44_54, e44_55, e44_56, e44_59, e44_62, e44_63, e44_65, e44_66, e44_69, e44_70, e44_73, e44_74, e44_75, e44_76, e44_79, e44_82, e44_83, e44_85, e44_88, ↓reduceIte, Nat.reduceAdd, Nat.reduceMul, nI_add, pk_mul, n_lt_t, n_lt_f, n_le_t, n_le_f, n_eq_f, n_eq_t, n_z_f, n_z_t, n_lz, n_zl, not_true_eq_false, not_false_eq_true, n_4, h6]
      congr 6
      funext b i
      simp only [q_app]
      grind
    · have h6 : ¬ (nI k / nI 4 = nI k - nI k / nI 4 * nI 4) := fun z => h5 ((s1_d k hk).mp z)
      simp (disch := (first | omega | assumption | rfl | (simp (disch := assumption) only [l9_2, l9_4, l9_5, l9_6, l9_7, l9_9, l9_10, l9_11, l9_12, l9_14, l9_15, l9_16, l9_17, l9_51, l9_52, l9_53, l9_55, l9_56, l9_58, l9_61, l9_73, l9_74, l9_75, l9_76, l9_77, l9_79, l9_80, l9_81, l9_82, l9_83, l9_84, l9_85, l10_59, l10_78, l9_D1, l9_D2, l9_D3, l9_D4, l9_T1, l9_T2, l9_T3, l9_T4]; omega) | decide)) only [e44_0, e44_1, e44_3, e44_5, e44_8, e44_9, e44_12, e44_13, e44_14, e44_15, e44_16, e44_17, e44_18, e44_19, e44_22, e44_23, e44_26, e44_27, e44_28, e44_29, e44_32, e44_33, e44_34, e44_35, e44_38, e44_41, e44_42, e44_44, e44_46, e44_49, e44_50, e44_53, e44_54, e44_55, e44_56, e44_59, e44_62, e44_63, e44_65, e44_66, e44_69, e44_70, e44_73, e44_74, e44_75, e44_76, e44_79, e44_82, e44_83, e44_85, e44_88, ↓reduceIte, Nat.reduceAdd, Nat.reduceMul, nI_add, pk_mul, n_lt_t, n_lt_f, n_le_t, n_le_f, n_eq_f, n_eq_t, n_z_f, n_z_t, n_lz, n_zl, not_true_eq_false, not_false_eq_true, n_4, h6]
      congr 6
      funext b i
      simp only [q_app]
      grind
theorem s85_t {v l h : Nat} (h1 : l ≤ v) (h2 : v ≤ h) (h3 : h < 2 ^ 31) : q_ex X (85, 0, [.int (nI v), .int (nI l), .int (nI h)], [], w) = some (some (.int (nI 1)), w) := by
  rw [s85, decide_eq_true ⟨nI_le h1 (by omega), nI_le h2 (by omega)⟩]
  rfl
theorem s85_f {v : Int32} {l h : Int32} (h1 : ¬ (l ≤ v ∧ v ≤ h)) : q_ex X (85, 0, [.int v, .int l, .int h], [], w) = some (some (.int (nI 0)), w) := by
  rw [s85, decide_eq_false h1]
  rfl
theorem s85_n {v l h : Nat} (h1 : v < l ∨ h < v) (h2 : l < 2 ^ 31) (h3 : v < 2 ^ 31) : q_ex X (85, 0, [.int (nI v), .int (nI l), .int (nI h)], [], w) = some (some (.int (nI 0)), w) := by
  refine s85_f ?_
  rintro ⟨a, b⟩
  rcases h1 with c | c
  · exact absurd a (nI_ge c (by omega))
  · exact absurd b (nI_ge c (by omega))
theorem s86 {o j : Nat} (ho : o < 2 ^ 31) (hj : j < 31) : q_ex X (86, 0, [.int (nI o), .int (nI j)], [], w) = some (some (.int (nI (bt o j))), w) := by
  have hb := bt_lt o j
  by_cases h : bt o j = 1
  · simp (disch := (first | omega | assumption | rfl | (simp (disch := assumption) only [l9_2, l9_4, l9_5, l9_6, l9_7, l9_9, l9_10, l9_11, l9_12, l9_14, l9_15, l9_16, l9_17, l9_51, l9_52, l9_53, l9_55, l9_56, l9_58, l9_61, l9_73, l9_74, l9_75, l9_76, l9_77, l9_79, l9_80, l9_81, l9_82, l9_83, l9_84, l9_85, l10_59, l10_78, l9_D1, l9_D2, l9_D3, l9_D4, l9_T1, l9_T2, l9_T3, l9_T4]; omega) | decide)) only [e86_0, e86_1, e86_2, e86_3, e86_4, e86_5, e86_6, e86_9, e86_10, e86_13, e86_14, ↓reduceIte, Nat.reduceAdd, Nat.reduceMul, nI_add, pk_mul, n_lt_t, n_lt_f, n_le_t, n_le_f, n_eq_f, n_eq_t, n_z_f, n_z_t, n_lz, n_zl, not_true_eq_false, not_false_eq_true, n_bit, h]
  · have h0 : bt o j = 0 := by omega
    simp (disch := (first | omega | assumption | rfl | (simp (disch := assumption) only [l9_2, l9_4, l9_5, l9_6, l9_7, l9_9, l9_10, l9_11, l9_12, l9_14, l9_15, l9_16, l9_17, l9_51, l9_52, l9_53, l9_55, l9_56, l9_58, l9_61, l9_73, l9_74, l9_75, l9_76, l9_77, l9_79, l9_80, l9_81, l9_82, l9_83, l9_84, l9_85, l10_59, l10_78, l9_D1, l9_D2, l9_D3, l9_D4, l9_T1, l9_T2, l9_T3, l9_T4]; omega) | decide)) only [e86_0, e86_1, e86_2, e86_3, e86_4, e86_5, e86_6, e86_9, e86_10, e86_13, e86_14, ↓reduceIte, Nat.reduceAdd, Nat.reduceMul, nI_add, pk_mul, n_lt_t, n_lt_f, n_le_t, n_le_f, n_eq_f, n_eq_t, n_z_f, n_z_t, n_lz, n_zl, not_true_eq_false, not_false_eq_true, n_bit, h0]
theorem s87_t {j : Nat} (hj : j < 4) : q_ex X (87, 0, [.int (nI j)], [], w) = some (some (.int (nI 1)), w) := by
  simp (disch := (first | omega | assumption | rfl | (simp (disch := assumption) only [l9_2, l9_4, l9_5, l9_6, l9_7, l9_9, l9_10, l9_11, l9_12, l9_14, l9_15, l9_16, l9_17, l9_51, l9_52, l9_53, l9_55, l9_56, l9_58, l9_61, l9_73, l9_74, l9_75, l9_76, l9_77, l9_79, l9_80, l9_81, l9_82, l9_83, l9_84, l9_85, l10_59, l10_78, l9_D1, l9_D2, l9_D3, l9_D4, l9_T1, l9_T2, l9_T3, l9_T4]; omega) | decide)) only [e87_0, e87_1, e87_2, e87_3, e87_6, s85_t, Option.bind_some, Option.toList_some, Option.toList_none, List.cons_append, List.nil_append]
theorem s87_f {x : Int32} (h : x < 0 ∨ nI 4 ≤ x) : q_ex X (87, 0, [.int x], [], w) = some (some (.int (nI 0)), w) := by
  simp (disch := (first | omega | assumption | rfl | (simp (disch := assumption) only [l9_2, l9_4, l9_5, l9_6, l9_7, l9_9, l9_10, l9_11, l9_12, l9_14, l9_15, l9_16, l9_17, l9_51, l9_52, l9_53, l9_55, l9_56, l9_58, l9_61, l9_73, l9_74, l9_75, l9_76, l9_77, l9_79, l9_80, l9_81, l9_82, l9_83, l9_84, l9_85, l10_59, l10_78, l9_D1, l9_D2, l9_D3, l9_D4, l9_T1, l9_T2, l9_T3, l9_T4]; omega) | decide)) only [e87_0, e87_1, e87_2, e87_3, e87_6, s85_f (i_bad (by decide) h), Option.bind_some, Option.toList_some, Option.toList_none, List.cons_append, List.nil_append]
theorem s88_t {o j : Nat} (hO : F 75 0 = nI o) (ho : o < 16) (hj : j < 4) : q_ex X (88, 0, [.ref 72, .int (nI j)], [], q_w t u F J) = some (some (.int (nI (bt o j))), q_w t u F J) := by
  have hb := bt_lt o j
  by_cases h : bt o j = 1
  · simp (disch := (first | omega | assumption | rfl | (simp (disch := assumption) only [l9_2, l9_4, l9_5, l9_6, l9_7, l9_9, l9_10, l9_11, l9_12, l9_14, l9_15, l9_16, l9_17, l9_51, l9_52, l9_53, l9_55, l9_56, l9_58, l9_61, l9_73, l9_74, l9_75, l9_76, l9_77, l9_79, l9_80, l9_81, l9_82, l9_83, l9_84, l9_85, l10_59, l10_78, l9_D1, l9_D2, l9_D3, l9_D4, l9_T1, l9_T2, l9_T3, l9_T4]; omega) | decide)) only [e88_0, e88_1, e88_4, e88_7, e88_8, e88_11, e88_12, e88_13, e88_14, e88_17, e88_20, e88_21, e88_24, e88_25, s87_t, Option.bind_some, Option.toList_some, Option.toList_none, List.cons_append, List.nil_append, ↓reduceIte, Nat.reduceAdd, Nat.reduceMul, nI_add, pk_mul, n_lt_t, n_lt_f, n_le_t, n_le_f, n_eq_f, n_eq_t, n_z_f, n_z_t, n_lz, n_zl, not_true_eq_false, not_false_eq_true, hO, s86, h]
  · have h0 : bt o j = 0 := by omega
    simp (disch := (first | omega | assumption | rfl | (simp (disch := assumption) only [l9_2, l9_4, l9_5, l9_6, l9_7, l9_9, l9_10, l9_11, l9_12, l9_14, l9_15, l9_16, l9_17, l9_51, l9_52, l9_53, l9_55, l9_56, l9_58, l9_61, l9_73, l9_74, l9_75, l9_76, l9_77, l9_79, l9_80, l9_81, l9_82, l9_83, l9_84, l9_85, l10_59, l10_78, l9_D1, l9_D2, l9_D3, l9_D4, l9_T1, l9_T2, l9_T3, l9_T4]; omega) | decide)) only [e88_0, e88_1, e88_4, e88_7, e88_8, e88_11, e88_12, e88_13, e88_14, e88_17, e88_20, e88_21, e88_24, e88_25, s87_t, Option.bind_some, Option.toList_some, Option.toList_none, List.cons_append, List.nil_append, ↓reduceIte, Nat.reduceAdd, Nat.reduceMul, nI_add, pk_mul, n_lt_t, n_lt_f, n_le_t, n_le_f, n_eq_f, n_eq_t, n_z_f, n_z_t, n_lz, n_zl, not_true_eq_false, not_false_eq_true, hO, s86, h0]
theorem s88_f {x : Int32} (h : x < 0 ∨ nI 4 ≤ x) : q_ex X (88, 0, [.ref 72, .int x], [], q_w t u F J) = some (some (.int (nI 0)), q_w t u F J) := by
  simp (disch := (first | omega | assumption | rfl | (simp (disch := assumption) only [l9_2, l9_4, l9_5, l9_6, l9_7, l9_9, l9_10, l9_11, l9_12, l9_14, l9_15, l9_16, l9_17, l9_51, l9_52, l9_53, l9_55, l9_56, l9_58, l9_61, l9_73, l9_74, l9_75, l9_76, l9_77, l9_79, l9_80, l9_81, l9_82, l9_83, l9_84, l9_85, l10_59, l10_78, l9_D1, l9_D2, l9_D3, l9_D4, l9_T1, l9_T2, l9_T3, l9_T4]; omega) | decide)) only [e88_0, e88_1, e88_4, e88_7, e88_8, e88_11, e88_12, e88_13, e88_14, e88_17, e88_20, e88_21, e88_24, e88_25, s87_f h, Option.bind_some, Option.toList_some, Option.toList_none, List.cons_append, List.nil_append, ↓reduceIte, Nat.reduceAdd, Nat.reduceMul, nI_add, pk_mul, n_lt_t, n_lt_f, n_le_t, n_le_f, n_eq_f, n_eq_t, n_z_f, n_z_t, n_lz, n_zl, not_true_eq_false, not_false_eq_true]
theorem s89 {o : Nat} (ho : o < 2 ^ 31) : q_ex X (89, 0, [.int (nI o), .null, .null], [], w) = some (some (.int (nI (pcS o 4))), w) := by
  have h := q_iter0 (X := X) (fun k => (89, 4, [.int (nI o), .int (nI (pcS o k)), .int (nI k)], [], w)) 4 (fun k hk => ?_)
  · simp only [e89_0, e89_1, e89_2, e89_3]
    have h' : q_ex X (89, 4, [.int (nI o), .int (nI 0), .int (nI 0)], [], w) = _ := h
    rw [h', e89_4]
    simp (disch := (first | omega | assumption | rfl | (simp (disch := assumption) only [l9_2, l9_4, l9_5, l9_6, l9_7, l9_9, l9_10, l9_11, l9_12, l9_14, l9_15, l9_16, l9_17, l9_51, l9_52, l9_53, l9_55, l9_56, l9_58, l9_61, l9_73, l9_74, l9_75, l9_76, l9_77, l9_79, l9_80, l9_81, l9_82, l9_83, l9_84, l9_85, l10_59, l10_78, l9_D1, l9_D2, l9_D3, l9_D4, l9_T1, l9_T2, l9_T3, l9_T4]; omega) | decide)) only [e89_0, e89_1, e89_2, e89_3, e89_5, e89_6, e89_9, e89_10, e89_11, e89_12, e89_15, e89_18, e89_19, e89_22, e89_23, e89_24, e89_25, e89_28, e89_31, e89_32, ↓reduceIte, Nat.reduceAdd, Nat.reduceMul, nI_add, pk_mul, n_lt_t, n_lt_f, n_le_t, n_le_f, n_eq_f, n_eq_t, n_z_f, n_z_t, n_lz, n_zl, not_true_eq_false, not_false_eq_true]
  · try dsimp only
    rw [e89_4]
    have hb := bt_lt o k
    by_cases h2 : bt o k = 1
    · simp (disch := (first | omega | assumption | rfl | (simp (disch := assumption) only [l9_2, l9_4, l9_5, l9_6, l9_7, l9_9, l9_10, l9_11, l9_12, l9_14, l9_15, l9_16, l9_17, l9_51, l9_52, l9_53, l9_55, l9_56, l9_58, l9_61, l9_73, l9_74, l9_75, l9_76, l9_77, l9_79, l9_80, l9_81, l9_82, l9_83, l9_84, l9_85, l10_59, l10_78, l9_D1, l9_D2, l9_D3, l9_D4, l9_T1, l9_T2, l9_T3, l9_T4]; omega) | decide)) only [e89_0, e89_1, e89_2, e89_3, e89_5, e89_6, e89_9, e89_10, e89_11, e89_12, e89_15, e89_18, e89_19, e89_22, e89_23, e89_24, e89_25, e89_28, e89_31, e89_32, ↓reduceIte, Nat.reduceAdd, Nat.reduceMul, nI_add, pk_mul, n_lt_t, n_lt_f, n_le_t, n_le_f, n_eq_f, n_eq_t, n_z_f, n_z_t, n_lz, n_zl, not_true_eq_false, not_false_eq_true, s86, Option.bind_some, Option.toList_some, Option.toList_none, List.cons_append, List.nil_append, h2]
      simp only [pcS, h2]
    · have h0 : bt o k = 0 := by omega
      simp (disch := (first | omega | assumption | rfl | (simp (disch := assumption) only [l9_2, l9_4, l9_5, l9_6, l9_7, l9_9, l9_10, l9_11, l9_12, l9_14, l9_15, l9_16, l9_17, l9_51, l9_52, l9_53, l9_55, l9_56, l9_58, l9_61, l9_73, l9_74, l9_75, l9_76, l9_77, l9_79, l9_80, l9_81, l9_82, l9_83, l9_84, l9_85, l10_59, l10_78, l9_D1, l9_D2, l9_D3, l9_D4, l9_T1, l9_T2, l9_T3, l9_T4]; omega) | decide)) only [e89_0, e89_1, e89_2, e89_3, e89_5, e89_6, e89_9, e89_10, e89_11, e89_12, e89_15, e89_18, e89_19, e89_22, e89_23, e89_24, e89_25, e89_28, e89_31, e89_32, ↓reduceIte, Nat.reduceAdd, Nat.reduceMul, nI_add, pk_mul, n_lt_t, n_lt_f, n_le_t, n_le_f, n_eq_f, n_eq_t, n_z_f, n_z_t, n_lz, n_zl, not_true_eq_false, not_false_eq_true, s86, Option.bind_some, Option.toList_some, Option.toList_none, List.cons_append, List.nil_append, h0]
      simp only [pcS, h0]
theorem s92 {a : Nat} (h : a < 2 ^ 31) : q_ex X (92, 0, [.int (nI a), .null], [], w) = some (some (.int (nI (a % 31))), w) := by
  simp (disch := (first | omega | assumption | rfl | (simp (disch := assumption) only [l9_2, l9_4, l9_5, l9_6, l9_7, l9_9, l9_10, l9_11, l9_12, l9_14, l9_15, l9_16, l9_17, l9_51, l9_52, l9_53, l9_55, l9_56, l9_58, l9_61, l9_73, l9_74, l9_75, l9_76, l9_77, l9_79, l9_80, l9_81, l9_82, l9_83, l9_84, l9_85, l10_59, l10_78, l9_D1, l9_D2, l9_D3, l9_D4, l9_T1, l9_T2, l9_T3, l9_T4]; omega) | decide)) only [e92_0, e92_1, e92_3, e92_4, e92_5, e92_6, e92_9, e92_10, e92_12, e92_13, e92_16, e92_17, ↓reduceIte, Nat.reduceAdd, Nat.reduceMul, nI_add, pk_mul, n_lt_t, n_lt_f, n_le_t, n_le_f, n_eq_f, n_eq_t, n_z_f, n_z_t, n_lz, n_zl, not_true_eq_false, not_false_eq_true, n_31, n_rem]
theorem s92_n {a b : Nat} (h : a < 31) (hb : b < 1000) : q_ex X (92, 0, [.int (nI a - nI b), .null], [], w) = some (some (.int (nI ((a + 30 * b) % 31))), w) := by
  by_cases hab : b ≤ a
  · rw [n_sub hab, s92 (by omega), show (a - b) % 31 = (a + 30 * b) % 31 by omega]
  · have h1 : nI a - nI b = 0 - nI (b - a) := by
      have h2 : nI b = nI (b - a) + nI a := by rw [nI_add, show b - a + a = b by omega]
      rw [h2]
      grind
    have h3 := sy_neg (b - a) (by omega)
    rw [h1]
    by_cases h4 : 0 ≤ (0 - nI (b - a)) - (0 - nI (b - a)) / nI 31 * nI 31
    · rw [if_pos h4] at h3
      simp (disch := (first | omega | assumption | rfl | (simp (disch := assumption) only [l9_2, l9_4, l9_5, l9_6, l9_7, l9_9, l9_10, l9_11, l9_12, l9_14, l9_15, l9_16, l9_17, l9_51, l9_52, l9_53, l9_55, l9_56, l9_58, l9_61, l9_73, l9_74, l9_75, l9_76, l9_77, l9_79, l9_80, l9_81, l9_82, l9_83, l9_84, l9_85, l10_59, l10_78, l9_D1, l9_D2, l9_D3, l9_D4, l9_T1, l9_T2, l9_T3, l9_T4]; omega) | decide)) only [e92_0, e92_1, e92_3, e92_4, e92_5, e92_6, e92_9, e92_10, e92_12, e92_13, e92_16, e92_17, ↓reduceIte, Nat.reduceAdd, Nat.reduceMul, nI_add, pk_mul, n_lt_t, n_lt_f, n_le_t, n_le_f, n_eq_f, n_eq_t, n_z_f, n_z_t, n_lz, n_zl, not_true_eq_false, not_false_eq_true, n_31, h4, h3]
      rw [show 30 * (b - a) % 31 = (a + 30 * b) % 31 by omega]
    · rw [if_neg h4] at h3
      simp (disch := (first | omega | assumption | rfl | (simp (disch := assumption) only [l9_2, l9_4, l9_5, l9_6, l9_7, l9_9, l9_10, l9_11, l9_12, l9_14, l9_15, l9_16, l9_17, l9_51, l9_52, l9_53, l9_55, l9_56, l9_58, l9_61, l9_73, l9_74, l9_75, l9_76, l9_77, l9_79, l9_80, l9_81, l9_82, l9_83, l9_84, l9_85, l10_59, l10_78, l9_D1, l9_D2, l9_D3, l9_D4, l9_T1, l9_T2, l9_T3, l9_T4]; omega) | decide)) only [e92_0, e92_1, e92_3, e92_4, e92_5, e92_6, e92_9, e92_10, e92_12, e92_13, e92_16, e92_17, ↓reduceIte, Nat.reduceAdd, Nat.reduceMul, nI_add, pk_mul, n_lt_t, n_lt_f, n_le_t, n_le_f, n_eq_f, n_eq_t, n_z_f, n_z_t, n_lz, n_zl, not_true_eq_false, not_false_eq_true, n_31, h4, h3]
      rw [show 30 * (b - a) % 31 = (a + 30 * b) % 31 by omega]
theorem s93_l {a b : Nat} (ha : a < 31) (hb : b < 31) (hb0 : b ≠ 0) : ∀ (n v : Nat), n + v = a * ob b % 31 → q_ex X (93, 2, [.int (nI a), .int (nI b), .int (nI v)], [], w) = some (some (.int (nI (a * ob b % 31))), w)
  | 0, v, hv => by
    obtain ⟨h1, h2⟩ := by_ok a ha b hb hb0
    have hm : v * b ≤ 31 * 30 := Nat.mul_le_mul (by omega) (by omega)
    have h3 : v * b % 31 = a := by rw [show v = a * ob b % 31 by omega]; exact h1
    rw [e93_2]
    simp (disch := (first | omega | assumption | rfl | (simp (disch := assumption) only [l9_2, l9_4, l9_5, l9_6, l9_7, l9_9, l9_10, l9_11, l9_12, l9_14, l9_15, l9_16, l9_17, l9_51, l9_52, l9_53, l9_55, l9_56, l9_58, l9_61, l9_73, l9_74, l9_75, l9_76, l9_77, l9_79, l9_80, l9_81, l9_82, l9_83, l9_84, l9_85, l10_59, l10_78, l9_D1, l9_D2, l9_D3, l9_D4, l9_T1, l9_T2, l9_T3, l9_T4]; omega) | decide)) only [e93_0, e93_1, e93_3, e93_4, e93_5, e93_8, e93_9, e93_12, e93_15, e93_18, e93_19, ↓reduceIte, Nat.reduceAdd, Nat.reduceMul, nI_add, pk_mul, n_lt_t, n_lt_f, n_le_t, n_le_f, n_eq_f, n_eq_t, n_z_f, n_z_t, n_lz, n_zl, not_true_eq_false, not_false_eq_true, s92, Option.bind_some, Option.toList_some, Option.toList_none, List.cons_append, List.nil_append, h3]
    rw [show v = a * ob b % 31 by omega]
  | n + 1, v, hv => by
    obtain ⟨h1, h2⟩ := by_ok a ha b hb hb0
    have hm : v * b ≤ 31 * 30 := Nat.mul_le_mul (by omega) (by omega)
    have h3 := h2 v (by omega)
    rw [e93_2]
    simp (disch := (first | omega | assumption | rfl | (simp (disch := assumption) only [l9_2, l9_4, l9_5, l9_6, l9_7, l9_9, l9_10, l9_11, l9_12, l9_14, l9_15, l9_16, l9_17, l9_51, l9_52, l9_53, l9_55, l9_56, l9_58, l9_61, l9_73, l9_74, l9_75, l9_76, l9_77, l9_79, l9_80, l9_81, l9_82, l9_83, l9_84, l9_85, l10_59, l10_78, l9_D1, l9_D2, l9_D3, l9_D4, l9_T1, l9_T2, l9_T3, l9_T4]; omega) | decide)) only [e93_0, e93_1, e93_3, e93_4, e93_5, e93_8, e93_9, e93_12, e93_15, e93_18, e93_19, ↓reduceIte, Nat.reduceAdd, Nat.reduceMul, nI_add, pk_mul, n_lt_t, n_lt_f, n_le_t, n_le_f, n_eq_f, n_eq_t, n_z_f, n_z_t, n_lz, n_zl, not_true_eq_false, not_false_eq_true, s92, Option.bind_some, Option.toList_some, Option.toList_none, List.cons_append, List.nil_append]
    exact s93_l ha hb hb0 n (v + 1) (by omega)
theorem s93 {a b : Nat} (ha : a < 31) (hb : b < 31) (hb0 : b ≠ 0) : q_ex X (93, 0, [.int (nI a), .int (nI b), .null], [], w) = some (some (.int (nI (a * ob b % 31))), w) := by
  simp only [e93_0, e93_1]
  exact s93_l ha hb hb0 (a * ob b % 31) 0 (by omega)
theorem s94 {i b : Nat} (hi : i < 4) (hb : b < 4) : q_ex X (94, 0, [.int (nI i), .int (nI b), .null], [], w) = some (some (.int (nI (mk (4 * i + b)))), w) := by
  rw [← mk_if i hi b hb]
  by_cases hc : (nI i &&& nI b) &&& nI 1 = ((nI i &&& nI b) >>> (nI 1 &&& 31)) &&& nI 1
  · simp only [e94_0, e94_1, e94_2, e94_3, e94_4, e94_5, e94_6, e94_7, e94_8, e94_9, e94_10, e94_11, e94_12, e94_15, e94_16, e94_19, e94_21, hc, ↓reduceIte, ne_eq, not_true_eq_false]
  · simp only [e94_0, e94_1, e94_2, e94_3, e94_4, e94_5, e94_6, e94_7, e94_8, e94_9, e94_10, e94_11, e94_12, e94_15, e94_16, e94_19, e94_21, hc, ↓reduceIte, ne_eq, not_false_eq_true]
end S47
