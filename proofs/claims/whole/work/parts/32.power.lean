/-! ===== bits, and QuietPairs$Power ===== -/
def bt (o i : Nat) : Nat := o / 2 ^ i % 2
theorem bt_lt (o i : Nat) : bt o i < 2 := Nat.mod_lt _ (by decide)
theorem n_bit {o i : Nat} (ho : o < 2 ^ 31) (hi : i < 31) : (nI o >>> (nI i &&& 31)) &&& nI 1 = nI (bt o i) := by
  have hs : ((nI i &&& 31).toBitVec.smod 32).toNat = i := by
    have h1 : ∀ n, n < 31 → ((nI n &&& 31).toBitVec.smod 32).toNat = n := by decide +kernel
    exact h1 i hi
  rw [pk_shrN ho _ i hs]
  exact pk_andN (n := o / 2 ^ i) (m := nI 1) (Nat.lt_of_le_of_lt (Nat.div_le_self _ _) (by omega)) 1 rfl
theorem n_b1 {o i : Nat} : (nI (bt o i) = nI 1) = (bt o i = 1) := by
  have := bt_lt o i
  rw [nI_eq (by omega) (by omega)]
/-- LEVEL: what the first k LINES give -/
def levS (N P L : Nat → Int32) (o j t : Nat) : Nat → Int32
  | 0 => N (3 * j + t) + P (3 * j + t)
  | k + 1 => if k ≠ j ∧ bt o k = 1 then levS N P L o j t k + L (4 * j + k) * P (3 * k + t) else levS N P L o j t k
/-- the quietest TONE of the first k (3: none) -/
def qu (P V : Nat → Int32) (j : Nat) (m : Int32) : Nat → Nat
  | 0 => 3
  | k + 1 => if ¬ m ≤ P (3 * j + k) ∧ (qu P V j m k = 3 ∨ ¬ V (qu P V j m k) ≤ V k) then k else qu P V j m k
def qv (b : Nat) : Int32 := if b < 3 then nI b else -9
theorem qu_le (P V : Nat → Int32) (j : Nat) (m : Int32) : ∀ k, k ≤ 3 → qu P V j m k < k ∨ qu P V j m k = 3
  | 0, _ => Or.inr rfl
  | k + 1, h => by
    have ih := qu_le P V j m k (by omega)
    unfold qu
    split
    · left; omega
    · omega
theorem n_m9 {b : Nat} (h : b < 2 ^ 31) : (nI b = -9) = False := eq_false (fun z => by
  have h1 := congrArg Int32.toInt z
  rw [nI_toInt h] at h1
  have h2 : (-9 : Int32).toInt = -9 := by decide
  rw [h2] at h1
  omega)
theorem qv_eq (b : Nat) : (qv b = -9) = ¬ b < 3 := by
  unfold qv
  by_cases h : b < 3
  · rw [if_pos h]
    have h1 : ∀ b, b < 3 → ¬ nI b = -9 := by decide +kernel
    simp [h1 b h, h]
  · rw [if_neg h]; simp [h]
theorem qv_3 : qv 3 = -9 := rfl
theorem qv_t {b : Nat} (h : b < 3) : qv b = nI b := if_pos h
section S32
variable {X : Nat × (Nat → Int32)} {t u : Nat} {F : Nat → Nat → Int32} {J : Nat → Int64} {w : q_M}
theorem s10 {a o p j c : Nat} (ha : q_isT a = true) (hp : k_l9 p = 12) (ho : o < 16) (hj : j < 4) (hc : c < 3) : q_ex X (10, 0, [.ref a, .int (nI o), .ref p, .int (nI j), .int (nI c), .null, .null], [], q_w t u F J) = some (some (.int (levS (F (a + 3)) (F p) (F (a + 2)) o j c 4)), q_w t u F J) := by
  have h := q_iter0 (X := X) (fun k => (10, 25, [.ref a, .int (nI o), .ref p, .int (nI j), .int (nI c), .int (levS (F (a + 3)) (F p) (F (a + 2)) o j c k), .int (nI k)], [], q_w t u F J)) 4 (fun k hk => ?_)
  · simp (disch := (first | omega | assumption | rfl | (simp (disch := assumption) only [l9_2, l9_4, l9_5, l9_6, l9_7, l9_9, l9_10, l9_11, l9_12, l9_14, l9_15, l9_16, l9_17, l9_51, l9_52, l9_53, l9_55, l9_56, l9_58, l9_61, l9_73, l9_74, l9_75, l9_76, l9_77, l9_79, l9_80, l9_81, l9_82, l9_83, l9_84, l9_85, l10_59, l10_78, l9_D1, l9_D2, l9_D3, l9_D4, l9_T1, l9_T2, l9_T3, l9_T4]; omega) | decide)) only [e10_0, e10_1, e10_4, e10_5, e10_6, e10_7, e10_9, e10_10, e10_11, e10_12, e10_13, e10_14, e10_15, e10_17, e10_18, e10_19, e10_20, e10_22, e10_23, e10_27, e10_28, e10_31, e10_33, e10_34, e10_37, e10_38, e10_40, e10_41, e10_42, e10_43, e10_44, e10_47, e10_49, e10_50, e10_53, e10_54, e10_55, e10_56, e10_58, e10_59, e10_60, e10_61, e10_62, e10_64, e10_65, e10_67, e10_68, e10_69, e10_70, e10_71, e10_73, e10_76, e10_79, e10_81, ↓reduceIte, nI_add, pk_mul, n_lt_t, n_lt_f, n_le_t, n_le_f, n_eq_f, n_eq_t, n_z_f, n_z_t, n_lz, n_zl, not_true_eq_false, not_false_eq_true]
    refine Eq.trans ?_ (h.trans ?_)
    · rfl
    · rw [e10_25]
      simp (disch := (first | omega | assumption | rfl | (simp (disch := assumption) only [l9_2, l9_4, l9_5, l9_6, l9_7, l9_9, l9_10, l9_11, l9_12, l9_14, l9_15, l9_16, l9_17, l9_51, l9_52, l9_53, l9_55, l9_56, l9_58, l9_61, l9_73, l9_74, l9_75, l9_76, l9_77, l9_79, l9_80, l9_81, l9_82, l9_83, l9_84, l9_85, l10_59, l10_78, l9_D1, l9_D2, l9_D3, l9_D4, l9_T1, l9_T2, l9_T3, l9_T4]; omega) | decide)) only [e10_0, e10_1, e10_4, e10_5, e10_6, e10_7, e10_9, e10_10, e10_11, e10_12, e10_13, e10_14, e10_15, e10_17, e10_18, e10_19, e10_20, e10_22, e10_23, e10_27, e10_28, e10_31, e10_33, e10_34, e10_37, e10_38, e10_40, e10_41, e10_42, e10_43, e10_44, e10_47, e10_49, e10_50, e10_53, e10_54, e10_55, e10_56, e10_58, e10_59, e10_60, e10_61, e10_62, e10_64, e10_65, e10_67, e10_68, e10_69, e10_70, e10_71, e10_73, e10_76, e10_79, e10_81, ↓reduceIte, nI_add, pk_mul, n_lt_t, n_lt_f, n_le_t, n_le_f, n_eq_f, n_eq_t, n_z_f, n_z_t, n_lz, n_zl, not_true_eq_false, not_false_eq_true]
  · try dsimp only
    rw [e10_25]
    by_cases h1 : k = j
    · subst h1
      simp (disch := (first | omega | assumption | rfl | (simp (disch := assumption) only [l9_2, l9_4, l9_5, l9_6, l9_7, l9_9, l9_10, l9_11, l9_12, l9_14, l9_15, l9_16, l9_17, l9_51, l9_52, l9_53, l9_55, l9_56, l9_58, l9_61, l9_73, l9_74, l9_75, l9_76, l9_77, l9_79, l9_80, l9_81, l9_82, l9_83, l9_84, l9_85, l10_59, l10_78, l9_D1, l9_D2, l9_D3, l9_D4, l9_T1, l9_T2, l9_T3, l9_T4]; omega) | decide)) only [e10_0, e10_1, e10_4, e10_5, e10_6, e10_7, e10_9, e10_10, e10_11, e10_12, e10_13, e10_14, e10_15, e10_17, e10_18, e10_19, e10_20, e10_22, e10_23, e10_27, e10_28, e10_31, e10_33, e10_34, e10_37, e10_38, e10_40, e10_41, e10_42, e10_43, e10_44, e10_47, e10_49, e10_50, e10_53, e10_54, e10_55, e10_56, e10_58, e10_59, e10_60, e10_61, e10_62, e10_64, e10_65, e10_67, e10_68, e10_69, e10_70, e10_71, e10_73, e10_76, e10_79, e10_81, ↓reduceIte, nI_add, pk_mul, n_lt_t, n_lt_f, n_le_t, n_le_f, n_eq_f, n_eq_t, n_z_f, n_z_t, n_lz, n_zl, not_true_eq_false, not_false_eq_true]
      simp only [levS, ne_eq, not_true_eq_false, false_and, ↓reduceIte]
    · by_cases h2 : bt o k = 1
      · simp (disch := (first | omega | assumption | rfl | (simp (disch := assumption) only [l9_2, l9_4, l9_5, l9_6, l9_7, l9_9, l9_10, l9_11, l9_12, l9_14, l9_15, l9_16, l9_17, l9_51, l9_52, l9_53, l9_55, l9_56, l9_58, l9_61, l9_73, l9_74, l9_75, l9_76, l9_77, l9_79, l9_80, l9_81, l9_82, l9_83, l9_84, l9_85, l10_59, l10_78, l9_D1, l9_D2, l9_D3, l9_D4, l9_T1, l9_T2, l9_T3, l9_T4]; omega) | decide)) only [e10_0, e10_1, e10_4, e10_5, e10_6, e10_7, e10_9, e10_10, e10_11, e10_12, e10_13, e10_14, e10_15, e10_17, e10_18, e10_19, e10_20, e10_22, e10_23, e10_27, e10_28, e10_31, e10_33, e10_34, e10_37, e10_38, e10_40, e10_41, e10_42, e10_43, e10_44, e10_47, e10_49, e10_50, e10_53, e10_54, e10_55, e10_56, e10_58, e10_59, e10_60, e10_61, e10_62, e10_64, e10_65, e10_67, e10_68, e10_69, e10_70, e10_71, e10_73, e10_76, e10_79, e10_81, ↓reduceIte, nI_add, pk_mul, n_lt_t, n_lt_f, n_le_t, n_le_f, n_eq_f, n_eq_t, n_z_f, n_z_t, n_lz, n_zl, not_true_eq_false, not_false_eq_true, n_bit, n_b1, h2]
        simp only [levS, ne_eq, h1, not_false_eq_true, h2, and_self, ↓reduceIte]
      · simp (disch := (first | omega | assumption | rfl | (simp (disch := assumption) only [l9_2, l9_4, l9_5, l9_6, l9_7, l9_9, l9_10, l9_11, l9_12, l9_14, l9_15, l9_16, l9_17, l9_51, l9_52, l9_53, l9_55, l9_56, l9_58, l9_61, l9_73, l9_74, l9_75, l9_76, l9_77, l9_79, l9_80, l9_81, l9_82, l9_83, l9_84, l9_85, l10_59, l10_78, l9_D1, l9_D2, l9_D3, l9_D4, l9_T1, l9_T2, l9_T3, l9_T4]; omega) | decide)) only [e10_0, e10_1, e10_4, e10_5, e10_6, e10_7, e10_9, e10_10, e10_11, e10_12, e10_13, e10_14, e10_15, e10_17, e10_18, e10_19, e10_20, e10_22, e10_23, e10_27, e10_28, e10_31, e10_33, e10_34, e10_37, e10_38, e10_40, e10_41, e10_42, e10_43, e10_44, e10_47, e10_49, e10_50, e10_53, e10_54, e10_55, e10_56, e10_58, e10_59, e10_60, e10_61, e10_62, e10_64, e10_65, e10_67, e10_68, e10_69, e10_70, e10_71, e10_73, e10_76, e10_79, e10_81, ↓reduceIte, nI_add, pk_mul, n_lt_t, n_lt_f, n_le_t, n_le_f, n_eq_f, n_eq_t, n_z_f, n_z_t, n_lz, n_zl, not_true_eq_false, not_false_eq_true, n_bit, n_b1, h2]
        simp only [levS, ne_eq, h1, not_false_eq_true, h2, and_false, ↓reduceIte]
theorem s13 {p j : Nat} {m : Int32} (hp : k_l9 p = 12) (hj : j < 4) : q_ex X (13, 0, [.ref 54, .ref p, .int (nI j), .int m, .null, .null], [], q_w t u F J) = some (some (.int (qv (qu (F p) (F 55) j m 3))), q_w t u F J) := by
  have h := q_iter0 (X := X) (fun k => (13, 7, [.ref 54, .ref p, .int (nI j), .int m, .int (qv (qu (F p) (F 55) j m k)), .int (nI k)], [], q_w t u F J)) 3 (fun k hk => ?_)
  · simp (disch := (first | omega | assumption | rfl | (simp (disch := assumption) only [l9_2, l9_4, l9_5, l9_6, l9_7, l9_9, l9_10, l9_11, l9_12, l9_14, l9_15, l9_16, l9_17, l9_51, l9_52, l9_53, l9_55, l9_56, l9_58, l9_61, l9_73, l9_74, l9_75, l9_76, l9_77, l9_79, l9_80, l9_81, l9_82, l9_83, l9_84, l9_85, l10_59, l10_78, l9_D1, l9_D2, l9_D3, l9_D4, l9_T1, l9_T2, l9_T3, l9_T4]; omega) | decide)) only [e13_0, e13_2, e13_4, e13_5, e13_9, e13_10, e13_13, e13_14, e13_15, e13_16, e13_17, e13_19, e13_20, e13_21, e13_22, e13_25, e13_27, e13_29, e13_32, e13_33, e13_36, e13_38, e13_39, e13_40, e13_43, e13_45, e13_46, e13_49, e13_51, e13_53, e13_56, e13_59, e13_61, ↓reduceIte, nI_add, pk_mul, n_lt_t, n_lt_f, n_le_t, n_le_f, n_eq_f, n_eq_t, n_z_f, n_z_t, n_lz, n_zl, not_true_eq_false, not_false_eq_true]
    refine Eq.trans ?_ (h.trans ?_)
    · rfl
    · rw [e13_7]
      simp (disch := (first | omega | assumption | rfl | (simp (disch := assumption) only [l9_2, l9_4, l9_5, l9_6, l9_7, l9_9, l9_10, l9_11, l9_12, l9_14, l9_15, l9_16, l9_17, l9_51, l9_52, l9_53, l9_55, l9_56, l9_58, l9_61, l9_73, l9_74, l9_75, l9_76, l9_77, l9_79, l9_80, l9_81, l9_82, l9_83, l9_84, l9_85, l10_59, l10_78, l9_D1, l9_D2, l9_D3, l9_D4, l9_T1, l9_T2, l9_T3, l9_T4]; omega) | decide)) only [e13_0, e13_2, e13_4, e13_5, e13_9, e13_10, e13_13, e13_14, e13_15, e13_16, e13_17, e13_19, e13_20, e13_21, e13_22, e13_25, e13_27, e13_29, e13_32, e13_33, e13_36, e13_38, e13_39, e13_40, e13_43, e13_45, e13_46, e13_49, e13_51, e13_53, e13_56, e13_59, e13_61, ↓reduceIte, nI_add, pk_mul, n_lt_t, n_lt_f, n_le_t, n_le_f, n_eq_f, n_eq_t, n_z_f, n_z_t, n_lz, n_zl, not_true_eq_false, not_false_eq_true]
  · try dsimp only
    rw [e13_7]
    have hq := qu_le (F p) (F 55) j m k (by omega)
    by_cases h1 : m ≤ F p (3 * j + k)
    · simp (disch := (first | omega | assumption | rfl | (simp (disch := assumption) only [l9_2, l9_4, l9_5, l9_6, l9_7, l9_9, l9_10, l9_11, l9_12, l9_14, l9_15, l9_16, l9_17, l9_51, l9_52, l9_53, l9_55, l9_56, l9_58, l9_61, l9_73, l9_74, l9_75, l9_76, l9_77, l9_79, l9_80, l9_81, l9_82, l9_83, l9_84, l9_85, l10_59, l10_78, l9_D1, l9_D2, l9_D3, l9_D4, l9_T1, l9_T2, l9_T3, l9_T4]; omega) | decide)) only [e13_0, e13_2, e13_4, e13_5, e13_9, e13_10, e13_13, e13_14, e13_15, e13_16, e13_17, e13_19, e13_20, e13_21, e13_22, e13_25, e13_27, e13_29, e13_32, e13_33, e13_36, e13_38, e13_39, e13_40, e13_43, e13_45, e13_46, e13_49, e13_51, e13_53, e13_56, e13_59, e13_61, ↓reduceIte, nI_add, pk_mul, n_lt_t, n_lt_f, n_le_t, n_le_f, n_eq_f, n_eq_t, n_z_f, n_z_t, n_lz, n_zl, not_true_eq_false, not_false_eq_true, h1]
      simp only [qu, h1, not_true_eq_false, false_and, ↓reduceIte]
    · by_cases h2 : qu (F p) (F 55) j m k = 3
      · simp (disch := (first | omega | assumption | rfl | (simp (disch := assumption) only [l9_2, l9_4, l9_5, l9_6, l9_7, l9_9, l9_10, l9_11, l9_12, l9_14, l9_15, l9_16, l9_17, l9_51, l9_52, l9_53, l9_55, l9_56, l9_58, l9_61, l9_73, l9_74, l9_75, l9_76, l9_77, l9_79, l9_80, l9_81, l9_82, l9_83, l9_84, l9_85, l10_59, l10_78, l9_D1, l9_D2, l9_D3, l9_D4, l9_T1, l9_T2, l9_T3, l9_T4]; omega) | decide)) only [e13_0, e13_2, e13_4, e13_5, e13_9, e13_10, e13_13, e13_14, e13_15, e13_16, e13_17, e13_19, e13_20, e13_21, e13_22, e13_25, e13_27, e13_29, e13_32, e13_33, e13_36, e13_38, e13_39, e13_40, e13_43, e13_45, e13_46, e13_49, e13_51, e13_53, e13_56, e13_59, e13_61, ↓reduceIte, nI_add, pk_mul, n_lt_t, n_lt_f, n_le_t, n_le_f, n_eq_f, n_eq_t, n_z_f, n_z_t, n_lz, n_zl, not_true_eq_false, not_false_eq_true, h1, h2, qv_3]
        simp only [qu, h1, h2, not_false_eq_true, true_or, and_self, ↓reduceIte, qv_t hk]
      · have h3 : qu (F p) (F 55) j m k < 3 := by omega
        by_cases h4 : F 55 (qu (F p) (F 55) j m k) ≤ F 55 k
        · simp (disch := (first | omega | assumption | rfl | (simp (disch := assumption) only [l9_2, l9_4, l9_5, l9_6, l9_7, l9_9, l9_10, l9_11, l9_12, l9_14, l9_15, l9_16, l9_17, l9_51, l9_52, l9_53, l9_55, l9_56, l9_58, l9_61, l9_73, l9_74, l9_75, l9_76, l9_77, l9_79, l9_80, l9_81, l9_82, l9_83, l9_84, l9_85, l10_59, l10_78, l9_D1, l9_D2, l9_D3, l9_D4, l9_T1, l9_T2, l9_T3, l9_T4]; omega) | decide)) only [e13_0, e13_2, e13_4, e13_5, e13_9, e13_10, e13_13, e13_14, e13_15, e13_16, e13_17, e13_19, e13_20, e13_21, e13_22, e13_25, e13_27, e13_29, e13_32, e13_33, e13_36, e13_38, e13_39, e13_40, e13_43, e13_45, e13_46, e13_49, e13_51, e13_53, e13_56, e13_59, e13_61, ↓reduceIte, nI_add, pk_mul, n_lt_t, n_lt_f, n_le_t, n_le_f, n_eq_f, n_eq_t, n_z_f, n_z_t, n_lz, n_zl, not_true_eq_false, not_false_eq_true, h1, qv_t h3, n_m9, h4]
          simp only [qu, h1, h2, h4, not_false_eq_true, not_true_eq_false, or_self, and_false, ↓reduceIte, qv_t h3]
        · simp (disch := (first | omega | assumption | rfl | (simp (disch := assumption) only [l9_2, l9_4, l9_5, l9_6, l9_7, l9_9, l9_10, l9_11, l9_12, l9_14, l9_15, l9_16, l9_17, l9_51, l9_52, l9_53, l9_55, l9_56, l9_58, l9_61, l9_73, l9_74, l9_75, l9_76, l9_77, l9_79, l9_80, l9_81, l9_82, l9_83, l9_84, l9_85, l10_59, l10_78, l9_D1, l9_D2, l9_D3, l9_D4, l9_T1, l9_T2, l9_T3, l9_T4]; omega) | decide)) only [e13_0, e13_2, e13_4, e13_5, e13_9, e13_10, e13_13, e13_14, e13_15, e13_16, e13_17, e13_19, e13_20, e13_21, e13_22, e13_25, e13_27, e13_29, e13_32, e13_33, e13_36, e13_38, e13_39, e13_40, e13_43, e13_45, e13_46, e13_49, e13_51, e13_53, e13_56, e13_59, e13_61, ↓reduceIte, nI_add, pk_mul, n_lt_t, n_lt_f, n_le_t, n_le_f, n_eq_f, n_eq_t, n_z_f, n_z_t, n_lz, n_zl, not_true_eq_false, not_false_eq_true, h1, qv_t h3, n_m9, h4]
          simp only [qu, h1, h2, h4, not_false_eq_true, or_true, and_self, ↓reduceIte, qv_t hk]
end S32
