/-! ===== small methods of the class ===== -/
/-- how many EARS are not as LEARNT -/
def oeS (f g : Nat → Int32) (o c : Nat) : Nat → Nat
  | 0 => 0
  | k + 1 => if bt o k = 1 ∧ ¬ f (c + k) = g (c + k) then oeS f g o c k + 1 else oeS f g o c k
theorem oeS_le {f g : Nat → Int32} {o c : Nat} : ∀ k, oeS f g o c k ≤ k
  | 0 => Nat.le_refl _
  | k + 1 => by
    have ih := oeS_le (f := f) (g := g) (o := o) (c := c) k
    simp only [oeS]
    split <;> omega
/-- a sum of k numbers -/
def smS (f : Nat → Int32) : Nat → Int32
  | 0 => nI 0
  | k + 1 => smS f k + f k
/-- a sum over LINES that are ON -/
def soS (f : Nat → Nat) (o : Nat) : Nat → Nat
  | 0 => 0
  | k + 1 => if bt o k = 1 then soS f o k + f k else soS f o k
theorem isD_r {x : Nat} (h : x < 6) : q_isD (20 + 5 * x) = true := by
  rcases (show x = 0 ∨ x = 1 ∨ x = 2 ∨ x = 3 ∨ x = 4 ∨ x = 5 by omega) with rfl | rfl | rfl | rfl | rfl | rfl <;> rfl
theorem isD_i {x : Nat} (h : x < 2) : q_isD (62 + 5 * x) = true := by
  rcases (show x = 0 ∨ x = 1 by omega) with rfl | rfl <;> rfl
theorem bad_0 {x : Int32} {n : Nat} (hn : n < 2 ^ 31) (h : x < 0 ∨ nI n ≤ x) (h0 : ¬ x < 0) : nI n ≤ x := h.resolve_left h0
theorem n_lez_f {n : Nat} (h0 : 0 < n) (h : n < 2 ^ 31) : (nI n ≤ 0) = False := by
  have h1 : (0 : Int32) = nI 0 := rfl
  rw [h1]; exact n_le_f h0 h
theorem n_lez_t {n : Nat} (h0 : n = 0) : (nI n ≤ 0) = True := by
  subst h0; exact eq_true (by decide)
section S46
variable {X : Nat × (Nat → Int32)} {t u : Nat} {F : Nat → Nat → Int32} {J : Nat → Int64} {w : q_M}
theorem s76_t {j : Nat} (hj : j < 4) : q_ex X (76, 0, [.int (nI j)], [], w) = some (some (.int (nI 1)), w) := by
  simp (disch := (first | omega | assumption | rfl | (simp (disch := assumption) only [l9_2, l9_4, l9_5, l9_6, l9_7, l9_9, l9_10, l9_11, l9_12, l9_14, l9_15, l9_16, l9_17, l9_51, l9_52, l9_53, l9_55, l9_56, l9_58, l9_61, l9_73, l9_74, l9_75, l9_76, l9_77, l9_79, l9_80, l9_81, l9_82, l9_83, l9_84, l9_85, l10_59, l10_78, l9_D1, l9_D2, l9_D3, l9_D4, l9_T1, l9_T2, l9_T3, l9_T4]; omega) | decide)) only [e76_0, e76_1, e76_4, e76_5, e76_6, e76_9, e76_10, e76_13, e76_14, ↓reduceIte, Nat.reduceAdd, Nat.reduceMul, nI_add, pk_mul, n_lt_t, n_lt_f, n_le_t, n_le_f, n_eq_f, n_eq_t, n_z_f, n_z_t, n_lz, n_zl, not_true_eq_false, not_false_eq_true]
theorem s76_f {x : Int32} (h : x < 0 ∨ nI 4 ≤ x) : q_ex X (76, 0, [.int x], [], w) = some (some (.int (nI 0)), w) := by
  by_cases h0 : x < 0
  · simp (disch := (first | omega | assumption | rfl | (simp (disch := assumption) only [l9_2, l9_4, l9_5, l9_6, l9_7, l9_9, l9_10, l9_11, l9_12, l9_14, l9_15, l9_16, l9_17, l9_51, l9_52, l9_53, l9_55, l9_56, l9_58, l9_61, l9_73, l9_74, l9_75, l9_76, l9_77, l9_79, l9_80, l9_81, l9_82, l9_83, l9_84, l9_85, l10_59, l10_78, l9_D1, l9_D2, l9_D3, l9_D4, l9_T1, l9_T2, l9_T3, l9_T4]; omega) | decide)) only [e76_0, e76_1, e76_4, e76_5, e76_6, e76_9, e76_10, e76_13, e76_14, ↓reduceIte, Nat.reduceAdd, Nat.reduceMul, nI_add, pk_mul, n_lt_t, n_lt_f, n_le_t, n_le_f, n_eq_f, n_eq_t, n_z_f, n_z_t, n_lz, n_zl, not_true_eq_false, not_false_eq_true, h0]
  · have h1 := h.resolve_left h0
    simp (disch := (first | omega | assumption | rfl | (simp (disch := assumption) only [l9_2, l9_4, l9_5, l9_6, l9_7, l9_9, l9_10, l9_11, l9_12, l9_14, l9_15, l9_16, l9_17, l9_51, l9_52, l9_53, l9_55, l9_56, l9_58, l9_61, l9_73, l9_74, l9_75, l9_76, l9_77, l9_79, l9_80, l9_81, l9_82, l9_83, l9_84, l9_85, l10_59, l10_78, l9_D1, l9_D2, l9_D3, l9_D4, l9_T1, l9_T2, l9_T3, l9_T4]; omega) | decide)) only [e76_0, e76_1, e76_4, e76_5, e76_6, e76_9, e76_10, e76_13, e76_14, ↓reduceIte, Nat.reduceAdd, Nat.reduceMul, nI_add, pk_mul, n_lt_t, n_lt_f, n_le_t, n_le_f, n_eq_f, n_eq_t, n_z_f, n_z_t, n_lz, n_zl, not_true_eq_false, not_false_eq_true, h0, h1]
theorem s77_t {j : Nat} (hj : j < 31) : q_ex X (77, 0, [.int (nI j)], [], w) = some (some (.int (nI 1)), w) := by
  simp (disch := (first | omega | assumption | rfl | (simp (disch := assumption) only [l9_2, l9_4, l9_5, l9_6, l9_7, l9_9, l9_10, l9_11, l9_12, l9_14, l9_15, l9_16, l9_17, l9_51, l9_52, l9_53, l9_55, l9_56, l9_58, l9_61, l9_73, l9_74, l9_75, l9_76, l9_77, l9_79, l9_80, l9_81, l9_82, l9_83, l9_84, l9_85, l10_59, l10_78, l9_D1, l9_D2, l9_D3, l9_D4, l9_T1, l9_T2, l9_T3, l9_T4]; omega) | decide)) only [e77_0, e77_1, e77_4, e77_5, e77_7, e77_10, e77_11, e77_14, e77_15, ↓reduceIte, Nat.reduceAdd, Nat.reduceMul, nI_add, pk_mul, n_lt_t, n_lt_f, n_le_t, n_le_f, n_eq_f, n_eq_t, n_z_f, n_z_t, n_lz, n_zl, not_true_eq_false, not_false_eq_true]
theorem s77_f {x : Int32} (h : x < 0 ∨ nI 31 ≤ x) : q_ex X (77, 0, [.int x], [], w) = some (some (.int (nI 0)), w) := by
  by_cases h0 : x < 0
  · simp (disch := (first | omega | assumption | rfl | (simp (disch := assumption) only [l9_2, l9_4, l9_5, l9_6, l9_7, l9_9, l9_10, l9_11, l9_12, l9_14, l9_15, l9_16, l9_17, l9_51, l9_52, l9_53, l9_55, l9_56, l9_58, l9_61, l9_73, l9_74, l9_75, l9_76, l9_77, l9_79, l9_80, l9_81, l9_82, l9_83, l9_84, l9_85, l10_59, l10_78, l9_D1, l9_D2, l9_D3, l9_D4, l9_T1, l9_T2, l9_T3, l9_T4]; omega) | decide)) only [e77_0, e77_1, e77_4, e77_5, e77_7, e77_10, e77_11, e77_14, e77_15, ↓reduceIte, Nat.reduceAdd, Nat.reduceMul, nI_add, pk_mul, n_lt_t, n_lt_f, n_le_t, n_le_f, n_eq_f, n_eq_t, n_z_f, n_z_t, n_lz, n_zl, not_true_eq_false, not_false_eq_true, h0]
  · have h1 := h.resolve_left h0
    simp (disch := (first | omega | assumption | rfl | (simp (disch := assumption) only [l9_2, l9_4, l9_5, l9_6, l9_7, l9_9, l9_10, l9_11, l9_12, l9_14, l9_15, l9_16, l9_17, l9_51, l9_52, l9_53, l9_55, l9_56, l9_58, l9_61, l9_73, l9_74, l9_75, l9_76, l9_77, l9_79, l9_80, l9_81, l9_82, l9_83, l9_84, l9_85, l10_59, l10_78, l9_D1, l9_D2, l9_D3, l9_D4, l9_T1, l9_T2, l9_T3, l9_T4]; omega) | decide)) only [e77_0, e77_1, e77_4, e77_5, e77_7, e77_10, e77_11, e77_14, e77_15, ↓reduceIte, Nat.reduceAdd, Nat.reduceMul, nI_add, pk_mul, n_lt_t, n_lt_f, n_le_t, n_le_f, n_eq_f, n_eq_t, n_z_f, n_z_t, n_lz, n_zl, not_true_eq_false, not_false_eq_true, h0, h1]
theorem s78_t {o j : Nat} (hO : F 13 0 = nI o) (ho : o < 16) (hj : j < 4) : q_ex X (78, 0, [.ref 0, .int (nI j)], [], q_w t u F J) = some (some (.int (nI (bt o j))), q_w t u F J) := by
  have hb := bt_lt o j
  by_cases h : bt o j = 1
  · simp (disch := (first | omega | assumption | rfl | (simp (disch := assumption) only [l9_2, l9_4, l9_5, l9_6, l9_7, l9_9, l9_10, l9_11, l9_12, l9_14, l9_15, l9_16, l9_17, l9_51, l9_52, l9_53, l9_55, l9_56, l9_58, l9_61, l9_73, l9_74, l9_75, l9_76, l9_77, l9_79, l9_80, l9_81, l9_82, l9_83, l9_84, l9_85, l10_59, l10_78, l9_D1, l9_D2, l9_D3, l9_D4, l9_T1, l9_T2, l9_T3, l9_T4]; omega) | decide)) only [e78_0, e78_1, e78_4, e78_7, e78_8, e78_11, e78_12, e78_15, e78_18, e78_19, e78_22, e78_23, ↓reduceIte, Nat.reduceAdd, Nat.reduceMul, nI_add, pk_mul, n_lt_t, n_lt_f, n_le_t, n_le_f, n_eq_f, n_eq_t, n_z_f, n_z_t, n_lz, n_zl, not_true_eq_false, not_false_eq_true, s76_t, s4 hO ho hj, Option.bind_some, Option.toList_some, Option.toList_none, List.cons_append, List.nil_append, h]
  · have h0 : bt o j = 0 := by omega
    simp (disch := (first | omega | assumption | rfl | (simp (disch := assumption) only [l9_2, l9_4, l9_5, l9_6, l9_7, l9_9, l9_10, l9_11, l9_12, l9_14, l9_15, l9_16, l9_17, l9_51, l9_52, l9_53, l9_55, l9_56, l9_58, l9_61, l9_73, l9_74, l9_75, l9_76, l9_77, l9_79, l9_80, l9_81, l9_82, l9_83, l9_84, l9_85, l10_59, l10_78, l9_D1, l9_D2, l9_D3, l9_D4, l9_T1, l9_T2, l9_T3, l9_T4]; omega) | decide)) only [e78_0, e78_1, e78_4, e78_7, e78_8, e78_11, e78_12, e78_15, e78_18, e78_19, e78_22, e78_23, ↓reduceIte, Nat.reduceAdd, Nat.reduceMul, nI_add, pk_mul, n_lt_t, n_lt_f, n_le_t, n_le_f, n_eq_f, n_eq_t, n_z_f, n_z_t, n_lz, n_zl, not_true_eq_false, not_false_eq_true, s76_t, s4 hO ho hj, Option.bind_some, Option.toList_some, Option.toList_none, List.cons_append, List.nil_append, h0]
theorem s78_f {x : Int32} (h : x < 0 ∨ nI 4 ≤ x) : q_ex X (78, 0, [.ref 0, .int x], [], q_w t u F J) = some (some (.int (nI 0)), q_w t u F J) := by
  simp (disch := (first | omega | assumption | rfl | (simp (disch := assumption) only [l9_2, l9_4, l9_5, l9_6, l9_7, l9_9, l9_10, l9_11, l9_12, l9_14, l9_15, l9_16, l9_17, l9_51, l9_52, l9_53, l9_55, l9_56, l9_58, l9_61, l9_73, l9_74, l9_75, l9_76, l9_77, l9_79, l9_80, l9_81, l9_82, l9_83, l9_84, l9_85, l10_59, l10_78, l9_D1, l9_D2, l9_D3, l9_D4, l9_T1, l9_T2, l9_T3, l9_T4]; omega) | decide)) only [e78_0, e78_1, e78_4, e78_7, e78_8, e78_11, e78_12, e78_15, e78_18, e78_19, e78_22, e78_23, ↓reduceIte, Nat.reduceAdd, Nat.reduceMul, nI_add, pk_mul, n_lt_t, n_lt_f, n_le_t, n_le_f, n_eq_f, n_eq_t, n_z_f, n_z_t, n_lz, n_zl, not_true_eq_false, not_false_eq_true, s76_f h, Option.bind_some, Option.toList_some, Option.toList_none, List.cons_append, List.nil_append]
theorem s5 {o j : Nat} (ho : o < 16) (hj : j < 4) : q_ex X (5, 0, [.ref 13, .int (nI j), .int (nI o), .null, .null], [], q_w t u F J) = some (some (.int (nI (oeS (F 14) (F 15) o (4 * j) 4))), q_w t u F J) := by
  have h := q_iter0 (X := X) (fun k => (5, 5, [.ref 13, .int (nI j), .int (nI o), .int (nI (oeS (F 14) (F 15) o (4 * j) k)), .int (nI k)], [], q_w t u F J)) 4 (fun k hk => ?_)
  · simp only [e5_0, e5_1, e5_2, e5_3]
    have h' : q_ex X (5, 5, [.ref 13, .int (nI j), .int (nI o), .int (nI 0), .int (nI 0)], [], q_w t u F J) = _ := h
    rw [h', e5_5]
    simp (disch := (first | omega | assumption | rfl | (simp (disch := assumption) only [l9_2, l9_4, l9_5, l9_6, l9_7, l9_9, l9_10, l9_11, l9_12, l9_14, l9_15, l9_16, l9_17, l9_51, l9_52, l9_53, l9_55, l9_56, l9_58, l9_61, l9_73, l9_74, l9_75, l9_76, l9_77, l9_79, l9_80, l9_81, l9_82, l9_83, l9_84, l9_85, l10_59, l10_78, l9_D1, l9_D2, l9_D3, l9_D4, l9_T1, l9_T2, l9_T3, l9_T4]; omega) | decide)) only [e5_0, e5_1, e5_2, e5_3, e5_7, e5_8, e5_11, e5_12, e5_14, e5_15, e5_16, e5_17, e5_18, e5_21, e5_22, e5_25, e5_26, e5_27, e5_28, e5_30, e5_31, e5_32, e5_33, e5_36, e5_37, e5_38, e5_39, e5_41, e5_42, e5_43, e5_46, e5_49, e5_52, e5_55, e5_56, ↓reduceIte, Nat.reduceAdd, Nat.reduceMul, nI_add, pk_mul, n_lt_t, n_lt_f, n_le_t, n_le_f, n_eq_f, n_eq_t, n_z_f, n_z_t, n_lz, n_zl, not_true_eq_false, not_false_eq_true]
  · try dsimp only
    rw [e5_5]
    have hb := bt_lt o k
    by_cases h2 : bt o k = 1
    · by_cases h3 : F 14 (4 * j + k) = F 15 (4 * j + k)
      · simp (disch := (first | omega | assumption | rfl | (simp (disch := assumption) only [l9_2, l9_4, l9_5, l9_6, l9_7, l9_9, l9_10, l9_11, l9_12, l9_14, l9_15, l9_16, l9_17, l9_51, l9_52, l9_53, l9_55, l9_56, l9_58, l9_61, l9_73, l9_74, l9_75, l9_76, l9_77, l9_79, l9_80, l9_81, l9_82, l9_83, l9_84, l9_85, l10_59, l10_78, l9_D1, l9_D2, l9_D3, l9_D4, l9_T1, l9_T2, l9_T3, l9_T4]; omega) | decide)) only [e5_0, e5_1, e5_2, e5_3, e5_7, e5_8, e5_11, e5_12, e5_14, e5_15, e5_16, e5_17, e5_18, e5_21, e5_22, e5_25, e5_26, e5_27, e5_28, e5_30, e5_31, e5_32, e5_33, e5_36, e5_37, e5_38, e5_39, e5_41, e5_42, e5_43, e5_46, e5_49, e5_52, e5_55, e5_56, ↓reduceIte, Nat.reduceAdd, Nat.reduceMul, nI_add, pk_mul, n_lt_t, n_lt_f, n_le_t, n_le_f, n_eq_f, n_eq_t, n_z_f, n_z_t, n_lz, n_zl, not_true_eq_false, not_false_eq_true, isD_13, n_bit, h2, h3]
        simp only [oeS, h2, h3, not_true_eq_false, and_false, ↓reduceIte]
      · simp (disch := (first | omega | assumption | rfl | (simp (disch := assumption) only [l9_2, l9_4, l9_5, l9_6, l9_7, l9_9, l9_10, l9_11, l9_12, l9_14, l9_15, l9_16, l9_17, l9_51, l9_52, l9_53, l9_55, l9_56, l9_58, l9_61, l9_73, l9_74, l9_75, l9_76, l9_77, l9_79, l9_80, l9_81, l9_82, l9_83, l9_84, l9_85, l10_59, l10_78, l9_D1, l9_D2, l9_D3, l9_D4, l9_T1, l9_T2, l9_T3, l9_T4]; omega) | decide)) only [e5_0, e5_1, e5_2, e5_3, e5_7, e5_8, e5_11, e5_12, e5_14, e5_15, e5_16, e5_17, e5_18, e5_21, e5_22, e5_25, e5_26, e5_27, e5_28, e5_30, e5_31, e5_32, e5_33, e5_36, e5_37, e5_38, e5_39, e5_41, e5_42, e5_43, e5_46, e5_49, e5_52, e5_55, e5_56, ↓reduceIte, Nat.reduceAdd, Nat.reduceMul, nI_add, pk_mul, n_lt_t, n_lt_f, n_le_t, n_le_f, n_eq_f, n_eq_t, n_z_f, n_z_t, n_lz, n_zl, not_true_eq_false, not_false_eq_true, isD_13, n_bit, h2, h3]
        simp only [oeS, h2, h3, not_false_eq_true, and_self, ↓reduceIte]
    · have h0 : bt o k = 0 := by omega
      simp (disch := (first | omega | assumption | rfl | (simp (disch := assumption) only [l9_2, l9_4, l9_5, l9_6, l9_7, l9_9, l9_10, l9_11, l9_12, l9_14, l9_15, l9_16, l9_17, l9_51, l9_52, l9_53, l9_55, l9_56, l9_58, l9_61, l9_73, l9_74, l9_75, l9_76, l9_77, l9_79, l9_80, l9_81, l9_82, l9_83, l9_84, l9_85, l10_59, l10_78, l9_D1, l9_D2, l9_D3, l9_D4, l9_T1, l9_T2, l9_T3, l9_T4]; omega) | decide)) only [e5_0, e5_1, e5_2, e5_3, e5_7, e5_8, e5_11, e5_12, e5_14, e5_15, e5_16, e5_17, e5_18, e5_21, e5_22, e5_25, e5_26, e5_27, e5_28, e5_30, e5_31, e5_32, e5_33, e5_36, e5_37, e5_38, e5_39, e5_41, e5_42, e5_43, e5_46, e5_49, e5_52, e5_55, e5_56, ↓reduceIte, Nat.reduceAdd, Nat.reduceMul, nI_add, pk_mul, n_lt_t, n_lt_f, n_le_t, n_le_f, n_eq_f, n_eq_t, n_z_f, n_z_t, n_lz, n_zl, not_true_eq_false, not_false_eq_true, n_bit, h0]
      simp only [oeS, h0, Nat.zero_ne_one, false_and, ↓reduceIte]
theorem s79 {j : Nat} (hj : j < 4) : q_ex X (79, 0, [.ref 0, .int (nI j), .null, .null], [], q_w t u F J) = some (some (.int (smS (fun k => F 17 (3 * j + k)) 3)), q_w t u F J) := by
  have h := q_iter0 (X := X) (fun k => (79, 4, [.ref 0, .int (nI j), .int (smS (fun k => F 17 (3 * j + k)) k), .int (nI k)], [], q_w t u F J)) 3 (fun k hk => ?_)
  · simp only [e79_0, e79_1, e79_2, e79_3]
    have h' : q_ex X (79, 4, [.ref 0, .int (nI j), .int (nI 0), .int (nI 0)], [], q_w t u F J) = _ := h
    rw [h', e79_4]
    simp (disch := (first | omega | assumption | rfl | (simp (disch := assumption) only [l9_2, l9_4, l9_5, l9_6, l9_7, l9_9, l9_10, l9_11, l9_12, l9_14, l9_15, l9_16, l9_17, l9_51, l9_52, l9_53, l9_55, l9_56, l9_58, l9_61, l9_73, l9_74, l9_75, l9_76, l9_77, l9_79, l9_80, l9_81, l9_82, l9_83, l9_84, l9_85, l10_59, l10_78, l9_D1, l9_D2, l9_D3, l9_D4, l9_T1, l9_T2, l9_T3, l9_T4]; omega) | decide)) only [e79_0, e79_1, e79_2, e79_3, e79_5, e79_6, e79_9, e79_10, e79_11, e79_14, e79_17, e79_18, e79_19, e79_20, e79_21, e79_22, e79_23, e79_24, e79_25, e79_28, e79_31, e79_32, ↓reduceIte, Nat.reduceAdd, Nat.reduceMul, nI_add, pk_mul, n_lt_t, n_lt_f, n_le_t, n_le_f, n_eq_f, n_eq_t, n_z_f, n_z_t, n_lz, n_zl, not_true_eq_false, not_false_eq_true]
  · try dsimp only
    rw [e79_4]
    simp (disch := (first | omega | assumption | rfl | (simp (disch := assumption) only [l9_2, l9_4, l9_5, l9_6, l9_7, l9_9, l9_10, l9_11, l9_12, l9_14, l9_15, l9_16, l9_17, l9_51, l9_52, l9_53, l9_55, l9_56, l9_58, l9_61, l9_73, l9_74, l9_75, l9_76, l9_77, l9_79, l9_80, l9_81, l9_82, l9_83, l9_84, l9_85, l10_59, l10_78, l9_D1, l9_D2, l9_D3, l9_D4, l9_T1, l9_T2, l9_T3, l9_T4]; omega) | decide)) only [e79_0, e79_1, e79_2, e79_3, e79_5, e79_6, e79_9, e79_10, e79_11, e79_14, e79_17, e79_18, e79_19, e79_20, e79_21, e79_22, e79_23, e79_24, e79_25, e79_28, e79_31, e79_32, ↓reduceIte, Nat.reduceAdd, Nat.reduceMul, nI_add, pk_mul, n_lt_t, n_lt_f, n_le_t, n_le_f, n_eq_f, n_eq_t, n_z_f, n_z_t, n_lz, n_zl, not_true_eq_false, not_false_eq_true, isD_13]
    simp only [smS]
theorem s80 : q_ex X (80, 0, [.ref 0, .null, .null], [], q_w t u F J) = some (some (.int (smS (fun j => smS (fun k => F 17 (3 * j + k)) 3) 4)), q_w t u F J) := by
  have h := q_iter0 (X := X) (fun k => (80, 4, [.ref 0, .int (smS (fun j => smS (fun k => F 17 (3 * j + k)) 3) k), .int (nI k)], [], q_w t u F J)) 4 (fun k hk => ?_)
  · simp only [e80_0, e80_1, e80_2, e80_3]
    have h' : q_ex X (80, 4, [.ref 0, .int (nI 0), .int (nI 0)], [], q_w t u F J) = _ := h
    rw [h', e80_4]
    simp (disch := (first | omega | assumption | rfl | (simp (disch := assumption) only [l9_2, l9_4, l9_5, l9_6, l9_7, l9_9, l9_10, l9_11, l9_12, l9_14, l9_15, l9_16, l9_17, l9_51, l9_52, l9_53, l9_55, l9_56, l9_58, l9_61, l9_73, l9_74, l9_75, l9_76, l9_77, l9_79, l9_80, l9_81, l9_82, l9_83, l9_84, l9_85, l10_59, l10_78, l9_D1, l9_D2, l9_D3, l9_D4, l9_T1, l9_T2, l9_T3, l9_T4]; omega) | decide)) only [e80_0, e80_1, e80_2, e80_3, e80_5, e80_6, e80_9, e80_10, e80_11, e80_12, e80_15, e80_16, e80_17, e80_20, e80_23, e80_24, ↓reduceIte, Nat.reduceAdd, Nat.reduceMul, nI_add, pk_mul, n_lt_t, n_lt_f, n_le_t, n_le_f, n_eq_f, n_eq_t, n_z_f, n_z_t, n_lz, n_zl, not_true_eq_false, not_false_eq_true]
  · try dsimp only
    rw [e80_4]
    simp (disch := (first | omega | assumption | rfl | (simp (disch := assumption) only [l9_2, l9_4, l9_5, l9_6, l9_7, l9_9, l9_10, l9_11, l9_12, l9_14, l9_15, l9_16, l9_17, l9_51, l9_52, l9_53, l9_55, l9_56, l9_58, l9_61, l9_73, l9_74, l9_75, l9_76, l9_77, l9_79, l9_80, l9_81, l9_82, l9_83, l9_84, l9_85, l10_59, l10_78, l9_D1, l9_D2, l9_D3, l9_D4, l9_T1, l9_T2, l9_T3, l9_T4]; omega) | decide)) only [e80_0, e80_1, e80_2, e80_3, e80_5, e80_6, e80_9, e80_10, e80_11, e80_12, e80_15, e80_16, e80_17, e80_20, e80_23, e80_24, ↓reduceIte, Nat.reduceAdd, Nat.reduceMul, nI_add, pk_mul, n_lt_t, n_lt_f, n_le_t, n_le_f, n_eq_f, n_eq_t, n_z_f, n_z_t, n_lz, n_zl, not_true_eq_false, not_false_eq_true, s79 hk, Option.bind_some, Option.toList_some, Option.toList_none, List.cons_append, List.nil_append]
    simp only [smS]
theorem s81 {o j : Nat} (ht : q_isT t = true) (hO : F 13 0 = nI o) (ho : o < 16) (hj : j < 4) : q_ex X (81, 0, [.ref 0, .int (nI j), .null, .null], [], q_w t u F J) = some (some (.int (smS (fun c => levS (F (t + 3)) (F 17) (F (t + 2)) o j c 4) 3)), q_w t u F J) := by
  have h := q_iter0 (X := X) (fun k => (81, 4, [.ref 0, .int (nI j), .int (smS (fun c => levS (F (t + 3)) (F 17) (F (t + 2)) o j c 4) k), .int (nI k)], [], q_w t u F J)) 3 (fun k hk => ?_)
  · simp only [e81_0, e81_1, e81_2, e81_3]
    have h' : q_ex X (81, 4, [.ref 0, .int (nI j), .int (nI 0), .int (nI 0)], [], q_w t u F J) = _ := h
    rw [h', e81_4]
    simp (disch := (first | omega | assumption | rfl | (simp (disch := assumption) only [l9_2, l9_4, l9_5, l9_6, l9_7, l9_9, l9_10, l9_11, l9_12, l9_14, l9_15, l9_16, l9_17, l9_51, l9_52, l9_53, l9_55, l9_56, l9_58, l9_61, l9_73, l9_74, l9_75, l9_76, l9_77, l9_79, l9_80, l9_81, l9_82, l9_83, l9_84, l9_85, l10_59, l10_78, l9_D1, l9_D2, l9_D3, l9_D4, l9_T1, l9_T2, l9_T3, l9_T4]; omega) | decide)) only [e81_0, e81_1, e81_2, e81_3, e81_5, e81_6, e81_9, e81_10, e81_11, e81_14, e81_15, e81_18, e81_21, e81_22, e81_25, e81_28, e81_29, e81_30, e81_33, e81_34, e81_35, e81_38, e81_41, e81_42, ↓reduceIte, Nat.reduceAdd, Nat.reduceMul, nI_add, pk_mul, n_lt_t, n_lt_f, n_le_t, n_le_f, n_eq_f, n_eq_t, n_z_f, n_z_t, n_lz, n_zl, not_true_eq_false, not_false_eq_true]
  · try dsimp only
    rw [e81_4]
    simp (disch := (first | omega | assumption | rfl | (simp (disch := assumption) only [l9_2, l9_4, l9_5, l9_6, l9_7, l9_9, l9_10, l9_11, l9_12, l9_14, l9_15, l9_16, l9_17, l9_51, l9_52, l9_53, l9_55, l9_56, l9_58, l9_61, l9_73, l9_74, l9_75, l9_76, l9_77, l9_79, l9_80, l9_81, l9_82, l9_83, l9_84, l9_85, l10_59, l10_78, l9_D1, l9_D2, l9_D3, l9_D4, l9_T1, l9_T2, l9_T3, l9_T4]; omega) | decide)) only [e81_0, e81_1, e81_2, e81_3, e81_5, e81_6, e81_9, e81_10, e81_11, e81_14, e81_15, e81_18, e81_21, e81_22, e81_25, e81_28, e81_29, e81_30, e81_33, e81_34, e81_35, e81_38, e81_41, e81_42, ↓reduceIte, Nat.reduceAdd, Nat.reduceMul, nI_add, pk_mul, n_lt_t, n_lt_f, n_le_t, n_le_f, n_eq_f, n_eq_t, n_z_f, n_z_t, n_lz, n_zl, not_true_eq_false, not_false_eq_true, isD_13, hO, s10 ht l9_17 ho hj hk, Option.bind_some, Option.toList_some, Option.toList_none, List.cons_append, List.nil_append]
    simp only [smS]
theorem s82 {o : Nat} (hO : F 13 0 = nI o) (ho : o < 16) : q_ex X (82, 0, [.ref 0, .null, .null], [], q_w t u F J) = some (some (.int (nI (soS (fun j => oeS (F 14) (F 15) o (4 * j) 4) o 4))), q_w t u F J) := by
  have h := q_iter0 (X := X) (fun k => (82, 4, [.ref 0, .int (nI (soS (fun j => oeS (F 14) (F 15) o (4 * j) 4) o k)), .int (nI k)], [], q_w t u F J)) 4 (fun k hk => ?_)
  · simp only [e82_0, e82_1, e82_2, e82_3]
    have h' : q_ex X (82, 4, [.ref 0, .int (nI 0), .int (nI 0)], [], q_w t u F J) = _ := h
    rw [h', e82_4]
    simp (disch := (first | omega | assumption | rfl | (simp (disch := assumption) only [l9_2, l9_4, l9_5, l9_6, l9_7, l9_9, l9_10, l9_11, l9_12, l9_14, l9_15, l9_16, l9_17, l9_51, l9_52, l9_53, l9_55, l9_56, l9_58, l9_61, l9_73, l9_74, l9_75, l9_76, l9_77, l9_79, l9_80, l9_81, l9_82, l9_83, l9_84, l9_85, l10_59, l10_78, l9_D1, l9_D2, l9_D3, l9_D4, l9_T1, l9_T2, l9_T3, l9_T4]; omega) | decide)) only [e82_0, e82_1, e82_2, e82_3, e82_5, e82_6, e82_9, e82_10, e82_13, e82_14, e82_17, e82_20, e82_21, e82_22, e82_25, e82_26, e82_27, e82_30, e82_33, e82_36, e82_37, e82_38, e82_41, e82_44, e82_45, ↓reduceIte, Nat.reduceAdd, Nat.reduceMul, nI_add, pk_mul, n_lt_t, n_lt_f, n_le_t, n_le_f, n_eq_f, n_eq_t, n_z_f, n_z_t, n_lz, n_zl, not_true_eq_false, not_false_eq_true]
  · try dsimp only
    rw [e82_4]
    have hb := bt_lt o k
    by_cases h2 : bt o k = 1
    · simp (disch := (first | omega | assumption | rfl | (simp (disch := assumption) only [l9_2, l9_4, l9_5, l9_6, l9_7, l9_9, l9_10, l9_11, l9_12, l9_14, l9_15, l9_16, l9_17, l9_51, l9_52, l9_53, l9_55, l9_56, l9_58, l9_61, l9_73, l9_74, l9_75, l9_76, l9_77, l9_79, l9_80, l9_81, l9_82, l9_83, l9_84, l9_85, l10_59, l10_78, l9_D1, l9_D2, l9_D3, l9_D4, l9_T1, l9_T2, l9_T3, l9_T4]; omega) | decide)) only [e82_0, e82_1, e82_2, e82_3, e82_5, e82_6, e82_9, e82_10, e82_13, e82_14, e82_17, e82_20, e82_21, e82_22, e82_25, e82_26, e82_27, e82_30, e82_33, e82_36, e82_37, e82_38, e82_41, e82_44, e82_45, ↓reduceIte, Nat.reduceAdd, Nat.reduceMul, nI_add, pk_mul, n_lt_t, n_lt_f, n_le_t, n_le_f, n_eq_f, n_eq_t, n_z_f, n_z_t, n_lz, n_zl, not_true_eq_false, not_false_eq_true, isD_13, hO, s4 hO ho hk, s5 ho hk, Option.bind_some, Option.toList_some, Option.toList_none, List.cons_append, List.nil_append, h2]
      simp only [soS, h2, ↓reduceIte]
    · have h0 : bt o k = 0 := by omega
      simp (disch := (first | omega | assumption | rfl | (simp (disch := assumption) only [l9_2, l9_4, l9_5, l9_6, l9_7, l9_9, l9_10, l9_11, l9_12, l9_14, l9_15, l9_16, l9_17, l9_51, l9_52, l9_53, l9_55, l9_56, l9_58, l9_61, l9_73, l9_74, l9_75, l9_76, l9_77, l9_79, l9_80, l9_81, l9_82, l9_83, l9_84, l9_85, l10_59, l10_78, l9_D1, l9_D2, l9_D3, l9_D4, l9_T1, l9_T2, l9_T3, l9_T4]; omega) | decide)) only [e82_0, e82_1, e82_2, e82_3, e82_5, e82_6, e82_9, e82_10, e82_13, e82_14, e82_17, e82_20, e82_21, e82_22, e82_25, e82_26, e82_27, e82_30, e82_33, e82_36, e82_37, e82_38, e82_41, e82_44, e82_45, ↓reduceIte, Nat.reduceAdd, Nat.reduceMul, nI_add, pk_mul, n_lt_t, n_lt_f, n_le_t, n_le_f, n_eq_f, n_eq_t, n_z_f, n_z_t, n_lz, n_zl, not_true_eq_false, not_false_eq_true, isD_13, s4 hO ho hk, Option.bind_some, Option.toList_some, Option.toList_none, List.cons_append, List.nil_append, h0]
      simp only [soS, h0, Nat.zero_ne_one, ↓reduceIte]
theorem s7 {x p : Nat} (hx : x < 6) (hp : p ≤ 6) (h1 : F 18 1 = nI x) (h2 : F 18 2 = nI p) : q_ex X (7, 0, [.ref 18, .ref 13], [], q_w t u F J) = some (none, q_w t u (q_up (q_up (cpD F (20 + 5 * x) 13) 18 1 (nI ((x + 1) % 6))) 18 2 (nI (if p < 6 then p + 1 else 6))) J) := by
  have hd := isD_r hx
  have hne : 20 + 5 * x ≠ 13 := by omega
  have c1 : cpD F (20 + 5 * x) 13 18 1 = nI x := by rw [← h1]; simp only [cpD]; grind
  have c2 : cpD F (20 + 5 * x) 13 18 2 = nI p := by rw [← h2]; simp only [cpD]; grind
  have d1 : ∀ v, q_up (cpD F (20 + 5 * x) 13) 18 1 v 18 2 = nI p := fun v => by rw [← c2]; simp only [q_app]; rw [if_neg (by omega)]
  by_cases h5 : x = 5
  · subst h5
    by_cases h6 : p < 6
    · simp (disch := (first | omega | assumption | rfl | (simp (disch := assumption) only [l9_2, l9_4, l9_5, l9_6, l9_7, l9_9, l9_10, l9_11, l9_12, l9_14, l9_15, l9_16, l9_17, l9_51, l9_52, l9_53, l9_55, l9_56, l9_58, l9_61, l9_73, l9_74, l9_75, l9_76, l9_77, l9_79, l9_80, l9_81, l9_82, l9_83, l9_84, l9_85, l10_59, l10_78, l9_D1, l9_D2, l9_D3, l9_D4, l9_T1, l9_T2, l9_T3, l9_T4]; omega) | decide)) only [e7_0, e7_1, e7_4, e7_5, e7_8, e7_9, e7_10, e7_13, e7_14, e7_15, e7_18, e7_19, e7_20, e7_22, e7_25, e7_26, e7_29, e7_30, e7_31, e7_34, e7_35, e7_38, e7_39, e7_40, e7_43, e7_44, e7_45, e7_47, e7_50, e7_53, ↓reduceIte, Nat.reduceAdd, Nat.reduceMul, nI_add, pk_mul, n_lt_t, n_lt_f, n_le_t, n_le_f, n_eq_f, n_eq_t, n_z_f, n_z_t, n_lz, n_zl, not_true_eq_false, not_false_eq_true, h1, s2 hd isD_13 hne, Option.bind_some, Option.toList_some, Option.toList_none, List.cons_append, List.nil_append, c1, c2, d1, h6]
      try rfl
    · obtain rfl : p = 6 := by omega
      simp (disch := (first | omega | assumption | rfl | (simp (disch := assumption) only [l9_2, l9_4, l9_5, l9_6, l9_7, l9_9, l9_10, l9_11, l9_12, l9_14, l9_15, l9_16, l9_17, l9_51, l9_52, l9_53, l9_55, l9_56, l9_58, l9_61, l9_73, l9_74, l9_75, l9_76, l9_77, l9_79, l9_80, l9_81, l9_82, l9_83, l9_84, l9_85, l10_59, l10_78, l9_D1, l9_D2, l9_D3, l9_D4, l9_T1, l9_T2, l9_T3, l9_T4]; omega) | decide)) only [e7_0, e7_1, e7_4, e7_5, e7_8, e7_9, e7_10, e7_13, e7_14, e7_15, e7_18, e7_19, e7_20, e7_22, e7_25, e7_26, e7_29, e7_30, e7_31, e7_34, e7_35, e7_38, e7_39, e7_40, e7_43, e7_44, e7_45, e7_47, e7_50, e7_53, ↓reduceIte, Nat.reduceAdd, Nat.reduceMul, nI_add, pk_mul, n_lt_t, n_lt_f, n_le_t, n_le_f, n_eq_f, n_eq_t, n_z_f, n_z_t, n_lz, n_zl, not_true_eq_false, not_false_eq_true, h1, s2 hd isD_13 hne, Option.bind_some, Option.toList_some, Option.toList_none, List.cons_append, List.nil_append, c1, c2, d1]
      try rfl
  · have hm : (x + 1) % 6 = x + 1 := by omega
    by_cases h6 : p < 6
    · simp (disch := (first | omega | assumption | rfl | (simp (disch := assumption) only [l9_2, l9_4, l9_5, l9_6, l9_7, l9_9, l9_10, l9_11, l9_12, l9_14, l9_15, l9_16, l9_17, l9_51, l9_52, l9_53, l9_55, l9_56, l9_58, l9_61, l9_73, l9_74, l9_75, l9_76, l9_77, l9_79, l9_80, l9_81, l9_82, l9_83, l9_84, l9_85, l10_59, l10_78, l9_D1, l9_D2, l9_D3, l9_D4, l9_T1, l9_T2, l9_T3, l9_T4]; omega) | decide)) only [e7_0, e7_1, e7_4, e7_5, e7_8, e7_9, e7_10, e7_13, e7_14, e7_15, e7_18, e7_19, e7_20, e7_22, e7_25, e7_26, e7_29, e7_30, e7_31, e7_34, e7_35, e7_38, e7_39, e7_40, e7_43, e7_44, e7_45, e7_47, e7_50, e7_53, ↓reduceIte, Nat.reduceAdd, Nat.reduceMul, nI_add, pk_mul, n_lt_t, n_lt_f, n_le_t, n_le_f, n_eq_f, n_eq_t, n_z_f, n_z_t, n_lz, n_zl, not_true_eq_false, not_false_eq_true, h1, s2 hd isD_13 hne, Option.bind_some, Option.toList_some, Option.toList_none, List.cons_append, List.nil_append, c1, c2, d1, h6, hm]
    · obtain rfl : p = 6 := by omega
      simp (disch := (first | omega | assumption | rfl | (simp (disch := assumption) only [l9_2, l9_4, l9_5, l9_6, l9_7, l9_9, l9_10, l9_11, l9_12, l9_14, l9_15, l9_16, l9_17, l9_51, l9_52, l9_53, l9_55, l9_56, l9_58, l9_61, l9_73, l9_74, l9_75, l9_76, l9_77, l9_79, l9_80, l9_81, l9_82, l9_83, l9_84, l9_85, l10_59, l10_78, l9_D1, l9_D2, l9_D3, l9_D4, l9_T1, l9_T2, l9_T3, l9_T4]; omega) | decide)) only [e7_0, e7_1, e7_4, e7_5, e7_8, e7_9, e7_10, e7_13, e7_14, e7_15, e7_18, e7_19, e7_20, e7_22, e7_25, e7_26, e7_29, e7_30, e7_31, e7_34, e7_35, e7_38, e7_39, e7_40, e7_43, e7_44, e7_45, e7_47, e7_50, e7_53, ↓reduceIte, Nat.reduceAdd, Nat.reduceMul, nI_add, pk_mul, n_lt_t, n_lt_f, n_le_t, n_le_f, n_eq_f, n_eq_t, n_z_f, n_z_t, n_lz, n_zl, not_true_eq_false, not_false_eq_true, h1, s2 hd isD_13 hne, Option.bind_some, Option.toList_some, Option.toList_none, List.cons_append, List.nil_append, c1, c2, d1, hm]
      try rfl
theorem s8 {x p : Nat} (hx : x < 6) (hp : p ≤ 6) (hp0 : 0 < p) (h1 : F 18 1 = nI x) (h2 : F 18 2 = nI p) : q_ex X (8, 0, [.ref 18, .ref 13], [], q_w t u F J) = some (none, q_w t u (q_up (cpD (q_up F 18 1 (nI ((x + 5) % 6))) 13 (20 + 5 * ((x + 5) % 6))) 18 2 (nI (p - 1))) J) := by
  have hy : (x + 5) % 6 < 6 := Nat.mod_lt _ (by decide)
  have hd := isD_r hy
  have hne : 13 ≠ 20 + 5 * ((x + 5) % 6) := by omega
  have d1 : ∀ v, q_up F 18 1 v 18 1 = v := fun v => by simp only [q_app, and_self, if_true]
  have d2 : ∀ v, cpD (q_up F 18 1 v) 13 (20 + 5 * ((x + 5) % 6)) 18 2 = nI p := fun v => by rw [← h2]; simp only [cpD, q_app]; grind
  have hs : q_ex X (2, 0, [.ref 13, .ref (20 + 5 * ((x + 5) % 6)), .null], [], q_w t u (q_up F 18 1 (nI ((x + 5) % 6))) J) = _ := s2 isD_13 hd hne
  by_cases h5 : x = 0
  · subst h5
    simp (disch := (first | omega | assumption | rfl | (simp (disch := assumption) only [l9_2, l9_4, l9_5, l9_6, l9_7, l9_9, l9_10, l9_11, l9_12, l9_14, l9_15, l9_16, l9_17, l9_51, l9_52, l9_53, l9_55, l9_56, l9_58, l9_61, l9_73, l9_74, l9_75, l9_76, l9_77, l9_79, l9_80, l9_81, l9_82, l9_83, l9_84, l9_85, l10_59, l10_78, l9_D1, l9_D2, l9_D3, l9_D4, l9_T1, l9_T2, l9_T3, l9_T4]; omega) | decide)) only [e8_0, e8_1, e8_2, e8_5, e8_8, e8_9, e8_12, e8_13, e8_14, e8_17, e8_18, e8_21, e8_22, e8_23, e8_26, e8_27, e8_30, e8_31, e8_34, e8_35, e8_36, e8_39, e8_40, e8_41, e8_44, ↓reduceIte, Nat.reduceAdd, Nat.reduceMul, nI_add, pk_mul, n_lt_t, n_lt_f, n_le_t, n_le_f, n_eq_f, n_eq_t, n_z_f, n_z_t, n_lz, n_zl, not_true_eq_false, not_false_eq_true, h1, d1, d2, n_lez_t, s2 isD_13 (isD_r (x := 5) (by omega)) (show 13 ≠ 20 + 5 * 5 by omega), Option.bind_some, Option.toList_some, Option.toList_none, List.cons_append, List.nil_append, n_sub]
    try rfl
  · have hm : (x + 5) % 6 = x - 1 := by omega
    rw [hm] at hs d2 ⊢
    simp (disch := (first | omega | assumption | rfl | (simp (disch := assumption) only [l9_2, l9_4, l9_5, l9_6, l9_7, l9_9, l9_10, l9_11, l9_12, l9_14, l9_15, l9_16, l9_17, l9_51, l9_52, l9_53, l9_55, l9_56, l9_58, l9_61, l9_73, l9_74, l9_75, l9_76, l9_77, l9_79, l9_80, l9_81, l9_82, l9_83, l9_84, l9_85, l10_59, l10_78, l9_D1, l9_D2, l9_D3, l9_D4, l9_T1, l9_T2, l9_T3, l9_T4]; omega) | decide)) only [e8_0, e8_1, e8_2, e8_5, e8_8, e8_9, e8_12, e8_13, e8_14, e8_17, e8_18, e8_21, e8_22, e8_23, e8_26, e8_27, e8_30, e8_31, e8_34, e8_35, e8_36, e8_39, e8_40, e8_41, e8_44, ↓reduceIte, Nat.reduceAdd, Nat.reduceMul, nI_add, pk_mul, n_lt_t, n_lt_f, n_le_t, n_le_f, n_eq_f, n_eq_t, n_z_f, n_z_t, n_lz, n_zl, not_true_eq_false, not_false_eq_true, h1, d1, d2, n_lez_f, n_sub, hs, Option.bind_some, Option.toList_some, Option.toList_none, List.cons_append, List.nil_append]
end S46
