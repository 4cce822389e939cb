/-! ===== a ROUND; STEADY ===== -/
def rnS (N L : Nat → Int32) (o : Nat) (B : Nat → Nat) (m : Int32) : Nat → (Nat → Int32) × (Nat → Int32) → (Nat → Int32) × (Nat → Int32)
  | 0, s => s
  | k + 1, s => if bt o k = 1 then lay N L o k (B k) m (rnS N L o B m k s).1 (rnS N L o B m k s).2 else rnS N L o B m k s
/-- POWER as one number -/
def pkS (P : Nat → Int32) : Nat → Int64
  | 0 => 0
  | k + 1 => (pkS P k <<< ((nI 4).toInt64 &&& 63)) ||| (P k).toInt64
theorem lg_cmp_0 (x y : Int64) : (lg_cmp x y = 0) = (x = y) := by
  unfold lg_cmp
  by_cases h : y < x
  · have h1 : ¬ x = y := fun z => by rw [z] at h; exact absurd h (by simp)
    simp [h, h1]
  · by_cases h2 : x = y
    · subst h2; simp
    · simp [h, h2]
section S34
variable {X : Nat × (Nat → Int32)} {t u : Nat} {F : Nat → Nat → Int32} {J : Nat → Int64} {w : q_M}
theorem s11 {a o p : Nat} {B : Nat → Nat} (ha : q_isT a = true) (hp : p = 17 ∨ p = 56) (ho : o < 16) (hB : ∀ j, j < 4 → B j < 100 ∧ F (a + 4) j = nI (B j)) : q_ex X (11, 0, [.ref 54, .ref a, .int (nI o), .ref p, .null], [], q_w t u F J) = some (none, q_w t u (va_up (va_up F p (rnS (F (a + 3)) (F (a + 2)) o B (F a 4) 4 (F p, F 55)).1) 55 (rnS (F (a + 3)) (F (a + 2)) o B (F a 4) 4 (F p, F 55)).2) J) := by
  have ha2 := isT_cases ha
  have h := q_iter0 (X := X) (fun k => (11, 3, [.ref 54, .ref a, .int (nI o), .ref p, .int (nI k)], [], q_w t u (va_up (va_up F p (rnS (F (a + 3)) (F (a + 2)) o B (F a 4) k (F p, F 55)).1) 55 (rnS (F (a + 3)) (F (a + 2)) o B (F a 4) k (F p, F 55)).2) J)) 4 (fun k hk => ?_)
  · simp only [e11_0, e11_1]
    refine Eq.trans ?_ (h.trans ?_)
    · congr 6
      funext b i
      simp only [va_app, rnS]
      grind
    · rw [e11_3]
      simp (disch := (first | omega | assumption | rfl | (simp (disch := assumption) only [l9_2, l9_4, l9_5, l9_6, l9_7, l9_9, l9_10, l9_11, l9_12, l9_14, l9_15, l9_16, l9_17, l9_51, l9_52, l9_53, l9_55, l9_56, l9_58, l9_61, l9_73, l9_74, l9_75, l9_76, l9_77, l9_79, l9_80, l9_81, l9_82, l9_83, l9_84, l9_85, l10_59, l10_78, l9_D1, l9_D2, l9_D3, l9_D4, l9_T1, l9_T2, l9_T3, l9_T4]; omega) | decide)) only [e11_0, e11_1, e11_5, e11_6, e11_9, e11_10, e11_12, e11_13, e11_14, e11_15, e11_16, e11_19, e11_20, e11_21, e11_22, e11_23, e11_25, e11_28, e11_31, e11_34, ↓reduceIte, nI_add, pk_mul, n_lt_t, n_lt_f, n_le_t, n_le_f, n_eq_f, n_eq_t, n_z_f, n_z_t, n_lz, n_zl, not_true_eq_false, not_false_eq_true]
  · try dsimp only
    rw [e11_3]
    obtain ⟨hb1, hb2⟩ := hB k hk
    by_cases h2 : bt o k = 1
    · have hb3 : (va_up (va_up F p (rnS (F (a + 3)) (F (a + 2)) o B (F a 4) k (F p, F 55)).1) 55 (rnS (F (a + 3)) (F (a + 2)) o B (F a 4) k (F p, F 55)).2) (a + 4) k = nI (B k) := by
        rw [va_up_n (by omega), va_up_n (by omega)]; exact hb2
      simp (disch := (first | omega | assumption | rfl | (simp (disch := assumption) only [l9_2, l9_4, l9_5, l9_6, l9_7, l9_9, l9_10, l9_11, l9_12, l9_14, l9_15, l9_16, l9_17, l9_51, l9_52, l9_53, l9_55, l9_56, l9_58, l9_61, l9_73, l9_74, l9_75, l9_76, l9_77, l9_79, l9_80, l9_81, l9_82, l9_83, l9_84, l9_85, l10_59, l10_78, l9_D1, l9_D2, l9_D3, l9_D4, l9_T1, l9_T2, l9_T3, l9_T4]; omega) | decide)) only [e11_0, e11_1, e11_5, e11_6, e11_9, e11_10, e11_12, e11_13, e11_14, e11_15, e11_16, e11_19, e11_20, e11_21, e11_22, e11_23, e11_25, e11_28, e11_31, e11_34, ↓reduceIte, nI_add, pk_mul, n_lt_t, n_lt_f, n_le_t, n_le_f, n_eq_f, n_eq_t, n_z_f, n_z_t, n_lz, n_zl, not_true_eq_false, not_false_eq_true, n_bit, n_b1, h2, s12 ha hp ho hk hb1 hb3, Option.bind_some, Option.toList_some, Option.toList_none, List.cons_append, List.nil_append, va_up_n, va_up_s]
      congr 6
      funext b i
      simp only [va_app, rnS, h2, if_true]
      grind
    · simp (disch := (first | omega | assumption | rfl | (simp (disch := assumption) only [l9_2, l9_4, l9_5, l9_6, l9_7, l9_9, l9_10, l9_11, l9_12, l9_14, l9_15, l9_16, l9_17, l9_51, l9_52, l9_53, l9_55, l9_56, l9_58, l9_61, l9_73, l9_74, l9_75, l9_76, l9_77, l9_79, l9_80, l9_81, l9_82, l9_83, l9_84, l9_85, l10_59, l10_78, l9_D1, l9_D2, l9_D3, l9_D4, l9_T1, l9_T2, l9_T3, l9_T4]; omega) | decide)) only [e11_0, e11_1, e11_5, e11_6, e11_9, e11_10, e11_12, e11_13, e11_14, e11_15, e11_16, e11_19, e11_20, e11_21, e11_22, e11_23, e11_25, e11_28, e11_31, e11_34, ↓reduceIte, nI_add, pk_mul, n_lt_t, n_lt_f, n_le_t, n_le_f, n_eq_f, n_eq_t, n_z_f, n_z_t, n_lz, n_zl, not_true_eq_false, not_false_eq_true, n_bit, n_b1, h2]
      simp only [rnS, h2, if_false]
theorem s17 {p : Nat} (hp : p = 17) : q_ex X (17, 0, [.ref 54, .ref p, .null], [], q_w t u F J) = some (none, q_w t u (va_up F 56 (cp 12 (F 17) (F 56))) J) := by
  subst hp
  have h := q_iter0 (X := X) (fun k => (17, 2, [.ref 54, .ref 17, .int (nI k)], [], q_w t u (va_up F 56 (cp k (F 17) (F 56))) J)) 12 (fun k hk => ?_)
  · simp only [e17_0, e17_1]
    refine Eq.trans ?_ (h.trans ?_)
    · congr 6
      funext b i
      simp only [va_app, cp]
      grind
    · rw [e17_2]
      simp (disch := (first | omega | assumption | rfl | (simp (disch := assumption) only [l9_2, l9_4, l9_5, l9_6, l9_7, l9_9, l9_10, l9_11, l9_12, l9_14, l9_15, l9_16, l9_17, l9_51, l9_52, l9_53, l9_55, l9_56, l9_58, l9_61, l9_73, l9_74, l9_75, l9_76, l9_77, l9_79, l9_80, l9_81, l9_82, l9_83, l9_84, l9_85, l10_59, l10_78, l9_D1, l9_D2, l9_D3, l9_D4, l9_T1, l9_T2, l9_T3, l9_T4]; omega) | decide)) only [e17_0, e17_1, e17_3, e17_5, e17_8, e17_9, e17_12, e17_13, e17_14, e17_15, e17_16, e17_17, e17_20, e17_23, ↓reduceIte, nI_add, pk_mul, n_lt_t, n_lt_f, n_le_t, n_le_f, n_eq_f, n_eq_t, n_z_f, n_z_t, n_lz, n_zl, not_true_eq_false, not_false_eq_true]
  · try dsimp only
    rw [e17_2]
    simp (disch := (first | omega | assumption | rfl | (simp (disch := assumption) only [l9_2, l9_4, l9_5, l9_6, l9_7, l9_9, l9_10, l9_11, l9_12, l9_14, l9_15, l9_16, l9_17, l9_51, l9_52, l9_53, l9_55, l9_56, l9_58, l9_61, l9_73, l9_74, l9_75, l9_76, l9_77, l9_79, l9_80, l9_81, l9_82, l9_83, l9_84, l9_85, l10_59, l10_78, l9_D1, l9_D2, l9_D3, l9_D4, l9_T1, l9_T2, l9_T3, l9_T4]; omega) | decide)) only [e17_0, e17_1, e17_3, e17_5, e17_8, e17_9, e17_12, e17_13, e17_14, e17_15, e17_16, e17_17, e17_20, e17_23, ↓reduceIte, nI_add, pk_mul, n_lt_t, n_lt_f, n_le_t, n_le_f, n_eq_f, n_eq_t, n_z_f, n_z_t, n_lz, n_zl, not_true_eq_false, not_false_eq_true, va_up_n]
    congr 6
    funext b i
    simp only [q_app, va_app, cp]
    grind
theorem s19 {p : Nat} (hp : p = 17 ∨ p = 56) : q_ex X (19, 0, [.ref p, .null, .null, .null], [], q_w t u F J) = some (some (.long (pkS (F p) 12)), q_w t u F J) := by
  have hl := p_l9 hp
  have h := q_iter0 (X := X) (fun k => (19, 4, [.ref p, .long (pkS (F p) k), .null, .int (nI k)], [], q_w t u F J)) 12 (fun k hk => ?_)
  · simp only [e19_0, e19_1, e19_2, e19_3]
    refine Eq.trans ?_ (h.trans ?_)
    · rfl
    · rw [e19_4]
      simp (disch := (first | omega | assumption | rfl | (simp (disch := assumption) only [l9_2, l9_4, l9_5, l9_6, l9_7, l9_9, l9_10, l9_11, l9_12, l9_14, l9_15, l9_16, l9_17, l9_51, l9_52, l9_53, l9_55, l9_56, l9_58, l9_61, l9_73, l9_74, l9_75, l9_76, l9_77, l9_79, l9_80, l9_81, l9_82, l9_83, l9_84, l9_85, l10_59, l10_78, l9_D1, l9_D2, l9_D3, l9_D4, l9_T1, l9_T2, l9_T3, l9_T4]; omega) | decide)) only [e19_0, e19_1, e19_2, e19_3, e19_5, e19_7, e19_10, e19_11, e19_12, e19_13, e19_14, e19_15, e19_16, e19_17, e19_18, e19_19, e19_22, e19_25, e19_26, ↓reduceIte, nI_add, pk_mul, n_lt_t, n_lt_f, n_le_t, n_le_f, n_eq_f, n_eq_t, n_z_f, n_z_t, n_lz, n_zl, not_true_eq_false, not_false_eq_true]
  · try dsimp only
    rw [e19_4]
    simp (disch := (first | omega | assumption | rfl | (simp (disch := assumption) only [l9_2, l9_4, l9_5, l9_6, l9_7, l9_9, l9_10, l9_11, l9_12, l9_14, l9_15, l9_16, l9_17, l9_51, l9_52, l9_53, l9_55, l9_56, l9_58, l9_61, l9_73, l9_74, l9_75, l9_76, l9_77, l9_79, l9_80, l9_81, l9_82, l9_83, l9_84, l9_85, l10_59, l10_78, l9_D1, l9_D2, l9_D3, l9_D4, l9_T1, l9_T2, l9_T3, l9_T4]; omega) | decide)) only [e19_0, e19_1, e19_2, e19_3, e19_5, e19_7, e19_10, e19_11, e19_12, e19_13, e19_14, e19_15, e19_16, e19_17, e19_18, e19_19, e19_22, e19_25, e19_26, ↓reduceIte, nI_add, pk_mul, n_lt_t, n_lt_f, n_le_t, n_le_f, n_eq_f, n_eq_t, n_z_f, n_z_t, n_lz, n_zl, not_true_eq_false, not_false_eq_true, pkS]
/-- a ROUND of the spare POWER: whether it changed -/
theorem s18 {a o : Nat} {B : Nat → Nat} (ha : q_isT a = true) (ho : o < 16) (hB : ∀ j, j < 4 → B j < 100 ∧ F (a + 4) j = nI (B j)) : q_ex X (18, 0, [.ref 54, .ref a, .int (nI o)], [], q_w t u F J) = some (some (.int (bI (decide (¬ pkS (rnS (F (a + 3)) (F (a + 2)) o B (F a 4) 4 (F 56, F 55)).1 12 = pkS (F 56) 12)))), q_w t u (va_up (va_up F 56 (rnS (F (a + 3)) (F (a + 2)) o B (F a 4) 4 (F 56, F 55)).1) 55 (rnS (F (a + 3)) (F (a + 2)) o B (F a 4) 4 (F 56, F 55)).2) (va_up J 54 (pkS (F 56) 12))) := by
  by_cases hc : pkS (rnS (F (a + 3)) (F (a + 2)) o B (F a 4) 4 (F 56, F 55)).1 12 = pkS (F 56) 12
  · simp (disch := (first | omega | assumption | rfl | (simp (disch := assumption) only [l9_2, l9_4, l9_5, l9_6, l9_7, l9_9, l9_10, l9_11, l9_12, l9_14, l9_15, l9_16, l9_17, l9_51, l9_52, l9_53, l9_55, l9_56, l9_58, l9_61, l9_73, l9_74, l9_75, l9_76, l9_77, l9_79, l9_80, l9_81, l9_82, l9_83, l9_84, l9_85, l10_59, l10_78, l9_D1, l9_D2, l9_D3, l9_D4, l9_T1, l9_T2, l9_T3, l9_T4]; omega) | decide)) only [e18_0, e18_1, e18_2, e18_5, e18_8, e18_11, e18_12, e18_13, e18_14, e18_15, e18_18, e18_21, e18_22, e18_25, e18_28, e18_29, e18_32, e18_33, e18_36, e18_37, e18_40, e18_41, s19 (Or.inr rfl), s11 ha (Or.inr rfl) ho hB, Option.bind_some, Option.toList_some, Option.toList_none, List.cons_append, List.nil_append, ↓reduceIte, nI_add, pk_mul, n_lt_t, n_lt_f, n_le_t, n_le_f, n_eq_f, n_eq_t, n_z_f, n_z_t, n_lz, n_zl, not_true_eq_false, not_false_eq_true, va_up_n, va_up_s, lg_cmp_0, hc, decide_false, bI_f]
  · simp (disch := (first | omega | assumption | rfl | (simp (disch := assumption) only [l9_2, l9_4, l9_5, l9_6, l9_7, l9_9, l9_10, l9_11, l9_12, l9_14, l9_15, l9_16, l9_17, l9_51, l9_52, l9_53, l9_55, l9_56, l9_58, l9_61, l9_73, l9_74, l9_75, l9_76, l9_77, l9_79, l9_80, l9_81, l9_82, l9_83, l9_84, l9_85, l10_59, l10_78, l9_D1, l9_D2, l9_D3, l9_D4, l9_T1, l9_T2, l9_T3, l9_T4]; omega) | decide)) only [e18_0, e18_1, e18_2, e18_5, e18_8, e18_11, e18_12, e18_13, e18_14, e18_15, e18_18, e18_21, e18_22, e18_25, e18_28, e18_29, e18_32, e18_33, e18_36, e18_37, e18_40, e18_41, s19 (Or.inr rfl), s11 ha (Or.inr rfl) ho hB, Option.bind_some, Option.toList_some, Option.toList_none, List.cons_append, List.nil_append, ↓reduceIte, nI_add, pk_mul, n_lt_t, n_lt_f, n_le_t, n_le_f, n_eq_f, n_eq_t, n_z_f, n_z_t, n_lz, n_zl, not_true_eq_false, not_false_eq_true, va_up_n, va_up_s, lg_cmp_0, hc, decide_true, bI_t]
end S34
