/-! ===== makes, gotBy ===== -/
theorem elS_none {W : Nat} {R : Nat → Nat} {k : Nat} (h : elS W R k = none) : ∀ n, elS W R (k + n) = none
  | 0 => h
  | n + 1 => by
    have ih := elS_none h n
    show (match elS W R (k + n) with | none => none | some R => _) = none
    rw [ih]
theorem piv_lt {W c f : Nat} {R : Nat → Nat} {N : Nat} (hR : ∀ x, x < N → R x < 31) (hN : N = 4 * W) (hc : c < 4) (hf : f < 4) : ∀ x, x < N → piv W R c f x < 31 := by
  intro x hx
  simp only [piv]
  split
  · exact Nat.mod_lt _ (by decide)
  · split
    · rename_i h1 h2
      refine hR _ ?_
      have : W * c + W ≤ W * 4 := by
        rw [← Nat.mul_succ]; exact Nat.mul_le_mul_left _ hc
      rw [hN, Nat.mul_comm 4 W]
      omega
    · exact hR x hx
theorem clr_lt {W c : Nat} {R : Nat → Nat} {N : Nat} (hR : ∀ x, x < N → R x < 31) : ∀ x, x < N → clr W R c x < 31 := by
  intro x hx
  simp only [clr]
  split
  · exact Nat.mod_lt _ (by decide)
  · exact hR x hx
section S42
variable {X : Nat × (Nat → Int32)} {t u : Nat} {F : Nat → Nat → Int32} {J : Nat → Int64} {w : q_M}
theorem s24_l2 {o : Nat} {R : Nat → Nat} : ∀ (n k : Nat) (Rk : Nat → Nat), n + k = 4 → elS 5 R k = some Rk → (∀ x, x < 20 → Rk x < 31) →
    (∃ R', (∀ x, x < 20 → R' x < 31) ∧ elS 5 R 4 = none ∧ q_ex X (24, 51, [.ref 50, .ref 15, .int (nI o), .ref 61, .int (nI k)], [], q_w t u (gx 53 20 F Rk) J) = some (some (.int (nI 0)), q_w t u (gx 53 20 F R') J)) ∨
    (∃ R4, (∀ x, x < 20 → R4 x < 31) ∧ elS 5 R 4 = some R4 ∧ q_ex X (24, 51, [.ref 50, .ref 15, .int (nI o), .ref 61, .int (nI k)], [], q_w t u (gx 53 20 F Rk) J) = q_ex X (24, 51, [.ref 50, .ref 15, .int (nI o), .ref 61, .int (nI 4)], [], q_w t u (gx 53 20 F R4) J))
  | 0, k, Rk, hk, he, hb => by
    obtain rfl : k = 4 := by omega
    exact Or.inr ⟨Rk, hb, he, rfl⟩
  | n + 1, k, Rk, hk, he, hb => by
    have hk4 : k < 4 := by omega
    by_cases hf : fnd Rk 5 k 4 k = 4
    · refine Or.inl ⟨Rk, hb, ?_, ?_⟩
      · have h1 : elS 5 R (k + 1) = none := by
          simp only [elS, he, hf, if_true]
        have h2 := elS_none h1 n
        rw [show k + 1 + n = 4 by omega] at h2
        exact h2
      · rw [e24_51]
        simp (disch := (first | omega | assumption | rfl | (simp (disch := assumption) only [l9_2, l9_4, l9_5, l9_6, l9_7, l9_9, l9_10, l9_11, l9_12, l9_14, l9_15, l9_16, l9_17, l9_51, l9_52, l9_53, l9_55, l9_56, l9_58, l9_61, l9_73, l9_74, l9_75, l9_76, l9_77, l9_79, l9_80, l9_81, l9_82, l9_83, l9_84, l9_85, l10_59, l10_78, l9_D1, l9_D2, l9_D3, l9_D4, l9_T1, l9_T2, l9_T3, l9_T4]; omega) | decide)) only [e24_0, e24_1, e24_5, e24_6, e24_9, e24_10, e24_12, e24_13, e24_14, e24_15, e24_16, e24_19, e24_20, e24_21, e24_23, e24_24, e24_26, e24_27, e24_28, e24_31, e24_32, e24_33, e24_34, e24_35, e24_36, e24_37, e24_39, e24_42, e24_45, e24_48, e24_49, e24_53, e24_54, e24_57, e24_58, e24_60, e24_63, e24_66, e24_67, e24_68, e24_69, e24_71, e24_74, e24_77, e24_80, e24_81, e24_85, e24_86, e24_89, e24_90, e24_93, e24_95, e24_96, e24_99, e24_100, e24_102, e24_103, e24_104, e24_105, e24_106, e24_107, e24_110, e24_113, e24_114, ↓reduceIte, Nat.reduceAdd, Nat.reduceMul, nI_add, pk_mul, n_lt_t, n_lt_f, n_le_t, n_le_f, n_eq_f, n_eq_t, n_z_f, n_z_t, n_lz, n_zl, not_true_eq_false, not_false_eq_true, s26_n hk4 hb hf, Option.bind_some, Option.toList_some, Option.toList_none, List.cons_append, List.nil_append]
    · obtain ⟨f1, f2, f3⟩ := fnd_spec (R := Rk) (W := 5) (c := k) 4 k (by omega) (by omega)
      have hp := piv_lt (W := 5) (c := k) (f := fnd Rk 5 k 4 k) hb rfl hk4 (by omega)
      have he2 : elS 5 R (k + 1) = some (clr 5 (piv 5 Rk k (fnd Rk 5 k 4 k)) k) := by
        simp only [elS, he, hf, if_false]
      have ih := s24_l2 (o := o) n (k + 1) _ (by omega) he2 (clr_lt hp)
      have hstep : q_ex X (24, 51, [.ref 50, .ref 15, .int (nI o), .ref 61, .int (nI k)], [], q_w t u (gx 53 20 F Rk) J) = q_ex X (24, 51, [.ref 50, .ref 15, .int (nI o), .ref 61, .int (nI (k + 1))], [], q_w t u (gx 53 20 F (clr 5 (piv 5 Rk k (fnd Rk 5 k 4 k)) k)) J) := by
        rw [e24_51]
        simp (disch := (first | omega | assumption | rfl | (simp (disch := assumption) only [l9_2, l9_4, l9_5, l9_6, l9_7, l9_9, l9_10, l9_11, l9_12, l9_14, l9_15, l9_16, l9_17, l9_51, l9_52, l9_53, l9_55, l9_56, l9_58, l9_61, l9_73, l9_74, l9_75, l9_76, l9_77, l9_79, l9_80, l9_81, l9_82, l9_83, l9_84, l9_85, l10_59, l10_78, l9_D1, l9_D2, l9_D3, l9_D4, l9_T1, l9_T2, l9_T3, l9_T4]; omega) | decide)) only [e24_0, e24_1, e24_5, e24_6, e24_9, e24_10, e24_12, e24_13, e24_14, e24_15, e24_16, e24_19, e24_20, e24_21, e24_23, e24_24, e24_26, e24_27, e24_28, e24_31, e24_32, e24_33, e24_34, e24_35, e24_36, e24_37, e24_39, e24_42, e24_45, e24_48, e24_49, e24_53, e24_54, e24_57, e24_58, e24_60, e24_63, e24_66, e24_67, e24_68, e24_69, e24_71, e24_74, e24_77, e24_80, e24_81, e24_85, e24_86, e24_89, e24_90, e24_93, e24_95, e24_96, e24_99, e24_100, e24_102, e24_103, e24_104, e24_105, e24_106, e24_107, e24_110, e24_113, e24_114, ↓reduceIte, Nat.reduceAdd, Nat.reduceMul, nI_add, pk_mul, n_lt_t, n_lt_f, n_le_t, n_le_f, n_eq_f, n_eq_t, n_z_f, n_z_t, n_lz, n_zl, not_true_eq_false, not_false_eq_true, s26_t hk4 hb hf, s27 hk4 hp, Option.bind_some, Option.toList_some, Option.toList_none, List.cons_append, List.nil_append]
      rw [hstep]
      exact ih
theorem s24_l1 {o : Nat} {L S : Nat → Nat} (ho : o < 16) (hL : rowN (F 15) L 16 31) (hS : rowN (F 61) S 4 31) : ∀ (n k : Nat) (R : Nat → Nat), n + k = 4 → (∀ x, x < 20 → R x < 31) → (∀ x, x < 5 * k → R x = rwv L S o (x / 5) (x % 5)) →
    (∃ R', (∀ x, x < 20 → R' x < 31) ∧ (∃ j, j < 4 ∧ bt o j = 1 ∧ L (5 * j) = 0) ∧ q_ex X (24, 3, [.ref 50, .ref 15, .int (nI o), .ref 61, .int (nI k)], [], q_w t u (gx 53 20 F R) J) = some (some (.int (nI 0)), q_w t u (gx 53 20 F R') J)) ∨
    (∃ R1, (∀ x, x < 20 → R1 x < 31) ∧ (∀ x, x < 20 → R1 x = rwv L S o (x / 5) (x % 5)) ∧ (∀ j, k ≤ j → j < 4 → ¬ (bt o j = 1 ∧ L (5 * j) = 0)) ∧ q_ex X (24, 3, [.ref 50, .ref 15, .int (nI o), .ref 61, .int (nI k)], [], q_w t u (gx 53 20 F R) J) = q_ex X (24, 48, [.ref 50, .ref 15, .int (nI o), .ref 61, .int (nI 4)], [], q_w t u (gx 53 20 F R1) J))
  | 0, k, R, hk, hb, hR => by
    obtain rfl : k = 4 := by omega
    refine Or.inr ⟨R, hb, hR, fun j h1 h2 => by omega, ?_⟩
    rw [e24_3]
    simp (disch := (first | omega | assumption | rfl | (simp (disch := assumption) only [l9_2, l9_4, l9_5, l9_6, l9_7, l9_9, l9_10, l9_11, l9_12, l9_14, l9_15, l9_16, l9_17, l9_51, l9_52, l9_53, l9_55, l9_56, l9_58, l9_61, l9_73, l9_74, l9_75, l9_76, l9_77, l9_79, l9_80, l9_81, l9_82, l9_83, l9_84, l9_85, l10_59, l10_78, l9_D1, l9_D2, l9_D3, l9_D4, l9_T1, l9_T2, l9_T3, l9_T4]; omega) | decide)) only [e24_5, e24_6, ↓reduceIte, Nat.reduceAdd, Nat.reduceMul, nI_add, pk_mul, n_lt_t, n_lt_f, n_le_t, n_le_f, n_eq_f, n_eq_t, n_z_f, n_z_t, n_lz, n_zl, not_true_eq_false, not_false_eq_true]
  | n + 1, k, R, hk, hb, hR => by
    have hk4 : k < 4 := by omega
    obtain ⟨hl1, hl2⟩ := hL (4 * k + k) (by omega)
    have h5 : 4 * k + k = 5 * k := by omega
    have hbk := bt_lt o k
    by_cases hz : bt o k = 1 ∧ L (5 * k) = 0
    · refine Or.inl ⟨R, hb, ⟨k, hk4, hz⟩, ?_⟩
      have hz2 : L (4 * k + k) = 0 := by rw [h5]; exact hz.2
      rw [e24_3]
      simp (disch := (first | omega | assumption | rfl | (simp (disch := assumption) only [l9_2, l9_4, l9_5, l9_6, l9_7, l9_9, l9_10, l9_11, l9_12, l9_14, l9_15, l9_16, l9_17, l9_51, l9_52, l9_53, l9_55, l9_56, l9_58, l9_61, l9_73, l9_74, l9_75, l9_76, l9_77, l9_79, l9_80, l9_81, l9_82, l9_83, l9_84, l9_85, l10_59, l10_78, l9_D1, l9_D2, l9_D3, l9_D4, l9_T1, l9_T2, l9_T3, l9_T4]; omega) | decide)) only [e24_0, e24_1, e24_5, e24_6, e24_9, e24_10, e24_12, e24_13, e24_14, e24_15, e24_16, e24_19, e24_20, e24_21, e24_23, e24_24, e24_26, e24_27, e24_28, e24_31, e24_32, e24_33, e24_34, e24_35, e24_36, e24_37, e24_39, e24_42, e24_45, e24_48, e24_49, e24_53, e24_54, e24_57, e24_58, e24_60, e24_63, e24_66, e24_67, e24_68, e24_69, e24_71, e24_74, e24_77, e24_80, e24_81, e24_85, e24_86, e24_89, e24_90, e24_93, e24_95, e24_96, e24_99, e24_100, e24_102, e24_103, e24_104, e24_105, e24_106, e24_107, e24_110, e24_113, e24_114, ↓reduceIte, Nat.reduceAdd, Nat.reduceMul, nI_add, pk_mul, n_lt_t, n_lt_f, n_le_t, n_le_f, n_eq_f, n_eq_t, n_z_f, n_z_t, n_lz, n_zl, not_true_eq_false, not_false_eq_true, n_bit, hz.1, gx_n, hl1, hz2]
    · have hb2 : ∀ x, x < 20 → (if 5 * k ≤ x ∧ x < 5 * k + 5 then rwv L S o k (x - 5 * k) else R x) < 31 := by
        intro x hx
        split
        · simp only [rwv]
          have hll := fun i hi => (hL i hi).2
          split
          · split
            · split
              · exact hll _ (by omega)
              · omega
            · exact Nat.mod_lt _ (by decide)
          · split <;> omega
        · exact hb x hx
      have hR2 : ∀ x, x < 5 * (k + 1) → (if 5 * k ≤ x ∧ x < 5 * k + 5 then rwv L S o k (x - 5 * k) else R x) = rwv L S o (x / 5) (x % 5) := by
        intro x hx
        by_cases h1 : 5 * k ≤ x
        · rw [if_pos (by omega), show x / 5 = k by omega, show x % 5 = x - 5 * k by omega]
        · rw [if_neg (by omega)]
          exact hR x (by omega)
      have ih := s24_l1 ho hL hS n (k + 1) _ (by omega) hb2 hR2
      have hstep : q_ex X (24, 3, [.ref 50, .ref 15, .int (nI o), .ref 61, .int (nI k)], [], q_w t u (gx 53 20 F R) J) = q_ex X (24, 3, [.ref 50, .ref 15, .int (nI o), .ref 61, .int (nI (k + 1))], [], q_w t u (gx 53 20 F (fun x => if 5 * k ≤ x ∧ x < 5 * k + 5 then rwv L S o k (x - 5 * k) else R x)) J) := by
        rw [e24_3]
        by_cases h1 : bt o k = 1
        · have h2 : ¬ L (4 * k + k) = 0 := fun z => hz ⟨h1, by rw [← h5]; exact z⟩
          simp (disch := (first | omega | assumption | rfl | (simp (disch := assumption) only [l9_2, l9_4, l9_5, l9_6, l9_7, l9_9, l9_10, l9_11, l9_12, l9_14, l9_15, l9_16, l9_17, l9_51, l9_52, l9_53, l9_55, l9_56, l9_58, l9_61, l9_73, l9_74, l9_75, l9_76, l9_77, l9_79, l9_80, l9_81, l9_82, l9_83, l9_84, l9_85, l10_59, l10_78, l9_D1, l9_D2, l9_D3, l9_D4, l9_T1, l9_T2, l9_T3, l9_T4]; omega) | decide)) only [e24_0, e24_1, e24_5, e24_6, e24_9, e24_10, e24_12, e24_13, e24_14, e24_15, e24_16, e24_19, e24_20, e24_21, e24_23, e24_24, e24_26, e24_27, e24_28, e24_31, e24_32, e24_33, e24_34, e24_35, e24_36, e24_37, e24_39, e24_42, e24_45, e24_48, e24_49, e24_53, e24_54, e24_57, e24_58, e24_60, e24_63, e24_66, e24_67, e24_68, e24_69, e24_71, e24_74, e24_77, e24_80, e24_81, e24_85, e24_86, e24_89, e24_90, e24_93, e24_95, e24_96, e24_99, e24_100, e24_102, e24_103, e24_104, e24_105, e24_106, e24_107, e24_110, e24_113, e24_114, ↓reduceIte, Nat.reduceAdd, Nat.reduceMul, nI_add, pk_mul, n_lt_t, n_lt_f, n_le_t, n_le_f, n_eq_f, n_eq_t, n_z_f, n_z_t, n_lz, n_zl, not_true_eq_false, not_false_eq_true, n_bit, h1, gx_n, hl1, s25 ho hk4 hL hS, Option.bind_some, Option.toList_some, Option.toList_none, List.cons_append, List.nil_append]
        · have h10 : bt o k = 0 := by omega
          simp (disch := (first | omega | assumption | rfl | (simp (disch := assumption) only [l9_2, l9_4, l9_5, l9_6, l9_7, l9_9, l9_10, l9_11, l9_12, l9_14, l9_15, l9_16, l9_17, l9_51, l9_52, l9_53, l9_55, l9_56, l9_58, l9_61, l9_73, l9_74, l9_75, l9_76, l9_77, l9_79, l9_80, l9_81, l9_82, l9_83, l9_84, l9_85, l10_59, l10_78, l9_D1, l9_D2, l9_D3, l9_D4, l9_T1, l9_T2, l9_T3, l9_T4]; omega) | decide)) only [e24_0, e24_1, e24_5, e24_6, e24_9, e24_10, e24_12, e24_13, e24_14, e24_15, e24_16, e24_19, e24_20, e24_21, e24_23, e24_24, e24_26, e24_27, e24_28, e24_31, e24_32, e24_33, e24_34, e24_35, e24_36, e24_37, e24_39, e24_42, e24_45, e24_48, e24_49, e24_53, e24_54, e24_57, e24_58, e24_60, e24_63, e24_66, e24_67, e24_68, e24_69, e24_71, e24_74, e24_77, e24_80, e24_81, e24_85, e24_86, e24_89, e24_90, e24_93, e24_95, e24_96, e24_99, e24_100, e24_102, e24_103, e24_104, e24_105, e24_106, e24_107, e24_110, e24_113, e24_114, ↓reduceIte, Nat.reduceAdd, Nat.reduceMul, nI_add, pk_mul, n_lt_t, n_lt_f, n_le_t, n_le_f, n_eq_f, n_eq_t, n_z_f, n_z_t, n_lz, n_zl, not_true_eq_false, not_false_eq_true, n_bit, h10, s25 ho hk4 hL hS, Option.bind_some, Option.toList_some, Option.toList_none, List.cons_append, List.nil_append]
      rw [hstep]
      rcases ih with ⟨R', a1, a2, a3⟩ | ⟨R1, a1, a2, a3, a4⟩
      · exact Or.inl ⟨R', a1, a2, a3⟩
      · refine Or.inr ⟨R1, a1, a2, fun j h1 h2 => ?_, a4⟩
        by_cases hjk : j = k
        · subst hjk; exact hz
        · exact a3 j (by omega) h2
theorem s24_l3 {o : Nat} {R : Nat → Nat} : q_ex X (24, 83, [.ref 50, .ref 15, .int (nI o), .ref 61, .int (nI 0)], [], q_w t u (gx 53 20 F R) J) = q_ex X (24, 83, [.ref 50, .ref 15, .int (nI o), .ref 61, .int (nI 4)], [], q_w t u (gx 52 4 (gx 53 20 F R) (fun i => R (5 * i + 4))) J) := by
  have h := q_iter0 (X := X) (fun k => (24, 83, [.ref 50, .ref 15, .int (nI o), .ref 61, .int (nI k)], [], q_w t u (gx 52 k (gx 53 20 F R) (fun i => R (5 * i + 4))) J)) 4 (fun k hk => ?_)
  · refine Eq.trans ?_ h
    congr 6
    funext b i
    simp only [gx, va_app]
    grind
  · try dsimp only
    rw [e24_83]
    simp (disch := (first | omega | assumption | rfl | (simp (disch := assumption) only [l9_2, l9_4, l9_5, l9_6, l9_7, l9_9, l9_10, l9_11, l9_12, l9_14, l9_15, l9_16, l9_17, l9_51, l9_52, l9_53, l9_55, l9_56, l9_58, l9_61, l9_73, l9_74, l9_75, l9_76, l9_77, l9_79, l9_80, l9_81, l9_82, l9_83, l9_84, l9_85, l10_59, l10_78, l9_D1, l9_D2, l9_D3, l9_D4, l9_T1, l9_T2, l9_T3, l9_T4]; omega) | decide)) only [e24_0, e24_1, e24_5, e24_6, e24_9, e24_10, e24_12, e24_13, e24_14, e24_15, e24_16, e24_19, e24_20, e24_21, e24_23, e24_24, e24_26, e24_27, e24_28, e24_31, e24_32, e24_33, e24_34, e24_35, e24_36, e24_37, e24_39, e24_42, e24_45, e24_48, e24_49, e24_53, e24_54, e24_57, e24_58, e24_60, e24_63, e24_66, e24_67, e24_68, e24_69, e24_71, e24_74, e24_77, e24_80, e24_81, e24_85, e24_86, e24_89, e24_90, e24_93, e24_95, e24_96, e24_99, e24_100, e24_102, e24_103, e24_104, e24_105, e24_106, e24_107, e24_110, e24_113, e24_114, ↓reduceIte, Nat.reduceAdd, Nat.reduceMul, nI_add, pk_mul, n_lt_t, n_lt_f, n_le_t, n_le_f, n_eq_f, n_eq_t, n_z_f, n_z_t, n_lz, n_zl, not_true_eq_false, not_false_eq_true, gx_n, gx_rd]
    congr 6
    funext b i
    simp only [q_app, gx, va_app]
    grind
/-- makes: whether symbols can be MADE; they stand in the cell 52 -/
theorem s24 {o : Nat} {L S R0 : Nat → Nat} (ho : o < 16) (hL : rowN (F 15) L 16 31) (hS : rowN (F 61) S 4 31) (hR0 : rowN (F 53) R0 20 31) :
    (∃ R', (∀ x, x < 20 → R' x < 31) ∧ ((∃ j, j < 4 ∧ bt o j = 1 ∧ L (5 * j) = 0) ∨ ((∀ j, j < 4 → ¬ (bt o j = 1 ∧ L (5 * j) = 0)) ∧ ∃ R1, (∀ x, x < 20 → R1 x = rwv L S o (x / 5) (x % 5)) ∧ elS 5 R1 4 = none)) ∧ q_ex X (24, 0, [.ref 50, .ref 15, .int (nI o), .ref 61, .null], [], q_w t u F J) = some (some (.int (nI 0)), q_w t u (gx 53 20 F R') J)) ∨
    ((∀ j, j < 4 → ¬ (bt o j = 1 ∧ L (5 * j) = 0)) ∧ ∃ R1 R4, (∀ x, x < 20 → R4 x < 31) ∧ (∀ x, x < 20 → R1 x = rwv L S o (x / 5) (x % 5)) ∧ elS 5 R1 4 = some R4 ∧ q_ex X (24, 0, [.ref 50, .ref 15, .int (nI o), .ref 61, .null], [], q_w t u F J) = some (some (.int (nI 1)), q_w t u (gx 52 4 (gx 53 20 F R4) (fun i => R4 (5 * i + 4))) J)) := by
  have hF : gx 53 20 F R0 = F := gx_self (fun x hx => (hR0 x hx).1)
  have h1 := s24_l1 (X := X) (t := t) (u := u) (J := J) (F := F) ho hL hS 4 0 R0 (by omega) (fun x hx => (hR0 x hx).2) (fun x hx => by omega)
  rw [hF] at h1
  have h0 : q_ex X (24, 0, [.ref 50, .ref 15, .int (nI o), .ref 61, .null], [], q_w t u F J) = q_ex X (24, 3, [.ref 50, .ref 15, .int (nI o), .ref 61, .int (nI 0)], [], q_w t u F J) := by
    simp only [e24_0, e24_1]
  rw [h0]
  rcases h1 with ⟨R', a1, a2, a3⟩ | ⟨R1, a1, a2, a3, a4⟩
  · exact Or.inl ⟨R', a1, Or.inl a2, a3⟩
  · have h2 := s24_l2 (X := X) (t := t) (u := u) (J := J) (F := F) (o := o) (R := R1) 4 0 R1 (by omega) rfl a1
    have h3 : q_ex X (24, 48, [.ref 50, .ref 15, .int (nI o), .ref 61, .int (nI 4)], [], q_w t u (gx 53 20 F R1) J) = q_ex X (24, 51, [.ref 50, .ref 15, .int (nI o), .ref 61, .int (nI 0)], [], q_w t u (gx 53 20 F R1) J) := by
      simp only [e24_48, e24_49]
    rw [a4, h3]
    rcases h2 with ⟨R', b1, b2, b3⟩ | ⟨R4, b1, b2, b3⟩
    · exact Or.inl ⟨R', b1, Or.inr ⟨fun j hj => a3 j (Nat.zero_le _) hj, R1, a2, b2⟩, b3⟩
    · refine Or.inr ⟨fun j hj => a3 j (Nat.zero_le _) hj, R1, R4, b1, a2, b2, ?_⟩
      rw [b3, e24_51]
      simp (disch := (first | omega | assumption | rfl | (simp (disch := assumption) only [l9_2, l9_4, l9_5, l9_6, l9_7, l9_9, l9_10, l9_11, l9_12, l9_14, l9_15, l9_16, l9_17, l9_51, l9_52, l9_53, l9_55, l9_56, l9_58, l9_61, l9_73, l9_74, l9_75, l9_76, l9_77, l9_79, l9_80, l9_81, l9_82, l9_83, l9_84, l9_85, l10_59, l10_78, l9_D1, l9_D2, l9_D3, l9_D4, l9_T1, l9_T2, l9_T3, l9_T4]; omega) | decide)) only [e24_0, e24_1, e24_5, e24_6, e24_9, e24_10, e24_12, e24_13, e24_14, e24_15, e24_16, e24_19, e24_20, e24_21, e24_23, e24_24, e24_26, e24_27, e24_28, e24_31, e24_32, e24_33, e24_34, e24_35, e24_36, e24_37, e24_39, e24_42, e24_45, e24_48, e24_49, e24_53, e24_54, e24_57, e24_58, e24_60, e24_63, e24_66, e24_67, e24_68, e24_69, e24_71, e24_74, e24_77, e24_80, e24_81, e24_85, e24_86, e24_89, e24_90, e24_93, e24_95, e24_96, e24_99, e24_100, e24_102, e24_103, e24_104, e24_105, e24_106, e24_107, e24_110, e24_113, e24_114, ↓reduceIte, Nat.reduceAdd, Nat.reduceMul, nI_add, pk_mul, n_lt_t, n_lt_f, n_le_t, n_le_f, n_eq_f, n_eq_t, n_z_f, n_z_t, n_lz, n_zl, not_true_eq_false, not_false_eq_true]
      rw [s24_l3, e24_83]
      simp (disch := (first | omega | assumption | rfl | (simp (disch := assumption) only [l9_2, l9_4, l9_5, l9_6, l9_7, l9_9, l9_10, l9_11, l9_12, l9_14, l9_15, l9_16, l9_17, l9_51, l9_52, l9_53, l9_55, l9_56, l9_58, l9_61, l9_73, l9_74, l9_75, l9_76, l9_77, l9_79, l9_80, l9_81, l9_82, l9_83, l9_84, l9_85, l10_59, l10_78, l9_D1, l9_D2, l9_D3, l9_D4, l9_T1, l9_T2, l9_T3, l9_T4]; omega) | decide)) only [e24_0, e24_1, e24_5, e24_6, e24_9, e24_10, e24_12, e24_13, e24_14, e24_15, e24_16, e24_19, e24_20, e24_21, e24_23, e24_24, e24_26, e24_27, e24_28, e24_31, e24_32, e24_33, e24_34, e24_35, e24_36, e24_37, e24_39, e24_42, e24_45, e24_48, e24_49, e24_53, e24_54, e24_57, e24_58, e24_60, e24_63, e24_66, e24_67, e24_68, e24_69, e24_71, e24_74, e24_77, e24_80, e24_81, e24_85, e24_86, e24_89, e24_90, e24_93, e24_95, e24_96, e24_99, e24_100, e24_102, e24_103, e24_104, e24_105, e24_106, e24_107, e24_110, e24_113, e24_114, ↓reduceIte, Nat.reduceAdd, Nat.reduceMul, nI_add, pk_mul, n_lt_t, n_lt_f, n_le_t, n_le_f, n_eq_f, n_eq_t, n_z_f, n_z_t, n_lz, n_zl, not_true_eq_false, not_false_eq_true]
/-- GOT: the sum of EARS times what was MADE -/
def gtS (E M : Nat → Nat) (o c : Nat) : Nat → Nat
  | 0 => 0
  | k + 1 => if bt o k = 1 then gtS E M o c k + E (c + k) * M k else gtS E M o c k
theorem gtS_le {E M : Nat → Nat} {o c : Nat} (hE : ∀ i, i < c + 4 → E i < 31) (hM : ∀ i, i < 4 → M i < 31) : ∀ k, k ≤ 4 → gtS E M o c k ≤ 900 * k
  | 0, _ => by simp only [gtS]; omega
  | k + 1, hk => by
    have ih := gtS_le (o := o) hE hM k (by omega)
    have h1 := hE (c + k) (by omega)
    have h2 := hM k (by omega)
    have h3 : E (c + k) * M k ≤ 30 * 30 := Nat.mul_le_mul (by omega) (by omega)
    simp only [gtS]
    split <;> omega
theorem s28 {o j : Nat} {E L M : Nat → Nat} (hO : F 13 0 = nI o) (ho : o < 16) (hj : j < 4) (hE : rowN (F 14) E 16 31) (hL : rowN (F 15) L 16 31) (hM : rowN (F 52) M 4 31) : q_ex X (28, 0, [.ref 50, .ref 13, .int (nI j), .null, .null], [], q_w t u F J) = some (some (.int (nI (gtS E M o (4 * j) 4 % 31 * ob (L (5 * j)) % 31))), q_w t u F J) := by
  have h := q_iter0 (X := X) (fun k => (28, 5, [.ref 50, .ref 13, .int (nI j), .int (nI (gtS E M o (4 * j) k)), .int (nI k)], [], q_w t u F J)) 4 (fun k hk => ?_)
  · simp only [e28_0, e28_1, e28_2, e28_3]
    have h' : q_ex X (28, 5, [.ref 50, .ref 13, .int (nI j), .int (nI 0), .int (nI 0)], [], q_w t u F J) = q_ex X (28, 5, [.ref 50, .ref 13, .int (nI j), .int (nI (gtS E M o (4 * j) 4)), .int (nI 4)], [], q_w t u F J) := h
    rw [h', e28_5]
    obtain ⟨hl1, hl2⟩ := hL (4 * j + j) (by omega)
    have hob := ob_x hl2
    have hob2 := ob_lt hl2
    have hle := gtS_le (E := E) (M := M) (o := o) (c := 4 * j) (fun i hi => (hE i (by omega)).2) (fun i hi => (hM i hi).2) 4 (by omega)
    have hm : gtS E M o (4 * j) 4 % 31 * ob (L (4 * j + j)) ≤ 30 * 30 := Nat.mul_le_mul (by omega) (by omega)
    simp (disch := (first | omega | assumption | rfl | (simp (disch := assumption) only [l9_2, l9_4, l9_5, l9_6, l9_7, l9_9, l9_10, l9_11, l9_12, l9_14, l9_15, l9_16, l9_17, l9_51, l9_52, l9_53, l9_55, l9_56, l9_58, l9_61, l9_73, l9_74, l9_75, l9_76, l9_77, l9_79, l9_80, l9_81, l9_82, l9_83, l9_84, l9_85, l10_59, l10_78, l9_D1, l9_D2, l9_D3, l9_D4, l9_T1, l9_T2, l9_T3, l9_T4]; omega) | decide)) only [e28_0, e28_1, e28_2, e28_3, e28_7, e28_8, e28_11, e28_12, e28_14, e28_17, e28_20, e28_21, e28_22, e28_25, e28_26, e28_27, e28_28, e28_30, e28_31, e28_32, e28_33, e28_36, e28_38, e28_39, e28_40, e28_41, e28_42, e28_45, e28_48, e28_49, e28_51, e28_52, e28_55, e28_56, e28_59, e28_60, e28_61, e28_62, e28_63, e28_64, e28_65_0, e28_65_1, e28_66, e28_67, e28_69, e28_70, ↓reduceIte, Nat.reduceAdd, Nat.reduceMul, nI_add, pk_mul, n_lt_t, n_lt_f, n_le_t, n_le_f, n_eq_f, n_eq_t, n_z_f, n_z_t, n_lz, n_zl, not_true_eq_false, not_false_eq_true, isD_13, n_31, n_rem, hl1, hob]
    rw [show 4 * j + j = 5 * j by omega]
  · try dsimp only
    rw [e28_5]
    obtain ⟨he1, he2⟩ := hE (4 * j + k) (by omega)
    obtain ⟨hm1, hm2⟩ := hM k hk
    by_cases h2 : bt o k = 1
    · simp (disch := (first | omega | assumption | rfl | (simp (disch := assumption) only [l9_2, l9_4, l9_5, l9_6, l9_7, l9_9, l9_10, l9_11, l9_12, l9_14, l9_15, l9_16, l9_17, l9_51, l9_52, l9_53, l9_55, l9_56, l9_58, l9_61, l9_73, l9_74, l9_75, l9_76, l9_77, l9_79, l9_80, l9_81, l9_82, l9_83, l9_84, l9_85, l10_59, l10_78, l9_D1, l9_D2, l9_D3, l9_D4, l9_T1, l9_T2, l9_T3, l9_T4]; omega) | decide)) only [e28_0, e28_1, e28_2, e28_3, e28_7, e28_8, e28_11, e28_12, e28_14, e28_17, e28_20, e28_21, e28_22, e28_25, e28_26, e28_27, e28_28, e28_30, e28_31, e28_32, e28_33, e28_36, e28_38, e28_39, e28_40, e28_41, e28_42, e28_45, e28_48, e28_49, e28_51, e28_52, e28_55, e28_56, e28_59, e28_60, e28_61, e28_62, e28_63, e28_64, e28_65_0, e28_65_1, e28_66, e28_67, e28_69, e28_70, isD_13, ↓reduceIte, Nat.reduceAdd, Nat.reduceMul, nI_add, pk_mul, n_lt_t, n_lt_f, n_le_t, n_le_f, n_eq_f, n_eq_t, n_z_f, n_z_t, n_lz, n_zl, not_true_eq_false, not_false_eq_true, s4 hO ho hk, Option.bind_some, Option.toList_some, Option.toList_none, List.cons_append, List.nil_append, h2, he1, hm1]
      simp only [gtS, h2, ↓reduceIte]
    · have h0 : bt o k = 0 := by have := bt_lt o k; omega
      simp (disch := (first | omega | assumption | rfl | (simp (disch := assumption) only [l9_2, l9_4, l9_5, l9_6, l9_7, l9_9, l9_10, l9_11, l9_12, l9_14, l9_15, l9_16, l9_17, l9_51, l9_52, l9_53, l9_55, l9_56, l9_58, l9_61, l9_73, l9_74, l9_75, l9_76, l9_77, l9_79, l9_80, l9_81, l9_82, l9_83, l9_84, l9_85, l10_59, l10_78, l9_D1, l9_D2, l9_D3, l9_D4, l9_T1, l9_T2, l9_T3, l9_T4]; omega) | decide)) only [e28_0, e28_1, e28_2, e28_3, e28_7, e28_8, e28_11, e28_12, e28_14, e28_17, e28_20, e28_21, e28_22, e28_25, e28_26, e28_27, e28_28, e28_30, e28_31, e28_32, e28_33, e28_36, e28_38, e28_39, e28_40, e28_41, e28_42, e28_45, e28_48, e28_49, e28_51, e28_52, e28_55, e28_56, e28_59, e28_60, e28_61, e28_62, e28_63, e28_64, e28_65_0, e28_65_1, e28_66, e28_67, e28_69, e28_70, isD_13, ↓reduceIte, Nat.reduceAdd, Nat.reduceMul, nI_add, pk_mul, n_lt_t, n_lt_f, n_le_t, n_le_f, n_eq_f, n_eq_t, n_z_f, n_z_t, n_lz, n_zl, not_true_eq_false, not_false_eq_true, s4 hO ho hk, Option.bind_some, Option.toList_some, Option.toList_none, List.cons_append, List.nil_append, h0]
      simp only [gtS, h0, Nat.zero_ne_one, ↓reduceIte]
end S42
