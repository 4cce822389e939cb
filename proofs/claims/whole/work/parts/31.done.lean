/-! ===== QuietPairs$Done ===== -/
section S31
variable {X : Nat × (Nat → Int32)} {t u : Nat} {F : Nat → Nat → Int32} {J : Nat → Int64} {w : q_M}
/-- Done d becomes as Done e -/
def cpD (F : Nat → Nat → Int32) (d e : Nat) : Nat → Nat → Int32 := fun b i => if b = d ∧ i = 0 then F e 0 else if b = d + 1 ∧ i < 16 then F (e + 1) i else if b = d + 2 ∧ i < 16 then F (e + 2) i else if b = d + 3 ∧ i < 16 then F (e + 3) i else if b = d + 4 ∧ i < 12 then F (e + 4) i else F b i
theorem s2_l1 {d e : Nat} (hd : q_isD d = true) (he : q_isD e = true) (hde : d ≠ e) : q_ex X (2, 10, [.ref d, .ref e, .int (nI 0)], [], q_w t u F J) = q_ex X (2, 10, [.ref d, .ref e, .int (nI 16)], [], q_w t u (fun b i => if b = d + 1 ∧ i < 16 then F (e + 1) i else if b = d + 2 ∧ i < 16 then F (e + 2) i else F b i) J) := by
  have hap := isD_apart hd he hde
  have h := q_iter0 (X := X) (fun k => (2, 10, [.ref d, .ref e, .int (nI k)], [], q_w t u (fun b i => if b = d + 1 ∧ i < k then F (e + 1) i else if b = d + 2 ∧ i < k then F (e + 2) i else F b i) J)) 16 (fun k hk => ?_)
  · refine Eq.trans ?_ h
    congr 6
    funext b i
    grind
  · try dsimp only
    rw [e2_10]
    simp (disch := (first | omega | assumption | rfl | (simp (disch := assumption) only [l9_2, l9_4, l9_5, l9_6, l9_7, l9_9, l9_10, l9_11, l9_12, l9_14, l9_15, l9_16, l9_17, l9_51, l9_52, l9_53, l9_55, l9_56, l9_58, l9_61, l9_73, l9_74, l9_75, l9_76, l9_77, l9_79, l9_80, l9_81, l9_82, l9_83, l9_84, l9_85, l10_59, l10_78, l9_D1, l9_D2, l9_D3, l9_D4, l9_T1, l9_T2, l9_T3, l9_T4]; omega) | decide)) only [e2_0, e2_1, e2_2, e2_5, e2_8, e2_9, e2_11, e2_13, e2_16, e2_17, e2_20, e2_21, e2_22, e2_25, e2_26, e2_27, e2_28, e2_29, e2_32, e2_33, e2_34, e2_37, e2_38, e2_39, e2_40, e2_43, e2_46, e2_47, e2_48, e2_49, e2_51, e2_54, e2_55, e2_58, e2_59, e2_60, e2_63, e2_64, e2_65, e2_66, e2_69, e2_72, e2_73, e2_74, e2_75, e2_77, e2_80, e2_81, e2_84, e2_85, e2_86, e2_89, e2_90, e2_91, e2_92, e2_95, e2_98, ↓reduceIte, nI_add, pk_mul, n_lt_t, n_lt_f, n_le_t, n_le_f, n_eq_f, n_eq_t, n_z_f, n_z_t, n_lz, n_zl, not_true_eq_false, not_false_eq_true, q_up_n]
    congr 6
    funext b i
    simp only [q_app]
    grind
end S31
