/-! ===== calls: keep, back, tells ===== -/
def kpM (F : Nat → Nat → Int32) (v k : Nat) : Nat → Nat → Int32 := fun b i => if b = 77 ∧ 61 * v ≤ i ∧ i < 61 * v + k then F 75 (i - 61 * v) else F b i
def bkM (F : Nat → Nat → Int32) (v k : Nat) : Nat → Nat → Int32 := fun b i => if b = 75 ∧ i < k then F 77 (61 * v + i) else F b i
theorem rI_neg : ∀ k, k < 200 → ¬ (0 : Int32) ≤ -10 - nI k := by decide +kernel
theorem bt_0 (m : Nat) : bt 0 m = 0 := by simp [bt]
theorem okT_bg : okT bg := by
  refine ⟨fun i hi => ?_, fun j hj => ?_, ?_⟩
  · simp only [bg]; rw [if_pos hi]; split <;> omega
  · simp only [bg]; rw [if_neg (by omega), if_pos (by omega)]; omega
  · decide
section S77
variable {X : Nat × (Nat → Int32)} {t u : Nat} {F F' G : Nat → Nat → Int32} {J : Nat → Int64} {w : q_M}
theorem kpM_n {v k b : Nat} (h : b ≠ 77) : kpM F v k b = F b := by
  funext i
  simp only [kpM]
  rw [if_neg (by omega)]
theorem bkM_n {v k b : Nat} (h : b ≠ 75) : bkM F v k b = F b := by
  funext i
  simp only [bkM]
  rw [if_neg (by omega)]
theorem op22 {y : Int32} (h : Rel t u F) : OK X t u F J 73 [.ref 0, .int y] 135 [.ref 72, .int y, .null] := by
  have hh := h
  obtain ⟨htu, hT, ⟨N, hD, hM, hok⟩, hP, ⟨kk, I, hk, i1, i2, i3⟩, hY, hX, hS⟩ := h
  have ht2 := htu
  unfold Rtu at ht2
  have hO := hD.1
  have hO2 : F 75 0 = nI (N 0) := hM 0 (by omega)
  have ho := hok.1
  rcases i_cases y (k := 2) (by decide) with hb | ⟨v, hv, rfl⟩
  · have h85 := i_bad (k := 1) (by decide) hb
    refine OK_q (r := -1) hh ?_ ?_
    · by_cases h0 : y < 0
      · simp (disch := (first | omega | assumption | rfl | (simp (disch := assumption) only [l9_2, l9_4, l9_5, l9_6, l9_7, l9_9, l9_10, l9_11, l9_12, l9_14, l9_15, l9_16, l9_17, l9_51, l9_52, l9_53, l9_55, l9_56, l9_58, l9_61, l9_73, l9_74, l9_75, l9_76, l9_77, l9_79, l9_80, l9_81, l9_82, l9_83, l9_84, l9_85, l10_59, l10_78, l9_D1, l9_D2, l9_D3, l9_D4, l9_T1, l9_T2, l9_T3, l9_T4]; omega) | decide)) only [e73_0, e73_1, e73_4, e73_5, e73_6, e73_9, e73_10, e73_11, e73_12, e73_15, e73_16, e73_17, e73_18, e73_21, e73_24, e73_25, e73_26, e73_29, e73_30, e73_31, e73_32, e73_33, e73_36, e73_37, e73_40, e73_43, e73_46, ↓reduceIte, Nat.reduceAdd, Nat.reduceMul, nI_add, pk_mul, n_lt_t, n_lt_f, n_le_t, n_le_f, n_eq_f, n_eq_t, n_z_f, n_z_t, n_lz, n_zl, not_true_eq_false, not_false_eq_true, h0]
      · have h1' := Int32.not_lt.mpr (hb.resolve_left h0)
        simp (disch := (first | omega | assumption | rfl | (simp (disch := assumption) only [l9_2, l9_4, l9_5, l9_6, l9_7, l9_9, l9_10, l9_11, l9_12, l9_14, l9_15, l9_16, l9_17, l9_51, l9_52, l9_53, l9_55, l9_56, l9_58, l9_61, l9_73, l9_74, l9_75, l9_76, l9_77, l9_79, l9_80, l9_81, l9_82, l9_83, l9_84, l9_85, l10_59, l10_78, l9_D1, l9_D2, l9_D3, l9_D4, l9_T1, l9_T2, l9_T3, l9_T4]; omega) | decide)) only [e73_0, e73_1, e73_4, e73_5, e73_6, e73_9, e73_10, e73_11, e73_12, e73_15, e73_16, e73_17, e73_18, e73_21, e73_24, e73_25, e73_26, e73_29, e73_30, e73_31, e73_32, e73_33, e73_36, e73_37, e73_40, e73_43, e73_46, ↓reduceIte, Nat.reduceAdd, Nat.reduceMul, nI_add, pk_mul, n_lt_t, n_lt_f, n_le_t, n_le_f, n_eq_f, n_eq_t, n_z_f, n_z_t, n_lz, n_zl, not_true_eq_false, not_false_eq_true, h0, h1']
    · simp (disch := (first | omega | assumption | rfl | (simp (disch := assumption) only [l9_2, l9_4, l9_5, l9_6, l9_7, l9_9, l9_10, l9_11, l9_12, l9_14, l9_15, l9_16, l9_17, l9_51, l9_52, l9_53, l9_55, l9_56, l9_58, l9_61, l9_73, l9_74, l9_75, l9_76, l9_77, l9_79, l9_80, l9_81, l9_82, l9_83, l9_84, l9_85, l10_59, l10_78, l9_D1, l9_D2, l9_D3, l9_D4, l9_T1, l9_T2, l9_T3, l9_T4]; omega) | decide)) only [e135_0, e135_1, e135_2, e135_3, e135_6, e135_9, e135_10, e135_11, e135_12, e135_14, e135_16, e135_19, e135_20, e135_23, e135_25, e135_26, e135_27, e135_28, e135_29, e135_30, e135_33, e135_34, e135_35, e135_36, e135_39, e135_42, e135_43, e135_46, e135_47, e135_48, e135_49, e135_50, e135_53, e135_54, e135_55, e135_58, ↓reduceIte, Nat.reduceAdd, Nat.reduceMul, nI_add, pk_mul, n_lt_t, n_lt_f, n_le_t, n_le_f, n_eq_f, n_eq_t, n_z_f, n_z_t, n_lz, n_zl, not_true_eq_false, not_false_eq_true, s85_f h85, Option.bind_some, Option.toList_some, Option.toList_none, List.cons_append, List.nil_append]
  obtain ⟨hor, hbits⟩ := kk_or kk hk v hv
  have h2k : 1 * 2 ^ v < 2 ^ 32 := by
    have : 2 ^ v ≤ 2 ^ 4 := Nat.pow_le_pow_right (by decide) (by omega)
    omega
  have hDv := isD_i hv
  have c2 := s2 (X := X) (t := t) (u := u) (F := F) (J := J) hDv isD_13 (show 62 + 5 * v ≠ 13 by omega)
  have r9 : cpD F (62 + 5 * v) 13 0 9 = nI kk := by rw [cpD_n (by omega), i1]
  generalize hC : q_up (cpD F (62 + 5 * v) 13) 0 9 (nI (kk ||| 1 * 2 ^ v)) = C
  have e1 : ∀ b, b ≠ 0 → (b < 62 + 5 * v ∨ 62 + 5 * v + 4 < b) → C b = F b := fun b z1 z2 => by rw [← hC, q_up_n z1, cpD_n z2]
  have r13 : C 13 0 = nI (N 0) := by rw [e1 13 (by omega) (by omega), hO]
  have r75 : C 75 = F 75 := e1 75 (by omega) (by omega)
  have hl := q_iter0 (X := X) (fun k => (135, 13, [.ref 72, .int (nI v), .int (nI k)], [], q_w t u (kpM C v k) J)) 61 (fun k hk => ?_)
  · have hl' : q_ex X (135, 13, [.ref 72, .int (nI v), .int (nI 0)], [], q_w t u C J) = _ := Eq.trans (by congr 6; funext b i; simp only [kpM]; rw [if_neg (show ¬ (b = 77 ∧ 61 * v ≤ i ∧ i < 61 * v + 0) by omega)]) hl
    have s75 : q_up (kpM C v 61) 78 v (nI 1) 75 0 = nI (N 0) := by rw [q_up_n (by omega), kpM_n (by omega), r75, hO2]
    have e2 : ∀ b, b ≠ 77 → b ≠ 78 → q_up (kpM C v 61) 78 v (nI 1) b = C b := fun b z1 z2 => by rw [q_up_n z2, kpM_n z1]
    refine ⟨nI (pcS (N 0) 4), t, u, C, J, q_up (kpM C v 61) 78 v (nI 1), J, ?_, ?_, htu, ?_, ?_, ?_, ?_, ?_, ?_, ?_⟩
    · rw [← pc16 _ ho]
      simp (disch := (first | omega | assumption | rfl | (simp (disch := assumption) only [l9_2, l9_4, l9_5, l9_6, l9_7, l9_9, l9_10, l9_11, l9_12, l9_14, l9_15, l9_16, l9_17, l9_51, l9_52, l9_53, l9_55, l9_56, l9_58, l9_61, l9_73, l9_74, l9_75, l9_76, l9_77, l9_79, l9_80, l9_81, l9_82, l9_83, l9_84, l9_85, l10_59, l10_78, l9_D1, l9_D2, l9_D3, l9_D4, l9_T1, l9_T2, l9_T3, l9_T4]; omega) | decide)) only [e73_0, e73_1, e73_4, e73_5, e73_6, e73_9, e73_10, e73_11, e73_12, e73_15, e73_16, e73_17, e73_18, e73_21, e73_24, e73_25, e73_26, e73_29, e73_30, e73_31, e73_32, e73_33, e73_36, e73_37, e73_40, e73_43, e73_46, ↓reduceIte, Nat.reduceAdd, Nat.reduceMul, nI_add, pk_mul, n_lt_t, n_lt_f, n_le_t, n_le_f, n_eq_f, n_eq_t, n_z_f, n_z_t, n_lz, n_zl, not_true_eq_false, not_false_eq_true, c2, Option.bind_some, Option.toList_some, Option.toList_none, List.cons_append, List.nil_append, r9, n_shl, n_or, hC, isD_13, r13, s148]
    · simp (disch := (first | omega | assumption | rfl | (simp (disch := assumption) only [l9_2, l9_4, l9_5, l9_6, l9_7, l9_9, l9_10, l9_11, l9_12, l9_14, l9_15, l9_16, l9_17, l9_51, l9_52, l9_53, l9_55, l9_56, l9_58, l9_61, l9_73, l9_74, l9_75, l9_76, l9_77, l9_79, l9_80, l9_81, l9_82, l9_83, l9_84, l9_85, l10_59, l10_78, l9_D1, l9_D2, l9_D3, l9_D4, l9_T1, l9_T2, l9_T3, l9_T4]; omega) | decide)) only [e135_0, e135_1, e135_2, e135_3, e135_6, e135_9, e135_10, e135_11, e135_12, e135_14, e135_16, e135_19, e135_20, e135_23, e135_25, e135_26, e135_27, e135_28, e135_29, e135_30, e135_33, e135_34, e135_35, e135_36, e135_39, e135_42, e135_43, e135_46, e135_47, e135_48, e135_49, e135_50, e135_53, e135_54, e135_55, e135_58, ↓reduceIte, Nat.reduceAdd, Nat.reduceMul, nI_add, pk_mul, n_lt_t, n_lt_f, n_le_t, n_le_f, n_eq_f, n_eq_t, n_z_f, n_z_t, n_lz, n_zl, not_true_eq_false, not_false_eq_true, s85_t, Option.bind_some, Option.toList_some, Option.toList_none, List.cons_append, List.nil_append]
      rw [hl', e135_13]
      simp (disch := (first | omega | assumption | rfl | (simp (disch := assumption) only [l9_2, l9_4, l9_5, l9_6, l9_7, l9_9, l9_10, l9_11, l9_12, l9_14, l9_15, l9_16, l9_17, l9_51, l9_52, l9_53, l9_55, l9_56, l9_58, l9_61, l9_73, l9_74, l9_75, l9_76, l9_77, l9_79, l9_80, l9_81, l9_82, l9_83, l9_84, l9_85, l10_59, l10_78, l9_D1, l9_D2, l9_D3, l9_D4, l9_T1, l9_T2, l9_T3, l9_T4]; omega) | decide)) only [e135_0, e135_1, e135_2, e135_3, e135_6, e135_9, e135_10, e135_11, e135_12, e135_14, e135_16, e135_19, e135_20, e135_23, e135_25, e135_26, e135_27, e135_28, e135_29, e135_30, e135_33, e135_34, e135_35, e135_36, e135_39, e135_42, e135_43, e135_46, e135_47, e135_48, e135_49, e135_50, e135_53, e135_54, e135_55, e135_58, ↓reduceIte, Nat.reduceAdd, Nat.reduceMul, nI_add, pk_mul, n_lt_t, n_lt_f, n_le_t, n_le_f, n_eq_f, n_eq_t, n_z_f, n_z_t, n_lz, n_zl, not_true_eq_false, not_false_eq_true, s75, s89, Option.bind_some, Option.toList_some, Option.toList_none, List.cons_append, List.nil_append]
    · exact RT_n (fun b i hb => by rw [e2 b (by omega) (by omega), e1 b (by omega) (by omega)]) hT
    · exact RN_n (fun b i hb => by rw [e2 b (by omega) (by omega), e1 b (by omega) (by omega)]) ⟨N, hD, hM, hok⟩
    · exact RP_n (fun b i hb => by rw [e2 b (by omega) (by omega), e1 b (by omega) (by omega)]) hP
    · refine ⟨kk ||| 1 * 2 ^ v, fun m => if m = v then N else I m, hor, ?_, fun m hm => ?_, fun m hm hbm => ?_⟩
      · rw [e2 0 (by omega) (by omega), ← hC, q_app, if_pos ⟨rfl, rfl⟩]
      · rw [hbits m hm, q_app]
        by_cases hmv : m = v
        · rw [if_pos ⟨rfl, hmv⟩, if_pos hmv]
        · rw [if_neg (fun z => hmv z.2), if_neg hmv, kpM_n (by omega), e1 78 (by omega) (by omega), i2 m hm]
      · by_cases hmv : m = v
        · subst hmv
          simp only [if_true]
          refine ⟨dR_n (F := cpD F (62 + 5 * m) 13) (fun b i z1 z2 => ?_) (cpD_dR hD), fun i hi => ?_, hok⟩
          · rw [e2 b (by omega) (by omega), ← hC, q_up_n (by omega)]
          · rw [q_up_n (by omega)]
            simp only [kpM]
            rw [if_pos ⟨trivial, by omega, by omega⟩, show 61 * m + i - 61 * m = i by omega, r75, mR_at hM hi]
        · rw [hbits m hm, if_neg hmv] at hbm
          obtain ⟨a1, a2, a3⟩ := i3 m hm hbm
          simp only [if_neg hmv]
          refine ⟨dR_n (fun b i z1 z2 => by rw [e2 b (by omega) (by omega), e1 b (by omega) (by omega)]) a1, fun i hi => ?_, a3⟩
          rw [q_up_n (by omega), ← a2 i hi]
          simp only [kpM]
          rw [if_neg (by omega), e1 77 (by omega) (by omega)]
    · exact RY_n (fun b i hb => by rw [e2 b (by omega) (by omega), e1 b (by omega) (by omega)]) hY
    · exact RX_n (fun b i hb => by rw [e2 b (by omega) (by omega), e1 b (by omega) (by omega)]) hX
    · exact RS_n (fun i => by rw [e2 53 (by omega) (by omega), e1 53 (by omega) (by omega)]) hS
  · try dsimp only
    have s75 : kpM C v k 75 = C 75 := kpM_n (by omega)
    rw [e135_13]
    simp (disch := (first | omega | assumption | rfl | (simp (disch := assumption) only [l9_2, l9_4, l9_5, l9_6, l9_7, l9_9, l9_10, l9_11, l9_12, l9_14, l9_15, l9_16, l9_17, l9_51, l9_52, l9_53, l9_55, l9_56, l9_58, l9_61, l9_73, l9_74, l9_75, l9_76, l9_77, l9_79, l9_80, l9_81, l9_82, l9_83, l9_84, l9_85, l10_59, l10_78, l9_D1, l9_D2, l9_D3, l9_D4, l9_T1, l9_T2, l9_T3, l9_T4]; omega) | decide)) only [e135_0, e135_1, e135_2, e135_3, e135_6, e135_9, e135_10, e135_11, e135_12, e135_14, e135_16, e135_19, e135_20, e135_23, e135_25, e135_26, e135_27, e135_28, e135_29, e135_30, e135_33, e135_34, e135_35, e135_36, e135_39, e135_42, e135_43, e135_46, e135_47, e135_48, e135_49, e135_50, e135_53, e135_54, e135_55, e135_58, ↓reduceIte, Nat.reduceAdd, Nat.reduceMul, nI_add, pk_mul, n_lt_t, n_lt_f, n_le_t, n_le_f, n_eq_f, n_eq_t, n_z_f, n_z_t, n_lz, n_zl, not_true_eq_false, not_false_eq_true, s75]
    congr 6
    funext b i
    simp only [q_app, kpM]
    by_cases c1 : b = 77 ∧ i = 61 * v + k
    · rw [if_pos c1, if_pos ⟨c1.1, by omega, by omega⟩, c1.2, show 61 * v + k - 61 * v = k by omega]
    · rw [if_neg c1]
      by_cases c2 : b = 77 ∧ 61 * v ≤ i ∧ i < 61 * v + k
      · rw [if_pos c2, if_pos (by omega)]
      · rw [if_neg c2, if_neg (by omega)]
theorem op23 {y : Int32} (h : Rel t u F) : OK X t u F J 74 [.ref 0, .int y] 136 [.ref 72, .int y, .null] := by
  have hh := h
  obtain ⟨htu, hT, ⟨N, hD, hM, hok⟩, ⟨x, p, H, hx, hp, h1, h2, h3, hH⟩, ⟨kk, I, hk, i1, i2, i3⟩, hY, hX, hS⟩ := h
  have ht2 := htu
  unfold Rtu at ht2
  rcases i_cases y (k := 2) (by decide) with hb | ⟨v, hv, rfl⟩
  · have h85 := i_bad (k := 1) (by decide) hb
    refine OK_q (r := -1) hh ?_ ?_
    · by_cases h0 : y < 0
      · simp (disch := (first | omega | assumption | rfl | (simp (disch := assumption) only [l9_2, l9_4, l9_5, l9_6, l9_7, l9_9, l9_10, l9_11, l9_12, l9_14, l9_15, l9_16, l9_17, l9_51, l9_52, l9_53, l9_55, l9_56, l9_58, l9_61, l9_73, l9_74, l9_75, l9_76, l9_77, l9_79, l9_80, l9_81, l9_82, l9_83, l9_84, l9_85, l10_59, l10_78, l9_D1, l9_D2, l9_D3, l9_D4, l9_T1, l9_T2, l9_T3, l9_T4]; omega) | decide)) only [e74_0, e74_1, e74_4, e74_5, e74_6, e74_9, e74_10, e74_11, e74_12, e74_15, e74_16, e74_17, e74_18, e74_19, e74_22, e74_24, e74_25, e74_26, e74_29, e74_30, e74_33, e74_34, e74_35, e74_38, e74_39, e74_42, e74_43, e74_46, e74_47, e74_50, e74_53, e74_56, ↓reduceIte, Nat.reduceAdd, Nat.reduceMul, nI_add, pk_mul, n_lt_t, n_lt_f, n_le_t, n_le_f, n_eq_f, n_eq_t, n_z_f, n_z_t, n_lz, n_zl, not_true_eq_false, not_false_eq_true, h0]
      · have h1' := Int32.not_lt.mpr (hb.resolve_left h0)
        simp (disch := (first | omega | assumption | rfl | (simp (disch := assumption) only [l9_2, l9_4, l9_5, l9_6, l9_7, l9_9, l9_10, l9_11, l9_12, l9_14, l9_15, l9_16, l9_17, l9_51, l9_52, l9_53, l9_55, l9_56, l9_58, l9_61, l9_73, l9_74, l9_75, l9_76, l9_77, l9_79, l9_80, l9_81, l9_82, l9_83, l9_84, l9_85, l10_59, l10_78, l9_D1, l9_D2, l9_D3, l9_D4, l9_T1, l9_T2, l9_T3, l9_T4]; omega) | decide)) only [e74_0, e74_1, e74_4, e74_5, e74_6, e74_9, e74_10, e74_11, e74_12, e74_15, e74_16, e74_17, e74_18, e74_19, e74_22, e74_24, e74_25, e74_26, e74_29, e74_30, e74_33, e74_34, e74_35, e74_38, e74_39, e74_42, e74_43, e74_46, e74_47, e74_50, e74_53, e74_56, ↓reduceIte, Nat.reduceAdd, Nat.reduceMul, nI_add, pk_mul, n_lt_t, n_lt_f, n_le_t, n_le_f, n_eq_f, n_eq_t, n_z_f, n_z_t, n_lz, n_zl, not_true_eq_false, not_false_eq_true, h0, h1']
    · simp (disch := (first | omega | assumption | rfl | (simp (disch := assumption) only [l9_2, l9_4, l9_5, l9_6, l9_7, l9_9, l9_10, l9_11, l9_12, l9_14, l9_15, l9_16, l9_17, l9_51, l9_52, l9_53, l9_55, l9_56, l9_58, l9_61, l9_73, l9_74, l9_75, l9_76, l9_77, l9_79, l9_80, l9_81, l9_82, l9_83, l9_84, l9_85, l10_59, l10_78, l9_D1, l9_D2, l9_D3, l9_D4, l9_T1, l9_T2, l9_T3, l9_T4]; omega) | decide)) only [e136_0, e136_1, e136_2, e136_3, e136_6, e136_9, e136_10, e136_11, e136_12, e136_15, e136_16, e136_17, e136_20, e136_22, e136_23, e136_24, e136_26, e136_28, e136_31, e136_32, e136_35, e136_36, e136_37, e136_40, e136_42, e136_43, e136_44, e136_45, e136_46, e136_47, e136_48, e136_51, e136_54, e136_55, e136_56, e136_59, e136_60, e136_63, e136_64, e136_65, e136_68, ↓reduceIte, Nat.reduceAdd, Nat.reduceMul, nI_add, pk_mul, n_lt_t, n_lt_f, n_le_t, n_le_f, n_eq_f, n_eq_t, n_z_f, n_z_t, n_lz, n_zl, not_true_eq_false, not_false_eq_true, s85_f h85, Option.bind_some, Option.toList_some, Option.toList_none, List.cons_append, List.nil_append]
  have hbt := bt_lt kk v
  have j2 := i2 v hv
  by_cases hbv : bt kk v = 1
  · obtain ⟨a1, a2, a3⟩ := i3 v hv hbv
    have hDv := isD_i hv
    have ho := a3.1
    have c2 := s2 (X := X) (t := t) (u := u) (F := F) (J := J) isD_13 hDv (show 13 ≠ 62 + 5 * v by omega)
    generalize hC : q_up (cpD F 13 (62 + 5 * v)) 18 2 (nI 0) = C
    have e1 : ∀ b, b ≠ 18 → (b < 13 ∨ 17 < b) → C b = F b := fun b z1 z2 => by rw [← hC, q_up_n z1, cpD_n (by omega)]
    have hD' : dR C 13 (I v) := dR_n (F := cpD F 13 (62 + 5 * v)) (fun b i z1 z2 => by rw [← hC, q_up_n (by omega)]) (cpD_dR a1)
    have r13 : C 13 0 = nI (I v 0) := hD'.1
    have r78 : C 78 v = nI (bt kk v) := by rw [e1 78 (by omega) (by omega), j2]
    have hl := q_iter0 (X := X) (fun k => (136, 25, [.ref 72, .int (nI v), .int (nI k)], [], q_w t u (bkM C v k) J)) 61 (fun k hk => ?_)
    · have hl' : q_ex X (136, 25, [.ref 72, .int (nI v), .int (nI 0)], [], q_w t u C J) = _ := Eq.trans (by congr 6; funext b i; simp only [bkM]; rw [if_neg (show ¬ (b = 75 ∧ i < 0) by omega)]) hl
      have hM' : mR (q_up (bkM C v 61) 72 4 (nI 0)) 75 0 (I v) := fun i hi => by
        rw [Nat.zero_add, q_up_n (by omega)]
        simp only [bkM]
        rw [if_pos ⟨trivial, hi⟩, e1 77 (by omega) (by omega), a2 i hi]
      have s75 : q_up (bkM C v 61) 72 4 (nI 0) 75 0 = nI (I v 0) := hM' 0 (by omega)
      have e2 : ∀ b i, b ≠ 75 → (b = 72 → i ≠ 4) → q_up (bkM C v 61) 72 4 (nI 0) b i = C b i := fun b i z1 z2 => by rw [q_app, if_neg (fun z => z2 z.1 z.2), bkM_n z1]
      refine ⟨nI (pcS (I v 0) 4), t, u, C, J, q_up (bkM C v 61) 72 4 (nI 0), J, ?_, ?_, htu, ?_, ⟨I v, ?_, hM', a3⟩, ?_, ?_, ?_, ?_, ?_⟩
      · rw [← pc16 _ ho]
        simp (disch := (first | omega | assumption | rfl | (simp (disch := assumption) only [l9_2, l9_4, l9_5, l9_6, l9_7, l9_9, l9_10, l9_11, l9_12, l9_14, l9_15, l9_16, l9_17, l9_51, l9_52, l9_53, l9_55, l9_56, l9_58, l9_61, l9_73, l9_74, l9_75, l9_76, l9_77, l9_79, l9_80, l9_81, l9_82, l9_83, l9_84, l9_85, l10_59, l10_78, l9_D1, l9_D2, l9_D3, l9_D4, l9_T1, l9_T2, l9_T3, l9_T4]; omega) | decide)) only [e74_0, e74_1, e74_4, e74_5, e74_6, e74_9, e74_10, e74_11, e74_12, e74_15, e74_16, e74_17, e74_18, e74_19, e74_22, e74_24, e74_25, e74_26, e74_29, e74_30, e74_33, e74_34, e74_35, e74_38, e74_39, e74_42, e74_43, e74_46, e74_47, e74_50, e74_53, e74_56, ↓reduceIte, Nat.reduceAdd, Nat.reduceMul, nI_add, pk_mul, n_lt_t, n_lt_f, n_le_t, n_le_f, n_eq_f, n_eq_t, n_z_f, n_z_t, n_lz, n_zl, not_true_eq_false, not_false_eq_true, i1, n_bit, hbv, c2, Option.bind_some, Option.toList_some, Option.toList_none, List.cons_append, List.nil_append, hC, isD_13, r13, s148]
      · simp (disch := (first | omega | assumption | rfl | (simp (disch := assumption) only [l9_2, l9_4, l9_5, l9_6, l9_7, l9_9, l9_10, l9_11, l9_12, l9_14, l9_15, l9_16, l9_17, l9_51, l9_52, l9_53, l9_55, l9_56, l9_58, l9_61, l9_73, l9_74, l9_75, l9_76, l9_77, l9_79, l9_80, l9_81, l9_82, l9_83, l9_84, l9_85, l10_59, l10_78, l9_D1, l9_D2, l9_D3, l9_D4, l9_T1, l9_T2, l9_T3, l9_T4]; omega) | decide)) only [e136_0, e136_1, e136_2, e136_3, e136_6, e136_9, e136_10, e136_11, e136_12, e136_15, e136_16, e136_17, e136_20, e136_22, e136_23, e136_24, e136_26, e136_28, e136_31, e136_32, e136_35, e136_36, e136_37, e136_40, e136_42, e136_43, e136_44, e136_45, e136_46, e136_47, e136_48, e136_51, e136_54, e136_55, e136_56, e136_59, e136_60, e136_63, e136_64, e136_65, e136_68, ↓reduceIte, Nat.reduceAdd, Nat.reduceMul, nI_add, pk_mul, n_lt_t, n_lt_f, n_le_t, n_le_f, n_eq_f, n_eq_t, n_z_f, n_z_t, n_lz, n_zl, not_true_eq_false, not_false_eq_true, s85_t, Option.bind_some, Option.toList_some, Option.toList_none, List.cons_append, List.nil_append, r78, hbv]
        rw [hl', e136_25]
        simp (disch := (first | omega | assumption | rfl | (simp (disch := assumption) only [l9_2, l9_4, l9_5, l9_6, l9_7, l9_9, l9_10, l9_11, l9_12, l9_14, l9_15, l9_16, l9_17, l9_51, l9_52, l9_53, l9_55, l9_56, l9_58, l9_61, l9_73, l9_74, l9_75, l9_76, l9_77, l9_79, l9_80, l9_81, l9_82, l9_83, l9_84, l9_85, l10_59, l10_78, l9_D1, l9_D2, l9_D3, l9_D4, l9_T1, l9_T2, l9_T3, l9_T4]; omega) | decide)) only [e136_0, e136_1, e136_2, e136_3, e136_6, e136_9, e136_10, e136_11, e136_12, e136_15, e136_16, e136_17, e136_20, e136_22, e136_23, e136_24, e136_26, e136_28, e136_31, e136_32, e136_35, e136_36, e136_37, e136_40, e136_42, e136_43, e136_44, e136_45, e136_46, e136_47, e136_48, e136_51, e136_54, e136_55, e136_56, e136_59, e136_60, e136_63, e136_64, e136_65, e136_68, ↓reduceIte, Nat.reduceAdd, Nat.reduceMul, nI_add, pk_mul, n_lt_t, n_lt_f, n_le_t, n_le_f, n_eq_f, n_eq_t, n_z_f, n_z_t, n_lz, n_zl, not_true_eq_false, not_false_eq_true, s75, s89, Option.bind_some, Option.toList_some, Option.toList_none, List.cons_append, List.nil_append]
      · exact RT_n (fun b i hb => by rw [e2 b i (by omega) (by omega), e1 b (by omega) (by omega)]) hT
      · exact dR_n (fun b i z1 z2 => by rw [e2 b i (by omega) (by omega)]) hD'
      · refine ⟨x, 0, H, hx, by omega, ?_, ?_, ?_, fun m hm => by omega⟩
        · rw [e2 18 1 (by omega) (by omega), ← hC, q_app, if_neg (by omega), cpD_n (by omega), h1]
        · rw [e2 18 2 (by omega) (by omega), ← hC, q_app, if_pos ⟨rfl, rfl⟩]
        · rw [q_app, if_pos ⟨rfl, rfl⟩]
      · exact RI_n (fun b i hb => by rw [e2 b i (by omega) (by omega), e1 b (by omega) (by omega)]) ⟨kk, I, hk, i1, i2, i3⟩
      · exact RY_n (fun b i hb => by rw [e2 b i (by omega) (by omega), e1 b (by omega) (by omega)]) hY
      · exact RX_n (fun b i hb => by rw [e2 b i (by omega) (by omega), e1 b (by omega) (by omega)]) hX
      · exact RS_n (fun i => by rw [e2 53 i (by omega) (by omega), e1 53 (by omega) (by omega)]) hS
    · try dsimp only
      have s77 : bkM C v k 77 = C 77 := bkM_n (by omega)
      rw [e136_25]
      simp (disch := (first | omega | assumption | rfl | (simp (disch := assumption) only [l9_2, l9_4, l9_5, l9_6, l9_7, l9_9, l9_10, l9_11, l9_12, l9_14, l9_15, l9_16, l9_17, l9_51, l9_52, l9_53, l9_55, l9_56, l9_58, l9_61, l9_73, l9_74, l9_75, l9_76, l9_77, l9_79, l9_80, l9_81, l9_82, l9_83, l9_84, l9_85, l10_59, l10_78, l9_D1, l9_D2, l9_D3, l9_D4, l9_T1, l9_T2, l9_T3, l9_T4]; omega) | decide)) only [e136_0, e136_1, e136_2, e136_3, e136_6, e136_9, e136_10, e136_11, e136_12, e136_15, e136_16, e136_17, e136_20, e136_22, e136_23, e136_24, e136_26, e136_28, e136_31, e136_32, e136_35, e136_36, e136_37, e136_40, e136_42, e136_43, e136_44, e136_45, e136_46, e136_47, e136_48, e136_51, e136_54, e136_55, e136_56, e136_59, e136_60, e136_63, e136_64, e136_65, e136_68, ↓reduceIte, Nat.reduceAdd, Nat.reduceMul, nI_add, pk_mul, n_lt_t, n_lt_f, n_le_t, n_le_f, n_eq_f, n_eq_t, n_z_f, n_z_t, n_lz, n_zl, not_true_eq_false, not_false_eq_true, s77]
      congr 6
      funext b i
      simp only [q_app, bkM]
      grind
  · have hb0 : bt kk v = 0 := by omega
    rw [hb0] at j2
    refine OK_q (r := -2) hh ?_ ?_
    · simp (disch := (first | omega | assumption | rfl | (simp (disch := assumption) only [l9_2, l9_4, l9_5, l9_6, l9_7, l9_9, l9_10, l9_11, l9_12, l9_14, l9_15, l9_16, l9_17, l9_51, l9_52, l9_53, l9_55, l9_56, l9_58, l9_61, l9_73, l9_74, l9_75, l9_76, l9_77, l9_79, l9_80, l9_81, l9_82, l9_83, l9_84, l9_85, l10_59, l10_78, l9_D1, l9_D2, l9_D3, l9_D4, l9_T1, l9_T2, l9_T3, l9_T4]; omega) | decide)) only [e74_0, e74_1, e74_4, e74_5, e74_6, e74_9, e74_10, e74_11, e74_12, e74_15, e74_16, e74_17, e74_18, e74_19, e74_22, e74_24, e74_25, e74_26, e74_29, e74_30, e74_33, e74_34, e74_35, e74_38, e74_39, e74_42, e74_43, e74_46, e74_47, e74_50, e74_53, e74_56, ↓reduceIte, Nat.reduceAdd, Nat.reduceMul, nI_add, pk_mul, n_lt_t, n_lt_f, n_le_t, n_le_f, n_eq_f, n_eq_t, n_z_f, n_z_t, n_lz, n_zl, not_true_eq_false, not_false_eq_true, i1, n_bit, hb0]
    · simp (disch := (first | omega | assumption | rfl | (simp (disch := assumption) only [l9_2, l9_4, l9_5, l9_6, l9_7, l9_9, l9_10, l9_11, l9_12, l9_14, l9_15, l9_16, l9_17, l9_51, l9_52, l9_53, l9_55, l9_56, l9_58, l9_61, l9_73, l9_74, l9_75, l9_76, l9_77, l9_79, l9_80, l9_81, l9_82, l9_83, l9_84, l9_85, l10_59, l10_78, l9_D1, l9_D2, l9_D3, l9_D4, l9_T1, l9_T2, l9_T3, l9_T4]; omega) | decide)) only [e136_0, e136_1, e136_2, e136_3, e136_6, e136_9, e136_10, e136_11, e136_12, e136_15, e136_16, e136_17, e136_20, e136_22, e136_23, e136_24, e136_26, e136_28, e136_31, e136_32, e136_35, e136_36, e136_37, e136_40, e136_42, e136_43, e136_44, e136_45, e136_46, e136_47, e136_48, e136_51, e136_54, e136_55, e136_56, e136_59, e136_60, e136_63, e136_64, e136_65, e136_68, ↓reduceIte, Nat.reduceAdd, Nat.reduceMul, nI_add, pk_mul, n_lt_t, n_lt_f, n_le_t, n_le_f, n_eq_f, n_eq_t, n_z_f, n_z_t, n_lz, n_zl, not_true_eq_false, not_false_eq_true, s85_t, Option.bind_some, Option.toList_some, Option.toList_none, List.cons_append, List.nil_append, j2]
theorem frT_n {a b : Nat} (h : b < a ∨ a + 4 < b) : frT F a b = F b := by
  funext i
  simp only [frT]
  rw [if_neg (by omega), if_neg (by omega), if_neg (by omega), if_neg (by omega), if_neg (by omega)]
theorem frT_R {a : Nat} : tR (frT F a) a bg := by
  refine ⟨fun i hi => ?_, fun i hi => ?_, fun i hi => ?_, fun i hi => ?_, ?_⟩
  · simp only [frT, bg]
    rw [if_pos ⟨trivial, hi⟩, if_pos hi]
  · simp only [frT, bg]
    rw [if_neg (by omega), if_neg (by omega), if_pos ⟨trivial, hi⟩, if_neg (by omega), if_neg (by omega), if_neg (by omega)]
  · simp only [frT, bg]
    rw [if_neg (by omega), if_pos ⟨trivial, hi⟩, if_neg (by omega), if_neg (by omega), if_neg (by omega)]
  · simp only [frT, bg]
    rw [if_neg (by omega), if_neg (by omega), if_neg (by omega), if_pos ⟨trivial, hi⟩, if_neg (by omega), if_pos (by omega)]
  · simp only [frT]
    rw [if_neg (by omega), if_neg (by omega), if_neg (by omega), if_neg (by omega), if_pos ⟨trivial, trivial⟩]
    rfl
theorem frD_n {a b : Nat} (h : b < 13 ∨ 17 < b) : frD F 13 a b = F b := by
  funext i
  simp only [frD]
  rw [if_neg (by omega), if_neg (by omega), if_neg (by omega), if_neg (by omega), if_neg (by omega)]
theorem nw_R {a : Nat} {T : Nat → Nat} (hE : ∀ i, i < 16 → F a i = nI (T i)) : dR (frD F 13 a) 13 (nw T) := by
  refine ⟨?_, fun i hi => ⟨?_, ?_, ?_, fun h12 => ?_⟩⟩
  · simp only [frD, nw]
    rw [if_pos ⟨trivial, trivial⟩]
    rfl
  · simp only [frD, nw]
    rw [if_neg (by omega), if_pos ⟨trivial, hi⟩, if_pos (by omega), show 1 + i - 1 = i by omega, hE i hi]
  · simp only [frD, nw]
    rw [if_neg (by omega), if_neg (by omega), if_pos ⟨trivial, hi⟩, if_neg (show ¬ (1 ≤ 17 + i ∧ 17 + i < 17) by omega), if_pos (show 17 ≤ 17 + i ∧ 17 + i < 33 by omega), show 17 + i - 17 = i by omega]
  · simp only [frD, nw]
    rw [if_neg (by omega), if_neg (by omega), if_neg (by omega), if_pos ⟨trivial, hi⟩, if_neg (by omega), if_neg (by omega)]
  · simp only [frD, nw]
    rw [if_neg (by omega), if_neg (by omega), if_neg (by omega), if_neg (by omega), if_pos ⟨trivial, h12⟩, if_neg (by omega), if_neg (by omega)]
theorem nw_ok {T : Nat → Nat} (h : ∀ i, i < 16 → T i < 31) : okR (nw T) := by
  refine ⟨by simp [nw], fun i hi => ⟨?_, ?_, ?_, fun h12 => ?_⟩⟩
  · simp only [nw]
    rw [if_pos (by omega), show 1 + i - 1 = i by omega]; exact h i hi
  · simp only [nw]
    rw [if_neg (by omega), if_pos (by omega)]; split <;> omega
  · simp only [nw]
    rw [if_neg (by omega), if_neg (by omega)]; omega
  · simp only [nw]
    rw [if_neg (by omega), if_neg (by omega)]; omega
theorem op2 (h : Rel t u F) : OK X t u F J 53 [.ref 0, .null, .null] 147 [.ref 72, .null, .null] := by
  have hh := h
  obtain ⟨htu, hT, hN, ⟨x0, p, H, hx0, hp, h1, h2, h3, hH⟩, hI, hY, ⟨l, x, hx, hm⟩, hS⟩ := h
  have ht := (Rtu_t htu).1
  have hu := (Rtu_t htu).2
  have ht2 := htu
  unfold Rtu at ht2
  have hl := hx.1
  have f1 : frT F u 1 = F 1 := frT_n (by omega)
  have f2 : frT F u 2 = F 2 := frT_n (by omega)
  obtain ⟨F1, c1, hR1, hT1, g1, g2, hf161, hn161⟩ := s32 (X := X) (t := t) (u := u) (J := J) (F := frT F u) hu (tx_n hx f1 f2) frT_R okT_bg
  have c0 := s44 (X := X) (t := t) (u := u) (F := F) (J := J) hu
  have e1 : ∀ b, b ≠ 1 → (b < u ∨ u + 4 < b) → F1 b = F b := fun b z1 z2 => by rw [g1 b z1 z2, frT_n z2]
  have e11 : F1 1 1 = nI l := by rw [g2, f1, hx.2.1]
  generalize hlp : lp x l l (sk x l 0) 0 0 bg = R at c1 hR1 hT1 hf161 hn161
  obtain ⟨f, n, T⟩ := R
  dsimp only at c1 hR1 hT1 hf161 hn161
  by_cases hf : f = 0
  · subst hf
    have hr : rI 0 n = nI n := rfl
    rw [hr] at c1
    have cs1 := s1 (X := X) (t := u) (u := t) (F := F1) (J := J) (a := u + 1) (by omega)
    generalize hC : q_up (q_up (q_up (q_up (frD F1 13 (u + 1)) 18 2 (nI 0)) 57 2 (nI 0)) 0 9 (nI 0)) 1 1 (nI 0) = C
    have eC : ∀ b, b ≠ 0 → b ≠ 1 → b ≠ 18 → b ≠ 57 → (b < 13 ∨ 17 < b) → C b = F1 b := fun b z1 z2 z3 z4 z5 => by rw [← hC, q_up_n z2, q_up_n z1, q_up_n z4, q_up_n z3, frD_n z5]
    have eD : ∀ b, 13 ≤ b → b ≤ 17 → C b = frD F1 13 (u + 1) b := fun b z1 z2 => by rw [← hC, q_up_n (by omega), q_up_n (by omega), q_up_n (by omega), q_up_n (by omega)]
    have e72 : C 72 = F 72 := by rw [eC 72 (by omega) (by omega) (by omega) (by omega) (by omega), e1 72 (by omega) (by omega)]
    have e85 : C 85 = F 85 := by rw [eC 85 (by omega) (by omega) (by omega) (by omega) (by omega), e1 85 (by omega) (by omega)]
    obtain ⟨F2, m1, m2, m3, m4, m5', m6, m7, m8, m9⟩ := (s147 (X := X) (t := u) (u := t) (J := J) (F := C) (mt_n hm e72 e85)).2 (by rw [hlp])
    rw [hlp] at m1 m2 m3
    dsimp only at m1 m2 m3
    rw [hr] at m1
    refine ⟨nI n, u, t, C, J, F2, J, ?_, m1, ?_, ⟨T, ?_, m2, hT1⟩, ⟨nw T, ?_, fun i hi => by rw [Nat.zero_add]; exact m3 i hi, nw_ok hT1.1⟩, ?_, ?_, ?_, ?_, ?_⟩
    · have hz : ((0 : Int32) ≤ nI n) = True := n_zl (by omega)
      simp (disch := (first | omega | assumption | rfl | (simp (disch := assumption) only [l9_2, l9_4, l9_5, l9_6, l9_7, l9_9, l9_10, l9_11, l9_12, l9_14, l9_15, l9_16, l9_17, l9_51, l9_52, l9_53, l9_55, l9_56, l9_58, l9_61, l9_73, l9_74, l9_75, l9_76, l9_77, l9_79, l9_80, l9_81, l9_82, l9_83, l9_84, l9_85, l10_59, l10_78, l9_D1, l9_D2, l9_D3, l9_D4, l9_T1, l9_T2, l9_T3, l9_T4]; omega) | decide)) only [e53_0, e53_1, e53_4, e53_7, e53_8, e53_11, e53_12, e53_15, e53_18, e53_19, e53_20, e53_23, e53_24, e53_25, e53_26, e53_29, e53_30, e53_31, e53_32, e53_35, e53_38, e53_39, e53_40, e53_43, e53_44, e53_47, e53_48, e53_51, e53_54, e53_57, e53_58, e53_61, e53_62, e53_65, e53_66, e53_69, e53_70, e53_73, e53_74, e53_75, e53_78, e53_79, e53_82, e53_85, e53_86, e53_87, ↓reduceIte, Nat.reduceAdd, Nat.reduceMul, nI_add, pk_mul, n_lt_t, n_lt_f, n_le_t, n_le_f, n_eq_f, n_eq_t, n_z_f, n_z_t, n_lz, n_zl, not_true_eq_false, not_false_eq_true, c0, c1, Option.bind_some, Option.toList_some, Option.toList_none, List.cons_append, List.nil_append, hz, isD_13, cs1, s31, hC]
    · unfold Rtu; omega
    · obtain ⟨a1, a2, a3, a4, a5⟩ := hR1
      have k : ∀ b, u ≤ b → b ≤ u + 4 → F2 b = F1 b := fun b z1 z2 => by rw [m9 b (by omega) (by omega) (by omega) (by omega) (by omega), eC b (by omega) (by omega) (by omega) (by omega) (by omega)]
      unfold tR
      rw [k (u + 1) (by omega) (by omega), k (u + 3) (by omega) (by omega), k (u + 2) (by omega) (by omega), k (u + 4) (by omega) (by omega), k u (by omega) (by omega)]
      exact ⟨a1, a2, a3, a4, a5⟩
    · exact dR_n (F := frD F1 13 (u + 1)) (fun b i z1 z2 => by rw [m9 b (by omega) (by omega) (by omega) (by omega) (by omega), eD b z1 z2]) (nw_R hR1.1)
    · refine ⟨x0, 0, H, hx0, by omega, ?_, ?_, m4, fun m hm => by omega⟩
      · rw [m9 18 (by omega) (by omega) (by omega) (by omega) (by omega), ← hC]
        simp only [q_app]
        rw [if_neg (by omega), if_neg (by omega), if_neg (by omega), if_neg (by omega), frD_n (by omega), e1 18 (by omega) (by omega), h1]
      · rw [m9 18 (by omega) (by omega) (by omega) (by omega) (by omega), ← hC]
        simp only [q_app]
        rw [if_neg (by omega), if_neg (by omega), if_neg (by omega), if_pos ⟨trivial, trivial⟩]
    · refine ⟨0, fun _ _ => 0, by omega, ?_, fun m hm => ?_, fun m hm hb => by rw [bt_0] at hb; omega⟩
      · rw [m9 0 (by omega) (by omega) (by omega) (by omega) (by omega), ← hC]
        simp only [q_app]
        rw [if_neg (by omega), if_pos ⟨trivial, trivial⟩]
      · rw [bt_0]
        rcases (show m = 0 ∨ m = 1 by omega) with rfl | rfl
        · exact m7
        · exact m8
    · refine ⟨0, fun _ => 0, fun _ => 0, fun _ => 0, by omega, ?_, m5', fun k hk => by omega⟩
      rw [m9 57 (by omega) (by omega) (by omega) (by omega) (by omega), ← hC]
      simp only [q_app]
      rw [if_neg (by omega), if_neg (by omega), if_pos ⟨trivial, trivial⟩]
    · refine ⟨0, x, ⟨by omega, ?_, fun i hi => by omega, hx.2.2.2⟩, by omega, m6, fun i hi => by omega, hx.2.2.2⟩
      rw [m9 1 (by omega) (by omega) (by omega) (by omega) (by omega), ← hC, q_app, if_pos ⟨rfl, rfl⟩]
    · exact RS_n (fun i => by rw [m9 53 (by omega) (by omega) (by omega) (by omega) (by omega), eC 53 (by omega) (by omega) (by omega) (by omega) (by omega), e1 53 (by omega) (by omega)]) hS
  · have hr : rI f n = -10 - nI (f - 1) := if_neg hf
    have e72 : F1 72 = F 72 := e1 72 (by omega) (by omega)
    have e85 : F1 85 = F 85 := e1 85 (by omega) (by omega)
    obtain ⟨F2, m1, m2⟩ := (s147 (X := X) (t := t) (u := u) (J := J) (F := F1) (mt_n hm e72 e85)).1 (by rw [hlp]; exact hf)
    rw [hlp] at m1
    dsimp only at m1
    rw [hr] at m1 c1
    have hz : ((0 : Int32) ≤ -10 - nI (f - 1)) = False := eq_false (rI_neg _ (by omega))
    have q1 : ∀ b i, b ≠ 74 → (b = 72 → i < 16) → b ≠ 1 → (b < u ∨ u + 4 < b) → F2 b i = F b i := fun b i z1 z2 z3 z4 => by rw [m2 b i z1 z2, e1 b z3 z4]
    refine ⟨-10 - nI (f - 1), t, u, F1, J, F2, J, ?_, m1, htu, ?_, ?_, ?_, ?_, ?_, ?_, ?_⟩
    · simp (disch := (first | omega | assumption | rfl | (simp (disch := assumption) only [l9_2, l9_4, l9_5, l9_6, l9_7, l9_9, l9_10, l9_11, l9_12, l9_14, l9_15, l9_16, l9_17, l9_51, l9_52, l9_53, l9_55, l9_56, l9_58, l9_61, l9_73, l9_74, l9_75, l9_76, l9_77, l9_79, l9_80, l9_81, l9_82, l9_83, l9_84, l9_85, l10_59, l10_78, l9_D1, l9_D2, l9_D3, l9_D4, l9_T1, l9_T2, l9_T3, l9_T4]; omega) | decide)) only [e53_0, e53_1, e53_4, e53_7, e53_8, e53_11, e53_12, e53_15, e53_18, e53_19, e53_20, e53_23, e53_24, e53_25, e53_26, e53_29, e53_30, e53_31, e53_32, e53_35, e53_38, e53_39, e53_40, e53_43, e53_44, e53_47, e53_48, e53_51, e53_54, e53_57, e53_58, e53_61, e53_62, e53_65, e53_66, e53_69, e53_70, e53_73, e53_74, e53_75, e53_78, e53_79, e53_82, e53_85, e53_86, e53_87, ↓reduceIte, c0, c1, Option.bind_some, Option.toList_some, Option.toList_none, List.cons_append, List.nil_append, hz]
    · exact RT_n (fun b i hb => q1 b i (by omega) (by omega) (by omega) (by omega)) hT
    · exact RN_n (fun b i hb => q1 b i (by omega) (by omega) (by omega) (by omega)) hN
    · exact RP_n (fun b i hb => q1 b i (by omega) (by omega) (by omega) (by omega)) ⟨x0, p, H, hx0, hp, h1, h2, h3, hH⟩
    · exact RI_n (fun b i hb => q1 b i (by omega) (by omega) (by omega) (by omega)) hI
    · exact RY_n (fun b i hb => q1 b i (by omega) (by omega) (by omega) (by omega)) hY
    · refine RX_n (fun b i hb => ?_) ⟨l, x, hx, hm⟩
      by_cases hb1 : b = 1
      · subst hb1
        obtain rfl : i = 1 := by omega
        rw [m2 1 1 (by omega) (by omega), e11, hx.2.1]
      · exact q1 b i (by omega) (by omega) hb1 (by omega)
    · exact RS_n (fun i => q1 53 i (by omega) (by omega) (by omega) (by omega)) hS
end S77
