/-! ===== calls: type, clear, joins, leaves, drifts, strikes ===== -/
def rmF (F : Nat → Nat → Int32) (x p : Nat) : Nat → Nat → Int32 := q_up (q_up (cpD F (20 + 5 * x) 13) 18 1 (nI ((x + 1) % 6))) 18 2 (nI (if p < 6 then p + 1 else 6))
theorem cpD_n {F : Nat → Nat → Int32} {d e b : Nat} (h : b < d ∨ d + 4 < b) : cpD F d e b = F b := by
  funext i
  simp only [cpD]
  rw [if_neg (by omega), if_neg (by omega), if_neg (by omega), if_neg (by omega), if_neg (by omega)]
theorem pc16 : ∀ o, o < 16 → pcS o 16 = pcS o 4 := by decide +kernel
theorem or_lt : ∀ o, o < 16 → ∀ j, j < 4 → o ||| 1 * 2 ^ j < 16 := by decide +kernel
theorem an_lt : ∀ o, o < 16 → ∀ j, j < 4 → (o &&& (1 * 2 ^ j ^^^ 4294967295)) < 16 := by decide +kernel
section S71
variable {X : Nat × (Nat → Int32)} {t u : Nat} {F G : Nat → Nat → Int32} {J : Nat → Int64} {w : q_M}
theorem rm_n {x p b : Nat} (hx : x < 6) (h : b < 18 ∨ b = 19 ∨ 49 < b) : rmF F x p b = F b := by
  unfold rmF
  rw [q_up_n (by omega), q_up_n (by omega), cpD_n (by omega)]
theorem rm_r {x p b : Nat} (h : 20 ≤ b ∧ b ≤ 49) : rmF F x p b = cpD F (20 + 5 * x) 13 b := by
  unfold rmF
  rw [q_up_n (by omega), q_up_n (by omega)]
theorem rm_1 {x p : Nat} : rmF F x p 18 1 = nI ((x + 1) % 6) := by
  unfold rmF
  simp [q_app]
theorem rm_2 {x p : Nat} : rmF F x p 18 2 = nI (if p < 6 then p + 1 else 6) := by
  unfold rmF
  simp [q_app]
theorem nt_n {p b : Nat} (h : b ≠ 76) (h2 : b ≠ 72) : ntM F p b = F b := by
  funext i
  simp only [ntM]
  split
  · rw [if_neg (by omega), if_neg (by omega)]
  · rw [if_neg (by omega), if_neg (by omega)]
theorem nt_72 {p i : Nat} (h : i ≠ 4) : ntM F p 72 i = F 72 i := by
  simp only [ntM]
  split
  · rw [if_neg (by omega), if_neg (by omega)]
  · rw [if_neg (by omega), if_neg (by omega)]
theorem nt_4 {p : Nat} (hp : p ≤ 6) (h : F 72 4 = nI p) : ntM F p 72 4 = nI (if p < 6 then p + 1 else 6) := by
  simp only [ntM]
  by_cases h6 : p < 6
  · rw [if_pos h6, if_pos h6, if_neg (by omega), if_pos ⟨trivial, trivial⟩]
  · rw [if_neg h6, if_neg h6, if_neg (by omega), if_neg (by omega), h, show p = 6 by omega]
theorem nt_76 {p i : Nat} (h1 : G 75 = F 75) (h2 : G 76 = F 76) : ntM G p 76 i = ntM F p 76 i := by
  simp only [ntM, h1, h2]
theorem Rel_note {x p : Nat} {H : Nat → Nat → Nat} {N : Nat → Nat} (htu : Rtu t u) (hT : RT t F) (hI : RI F) (hY : RY F) (hX : RX F) (hS : RS G) (hN' : RN G) (hx : x < 6) (hp : p ≤ 6) (hH : ∀ m, m < p → dR F (20 + 5 * ((x + 6 - p + m) % 6)) (H m) ∧ mR F 76 (61 * m) (H m) ∧ okR (H m)) (hD : dR F 13 N) (hM : mR F 75 0 N) (hN : okR N) (a1 : ∀ b i, b = 18 ∨ (20 ≤ b ∧ b ≤ 49) → G b i = rmF F x p b i) (a2 : ∀ i, G 76 i = ntM F p 76 i) (a3 : G 72 4 = nI (if p < 6 then p + 1 else 6)) (a4 : ∀ b i, (b ≤ 12 ∨ (57 ≤ b ∧ b ≤ 59) ∨ (62 ≤ b ∧ b ≤ 71) ∨ b = 73 ∨ b = 77 ∨ b = 78 ∨ (82 ≤ b ∧ b ≤ 85) ∨ (b = 72 ∧ (i = 10 ∨ i = 15))) → G b i = F b i) : Rel t u G := by
  have ht2 := htu
  unfold Rtu at ht2
  refine ⟨htu, RT_n (fun b i hb => a4 b i (by omega)) hT, hN', ?_, RI_n (fun b i hb => a4 b i (by omega)) hI, RY_n (fun b i hb => a4 b i (by omega)) hY, RX_n (fun b i hb => a4 b i (by omega)) hX, hS⟩
  refine RP_note (F := F) hx hp hH hD hM hN ?_ ?_ a3 (fun b i h1 h2 => ?_) a2
  · rw [a1 _ _ (by omega)]; exact rm_1
  · rw [a1 _ _ (by omega)]; exact rm_2
  · rw [a1 b i (by omega), rm_r (by omega)]
theorem op0 {y : Int32} (h : Rel t u F) : OK X t u F J 51 [.ref 0, .int y] 139 [.ref 72, .int y] := by
  have hh := h
  obtain ⟨htu, hT, hN, hP, hI, hY, ⟨l, x, hx, hm⟩, hS⟩ := h
  have ht2 := htu
  unfold Rtu at ht2
  rcases i_cases y (k := 256) (by decide) with hb | ⟨c, hc, rfl⟩
  · have h85 := i_bad (k := 255) (by decide) hb
    refine OK_q (r := -1) hh ?_ ?_
    · by_cases h0 : y < 0
      · simp (disch := (first | omega | assumption | rfl | (simp (disch := assumption) only [l9_2, l9_4, l9_5, l9_6, l9_7, l9_9, l9_10, l9_11, l9_12, l9_14, l9_15, l9_16, l9_17, l9_51, l9_52, l9_53, l9_55, l9_56, l9_58, l9_61, l9_73, l9_74, l9_75, l9_76, l9_77, l9_79, l9_80, l9_81, l9_82, l9_83, l9_84, l9_85, l10_59, l10_78, l9_D1, l9_D2, l9_D3, l9_D4, l9_T1, l9_T2, l9_T3, l9_T4]; omega) | decide)) only [e51_0, e51_1, e51_4, e51_5, e51_8, e51_11, e51_12, e51_13, e51_14, e51_17, e51_18, e51_21, e51_24, e51_25, e51_28, e51_31, e51_34, e51_36, ↓reduceIte, Nat.reduceAdd, Nat.reduceMul, nI_add, pk_mul, n_lt_t, n_lt_f, n_le_t, n_le_f, n_eq_f, n_eq_t, n_z_f, n_z_t, n_lz, n_zl, not_true_eq_false, not_false_eq_true, h0]
      · have h1 : ¬ y ≤ nI 255 := fun z => h85 ⟨Int32.not_lt.mp h0, z⟩
        simp (disch := (first | omega | assumption | rfl | (simp (disch := assumption) only [l9_2, l9_4, l9_5, l9_6, l9_7, l9_9, l9_10, l9_11, l9_12, l9_14, l9_15, l9_16, l9_17, l9_51, l9_52, l9_53, l9_55, l9_56, l9_58, l9_61, l9_73, l9_74, l9_75, l9_76, l9_77, l9_79, l9_80, l9_81, l9_82, l9_83, l9_84, l9_85, l10_59, l10_78, l9_D1, l9_D2, l9_D3, l9_D4, l9_T1, l9_T2, l9_T3, l9_T4]; omega) | decide)) only [e51_0, e51_1, e51_4, e51_5, e51_8, e51_11, e51_12, e51_13, e51_14, e51_17, e51_18, e51_21, e51_24, e51_25, e51_28, e51_31, e51_34, e51_36, ↓reduceIte, Nat.reduceAdd, Nat.reduceMul, nI_add, pk_mul, n_lt_t, n_lt_f, n_le_t, n_le_f, n_eq_f, n_eq_t, n_z_f, n_z_t, n_lz, n_zl, not_true_eq_false, not_false_eq_true, h0, h1]
    · simp (disch := (first | omega | assumption | rfl | (simp (disch := assumption) only [l9_2, l9_4, l9_5, l9_6, l9_7, l9_9, l9_10, l9_11, l9_12, l9_14, l9_15, l9_16, l9_17, l9_51, l9_52, l9_53, l9_55, l9_56, l9_58, l9_61, l9_73, l9_74, l9_75, l9_76, l9_77, l9_79, l9_80, l9_81, l9_82, l9_83, l9_84, l9_85, l10_59, l10_78, l9_D1, l9_D2, l9_D3, l9_D4, l9_T1, l9_T2, l9_T3, l9_T4]; omega) | decide)) only [e139_0, e139_1, e139_2, e139_5, e139_8, e139_11, e139_12, e139_13, e139_14, e139_17, e139_20, e139_23, e139_25, e139_26, e139_27, e139_30, e139_31, e139_34, e139_35, e139_36, e139_37, e139_38, e139_41, e139_42, e139_43, e139_46, e139_47, e139_50, ↓reduceIte, Nat.reduceAdd, Nat.reduceMul, nI_add, pk_mul, n_lt_t, n_lt_f, n_le_t, n_le_f, n_eq_f, n_eq_t, n_z_f, n_z_t, n_lz, n_zl, not_true_eq_false, not_false_eq_true, s85_f h85, Option.bind_some, Option.toList_some, Option.toList_none, List.cons_append, List.nil_append]
  · have hl := hx.1
    by_cases hl2 : l < 160
    · have hL := hx.2.1
      have hL2 := hm.2.1
      refine ⟨nI (l + 1), t, u, q_up (q_up F 2 l (nI c)) 1 1 (nI (l + 1)), J, q_up (q_up (q_up (q_up F 2 l (nI c)) 1 1 (nI (l + 1))) 85 l (nI c)) 72 15 (nI (l + 1)), J, ?_, ?_, htu, ?_, ?_, ?_, ?_, ?_, ?_, ?_⟩
      · have r1 : q_up (q_up F 2 l (nI c)) 1 1 (nI (l + 1)) 1 1 = nI (l + 1) := by simp [q_app]
        simp (disch := (first | omega | assumption | rfl | (simp (disch := assumption) only [l9_2, l9_4, l9_5, l9_6, l9_7, l9_9, l9_10, l9_11, l9_12, l9_14, l9_15, l9_16, l9_17, l9_51, l9_52, l9_53, l9_55, l9_56, l9_58, l9_61, l9_73, l9_74, l9_75, l9_76, l9_77, l9_79, l9_80, l9_81, l9_82, l9_83, l9_84, l9_85, l10_59, l10_78, l9_D1, l9_D2, l9_D3, l9_D4, l9_T1, l9_T2, l9_T3, l9_T4]; omega) | decide)) only [e51_0, e51_1, e51_4, e51_5, e51_8, e51_11, e51_12, e51_13, e51_14, e51_17, e51_18, e51_21, e51_24, e51_25, e51_28, e51_31, e51_34, e51_36, ↓reduceIte, Nat.reduceAdd, Nat.reduceMul, nI_add, pk_mul, n_lt_t, n_lt_f, n_le_t, n_le_f, n_eq_f, n_eq_t, n_z_f, n_z_t, n_lz, n_zl, not_true_eq_false, not_false_eq_true, s30_t hl2 hL, Option.bind_some, Option.toList_some, Option.toList_none, List.cons_append, List.nil_append, r1]
      · have r1 : q_up (q_up F 2 l (nI c)) 1 1 (nI (l + 1)) 72 15 = nI l := by simp only [q_app]; rw [if_neg (by omega), if_neg (by omega), hL2]
        have r2 : q_up (q_up (q_up F 2 l (nI c)) 1 1 (nI (l + 1))) 85 l (nI c) 72 15 = nI l := by rw [q_up_n (by omega)]; exact r1
        have r3 : q_up (q_up (q_up (q_up F 2 l (nI c)) 1 1 (nI (l + 1))) 85 l (nI c)) 72 15 (nI (l + 1)) 72 15 = nI (l + 1) := by rw [q_app, if_pos ⟨rfl, rfl⟩]
        simp (disch := (first | omega | assumption | rfl | (simp (disch := assumption) only [l9_2, l9_4, l9_5, l9_6, l9_7, l9_9, l9_10, l9_11, l9_12, l9_14, l9_15, l9_16, l9_17, l9_51, l9_52, l9_53, l9_55, l9_56, l9_58, l9_61, l9_73, l9_74, l9_75, l9_76, l9_77, l9_79, l9_80, l9_81, l9_82, l9_83, l9_84, l9_85, l10_59, l10_78, l9_D1, l9_D2, l9_D3, l9_D4, l9_T1, l9_T2, l9_T3, l9_T4]; omega) | decide)) only [e139_0, e139_1, e139_2, e139_5, e139_8, e139_11, e139_12, e139_13, e139_14, e139_17, e139_20, e139_23, e139_25, e139_26, e139_27, e139_30, e139_31, e139_34, e139_35, e139_36, e139_37, e139_38, e139_41, e139_42, e139_43, e139_46, e139_47, e139_50, ↓reduceIte, Nat.reduceAdd, Nat.reduceMul, nI_add, pk_mul, n_lt_t, n_lt_f, n_le_t, n_le_f, n_eq_f, n_eq_t, n_z_f, n_z_t, n_lz, n_zl, not_true_eq_false, not_false_eq_true, s85_t, Option.bind_some, Option.toList_some, Option.toList_none, List.cons_append, List.nil_append, r1, r2, r3]
      · exact RT_n (fun b i hb => by simp only [q_app]; rw [if_neg (by omega), if_neg (by omega), if_neg (by omega), if_neg (by omega)]) hT
      · exact RN_n (fun b i hb => by simp only [q_app]; rw [if_neg (by omega), if_neg (by omega), if_neg (by omega), if_neg (by omega)]) hN
      · exact RP_n (fun b i hb => by simp only [q_app]; rw [if_neg (by omega), if_neg (by omega), if_neg (by omega), if_neg (by omega)]) hP
      · exact RI_n (fun b i hb => by simp only [q_app]; rw [if_neg (by omega), if_neg (by omega), if_neg (by omega), if_neg (by omega)]) hI
      · exact RY_n (fun b i hb => by simp only [q_app]; rw [if_neg (by omega), if_neg (by omega), if_neg (by omega), if_neg (by omega)]) hY
      · refine ⟨l + 1, updN x l c, ⟨by omega, by simp [q_app], fun i hi => ?_, fun i => ?_⟩, by omega, by simp [q_app], fun i hi => ?_, fun i => ?_⟩
        · by_cases hil : i = l
          · subst hil; simp [q_app, updN]
          · have := hx.2.2.1 i (by omega)
            simp [q_app, updN, hil, this]
        · simp only [updN]; split
          · omega
          · exact hx.2.2.2 i
        · by_cases hil : i = l
          · subst hil; simp [q_app, updN]
          · have := hm.2.2.1 i (by omega)
            simp [q_app, updN, hil, this]
        · simp only [updN]; split
          · omega
          · exact hx.2.2.2 i
      · exact RS_n (fun i => by simp only [q_app]; rw [if_neg (by omega), if_neg (by omega), if_neg (by omega), if_neg (by omega)]) hS
    · obtain rfl : l = 160 := by omega
      have hL := hx.2.1
      have hL2 := hm.2.1
      refine OK_q (r := -3) hh ?_ ?_
      · simp (disch := (first | omega | assumption | rfl | (simp (disch := assumption) only [l9_2, l9_4, l9_5, l9_6, l9_7, l9_9, l9_10, l9_11, l9_12, l9_14, l9_15, l9_16, l9_17, l9_51, l9_52, l9_53, l9_55, l9_56, l9_58, l9_61, l9_73, l9_74, l9_75, l9_76, l9_77, l9_79, l9_80, l9_81, l9_82, l9_83, l9_84, l9_85, l10_59, l10_78, l9_D1, l9_D2, l9_D3, l9_D4, l9_T1, l9_T2, l9_T3, l9_T4]; omega) | decide)) only [e51_0, e51_1, e51_4, e51_5, e51_8, e51_11, e51_12, e51_13, e51_14, e51_17, e51_18, e51_21, e51_24, e51_25, e51_28, e51_31, e51_34, e51_36, ↓reduceIte, Nat.reduceAdd, Nat.reduceMul, nI_add, pk_mul, n_lt_t, n_lt_f, n_le_t, n_le_f, n_eq_f, n_eq_t, n_z_f, n_z_t, n_lz, n_zl, not_true_eq_false, not_false_eq_true, s30_f hL, Option.bind_some, Option.toList_some, Option.toList_none, List.cons_append, List.nil_append]
      · simp (disch := (first | omega | assumption | rfl | (simp (disch := assumption) only [l9_2, l9_4, l9_5, l9_6, l9_7, l9_9, l9_10, l9_11, l9_12, l9_14, l9_15, l9_16, l9_17, l9_51, l9_52, l9_53, l9_55, l9_56, l9_58, l9_61, l9_73, l9_74, l9_75, l9_76, l9_77, l9_79, l9_80, l9_81, l9_82, l9_83, l9_84, l9_85, l10_59, l10_78, l9_D1, l9_D2, l9_D3, l9_D4, l9_T1, l9_T2, l9_T3, l9_T4]; omega) | decide)) only [e139_0, e139_1, e139_2, e139_5, e139_8, e139_11, e139_12, e139_13, e139_14, e139_17, e139_20, e139_23, e139_25, e139_26, e139_27, e139_30, e139_31, e139_34, e139_35, e139_36, e139_37, e139_38, e139_41, e139_42, e139_43, e139_46, e139_47, e139_50, ↓reduceIte, Nat.reduceAdd, Nat.reduceMul, nI_add, pk_mul, n_lt_t, n_lt_f, n_le_t, n_le_f, n_eq_f, n_eq_t, n_z_f, n_z_t, n_lz, n_zl, not_true_eq_false, not_false_eq_true, s85_t, Option.bind_some, Option.toList_some, Option.toList_none, List.cons_append, List.nil_append, hL2]
theorem op1 (h : Rel t u F) : OK X t u F J 52 [.ref 0] 140 [.ref 72, .null] := by
  obtain ⟨htu, hT, hN, hP, hI, hY, ⟨l, x, hx, hm⟩, hS⟩ := h
  have ht2 := htu
  unfold Rtu at ht2
  have hL := hx.2.1
  have hL2 := hm.2.1
  refine ⟨nI l, t, u, q_up F 1 1 (nI 0), J, q_up (q_up F 1 1 (nI 0)) 72 15 (nI 0), J, ?_, ?_, htu, ?_, ?_, ?_, ?_, ?_, ?_, ?_⟩
  · simp (disch := (first | omega | assumption | rfl | (simp (disch := assumption) only [l9_2, l9_4, l9_5, l9_6, l9_7, l9_9, l9_10, l9_11, l9_12, l9_14, l9_15, l9_16, l9_17, l9_51, l9_52, l9_53, l9_55, l9_56, l9_58, l9_61, l9_73, l9_74, l9_75, l9_76, l9_77, l9_79, l9_80, l9_81, l9_82, l9_83, l9_84, l9_85, l10_59, l10_78, l9_D1, l9_D2, l9_D3, l9_D4, l9_T1, l9_T2, l9_T3, l9_T4]; omega) | decide)) only [e52_0, e52_1, e52_4, e52_7, s31, Option.bind_some, Option.toList_some, Option.toList_none, List.cons_append, List.nil_append, hL]
  · simp (disch := (first | omega | assumption | rfl | (simp (disch := assumption) only [l9_2, l9_4, l9_5, l9_6, l9_7, l9_9, l9_10, l9_11, l9_12, l9_14, l9_15, l9_16, l9_17, l9_51, l9_52, l9_53, l9_55, l9_56, l9_58, l9_61, l9_73, l9_74, l9_75, l9_76, l9_77, l9_79, l9_80, l9_81, l9_82, l9_83, l9_84, l9_85, l10_59, l10_78, l9_D1, l9_D2, l9_D3, l9_D4, l9_T1, l9_T2, l9_T3, l9_T4]; omega) | decide)) only [e140_0, e140_1, e140_4, e140_5, e140_6, e140_7, e140_10, e140_11, q_up_n, hL2]
  · exact RT_n (fun b i hb => by simp only [q_app]; rw [if_neg (by omega), if_neg (by omega)]) hT
  · exact RN_n (fun b i hb => by simp only [q_app]; rw [if_neg (by omega), if_neg (by omega)]) hN
  · exact RP_n (fun b i hb => by simp only [q_app]; rw [if_neg (by omega), if_neg (by omega)]) hP
  · exact RI_n (fun b i hb => by simp only [q_app]; rw [if_neg (by omega), if_neg (by omega)]) hI
  · exact RY_n (fun b i hb => by simp only [q_app]; rw [if_neg (by omega), if_neg (by omega)]) hY
  · exact ⟨0, x, ⟨by omega, by simp [q_app], fun i hi => by omega, hx.2.2.2⟩, by omega, by simp [q_app], fun i hi => by omega, hx.2.2.2⟩
  · exact RS_n (fun i => by simp only [q_app]; rw [if_neg (by omega), if_neg (by omega)]) hS
theorem s7' {x p : Nat} (hx : x < 6) (hp : p ≤ 6) (h1 : F 18 1 = nI x) (h2 : F 18 2 = nI p) : q_ex X (7, 0, [.ref 18, .ref 13], [], q_w t u F J) = some (none, q_w t u (rmF F x p) J) := s7 hx hp h1 h2
theorem op3 {y : Int32} (h : Rel t u F) : OK X t u F J 54 [.ref 0, .int y] 96 [.ref 72, .int y] := by
  have hh := h
  obtain ⟨htu, hT, ⟨N, hD, hM, hok⟩, ⟨x, p, H, hx, hp, h1, h2, h3, hH⟩, hI, hY, hX, hS⟩ := h
  have hO := hD.1
  have hO2 : F 75 0 = nI (N 0) := hM 0 (by omega)
  have ho := hok.1
  rcases i_cases y (k := 4) (by decide) with hb | ⟨j, hj, rfl⟩
  · refine OK_q (r := -1) hh ?_ ?_
    · simp (disch := (first | omega | assumption | rfl | (simp (disch := assumption) only [l9_2, l9_4, l9_5, l9_6, l9_7, l9_9, l9_10, l9_11, l9_12, l9_14, l9_15, l9_16, l9_17, l9_51, l9_52, l9_53, l9_55, l9_56, l9_58, l9_61, l9_73, l9_74, l9_75, l9_76, l9_77, l9_79, l9_80, l9_81, l9_82, l9_83, l9_84, l9_85, l10_59, l10_78, l9_D1, l9_D2, l9_D3, l9_D4, l9_T1, l9_T2, l9_T3, l9_T4]; omega) | decide)) only [e54_0, e54_1, e54_4, e54_7, e54_8, e54_9, e54_10, e54_13, e54_14, e54_17, e54_20, e54_22, e54_23, e54_24, e54_27, e54_28, e54_31, e54_34, e54_35, e54_38, e54_39, e54_42, e54_43, e54_44, e54_45, e54_46, e54_49, e54_50, e54_53, e54_56, e54_59, ↓reduceIte, Nat.reduceAdd, Nat.reduceMul, nI_add, pk_mul, n_lt_t, n_lt_f, n_le_t, n_le_f, n_eq_f, n_eq_t, n_z_f, n_z_t, n_lz, n_zl, not_true_eq_false, not_false_eq_true, s76_f hb, Option.bind_some, Option.toList_some, Option.toList_none, List.cons_append, List.nil_append]
    · simp (disch := (first | omega | assumption | rfl | (simp (disch := assumption) only [l9_2, l9_4, l9_5, l9_6, l9_7, l9_9, l9_10, l9_11, l9_12, l9_14, l9_15, l9_16, l9_17, l9_51, l9_52, l9_53, l9_55, l9_56, l9_58, l9_61, l9_73, l9_74, l9_75, l9_76, l9_77, l9_79, l9_80, l9_81, l9_82, l9_83, l9_84, l9_85, l10_59, l10_78, l9_D1, l9_D2, l9_D3, l9_D4, l9_T1, l9_T2, l9_T3, l9_T4]; omega) | decide)) only [e96_0, e96_1, e96_4, e96_7, e96_8, e96_9, e96_10, e96_11, e96_14, e96_17, e96_19, e96_20, e96_21, e96_24, e96_25, e96_28, e96_29, e96_30, e96_31, e96_32, e96_33, e96_34, e96_35, e96_36, e96_37, e96_40, e96_41, e96_42, e96_45, ↓reduceIte, Nat.reduceAdd, Nat.reduceMul, nI_add, pk_mul, n_lt_t, n_lt_f, n_le_t, n_le_f, n_eq_f, n_eq_t, n_z_f, n_z_t, n_lz, n_zl, not_true_eq_false, not_false_eq_true, s87_f hb, Option.bind_some, Option.toList_some, Option.toList_none, List.cons_append, List.nil_append]
  · have hbt := bt_lt (N 0) j
    by_cases hbj : bt (N 0) j = 1
    · refine OK_q (r := -2) hh ?_ ?_
      · simp (disch := (first | omega | assumption | rfl | (simp (disch := assumption) only [l9_2, l9_4, l9_5, l9_6, l9_7, l9_9, l9_10, l9_11, l9_12, l9_14, l9_15, l9_16, l9_17, l9_51, l9_52, l9_53, l9_55, l9_56, l9_58, l9_61, l9_73, l9_74, l9_75, l9_76, l9_77, l9_79, l9_80, l9_81, l9_82, l9_83, l9_84, l9_85, l10_59, l10_78, l9_D1, l9_D2, l9_D3, l9_D4, l9_T1, l9_T2, l9_T3, l9_T4]; omega) | decide)) only [e54_0, e54_1, e54_4, e54_7, e54_8, e54_9, e54_10, e54_13, e54_14, e54_17, e54_20, e54_22, e54_23, e54_24, e54_27, e54_28, e54_31, e54_34, e54_35, e54_38, e54_39, e54_42, e54_43, e54_44, e54_45, e54_46, e54_49, e54_50, e54_53, e54_56, e54_59, ↓reduceIte, Nat.reduceAdd, Nat.reduceMul, nI_add, pk_mul, n_lt_t, n_lt_f, n_le_t, n_le_f, n_eq_f, n_eq_t, n_z_f, n_z_t, n_lz, n_zl, not_true_eq_false, not_false_eq_true, s76_t, s4 hO ho hj, hbj, Option.bind_some, Option.toList_some, Option.toList_none, List.cons_append, List.nil_append]
      · simp (disch := (first | omega | assumption | rfl | (simp (disch := assumption) only [l9_2, l9_4, l9_5, l9_6, l9_7, l9_9, l9_10, l9_11, l9_12, l9_14, l9_15, l9_16, l9_17, l9_51, l9_52, l9_53, l9_55, l9_56, l9_58, l9_61, l9_73, l9_74, l9_75, l9_76, l9_77, l9_79, l9_80, l9_81, l9_82, l9_83, l9_84, l9_85, l10_59, l10_78, l9_D1, l9_D2, l9_D3, l9_D4, l9_T1, l9_T2, l9_T3, l9_T4]; omega) | decide)) only [e96_0, e96_1, e96_4, e96_7, e96_8, e96_9, e96_10, e96_11, e96_14, e96_17, e96_19, e96_20, e96_21, e96_24, e96_25, e96_28, e96_29, e96_30, e96_31, e96_32, e96_33, e96_34, e96_35, e96_36, e96_37, e96_40, e96_41, e96_42, e96_45, ↓reduceIte, Nat.reduceAdd, Nat.reduceMul, nI_add, pk_mul, n_lt_t, n_lt_f, n_le_t, n_le_f, n_eq_f, n_eq_t, n_z_f, n_z_t, n_lz, n_zl, not_true_eq_false, not_false_eq_true, s87_t, s88_t hO2 ho hj, hbj, Option.bind_some, Option.toList_some, Option.toList_none, List.cons_append, List.nil_append]
    · have hb0 : bt (N 0) j = 0 := by omega
      have hor := or_lt (N 0) ho j hj
      have h2k : 1 * 2 ^ j < 2 ^ 32 := by
        have : 2 ^ j ≤ 2 ^ 4 := Nat.pow_le_pow_right (by decide) (by omega)
        omega
      have g13 : rmF F x p 13 0 = nI (N 0) := by rw [rm_n hx (by omega), hO]
      have g75 : q_up (rmF F x p) 13 0 (nI (N 0 ||| 1 * 2 ^ j)) 75 0 = nI (N 0) := by rw [q_up_n (by omega), rm_n hx (by omega), hO2]
      have g72 : q_up (rmF F x p) 13 0 (nI (N 0 ||| 1 * 2 ^ j)) 72 4 = nI p := by rw [q_up_n (by omega), rm_n hx (by omega), h3]
      have n75 : ntM (q_up (rmF F x p) 13 0 (nI (N 0 ||| 1 * 2 ^ j))) p 75 0 = nI (N 0) := by rw [nt_n (by omega) (by omega), g75]
      have r13 : q_up (rmF F x p) 13 0 (nI (N 0 ||| 1 * 2 ^ j)) 13 0 = nI (N 0 ||| 1 * 2 ^ j) := by rw [q_app, if_pos ⟨rfl, rfl⟩]
      have r75 : q_up (ntM (q_up (rmF F x p) 13 0 (nI (N 0 ||| 1 * 2 ^ j))) p) 75 0 (nI (N 0 ||| 1 * 2 ^ j)) 75 0 = nI (N 0 ||| 1 * 2 ^ j) := by rw [q_app, if_pos ⟨rfl, rfl⟩]
      refine ⟨nI (pcS (N 0 ||| 1 * 2 ^ j) 4), t, u, q_up (rmF F x p) 13 0 (nI (N 0 ||| 1 * 2 ^ j)), J, q_up (ntM (q_up (rmF F x p) 13 0 (nI (N 0 ||| 1 * 2 ^ j))) p) 75 0 (nI (N 0 ||| 1 * 2 ^ j)), J, ?_, ?_, ?_⟩
      · rw [← pc16 _ hor]
        simp (disch := (first | omega | assumption | rfl | (simp (disch := assumption) only [l9_2, l9_4, l9_5, l9_6, l9_7, l9_9, l9_10, l9_11, l9_12, l9_14, l9_15, l9_16, l9_17, l9_51, l9_52, l9_53, l9_55, l9_56, l9_58, l9_61, l9_73, l9_74, l9_75, l9_76, l9_77, l9_79, l9_80, l9_81, l9_82, l9_83, l9_84, l9_85, l10_59, l10_78, l9_D1, l9_D2, l9_D3, l9_D4, l9_T1, l9_T2, l9_T3, l9_T4]; omega) | decide)) only [e54_0, e54_1, e54_4, e54_7, e54_8, e54_9, e54_10, e54_13, e54_14, e54_17, e54_20, e54_22, e54_23, e54_24, e54_27, e54_28, e54_31, e54_34, e54_35, e54_38, e54_39, e54_42, e54_43, e54_44, e54_45, e54_46, e54_49, e54_50, e54_53, e54_56, e54_59, ↓reduceIte, Nat.reduceAdd, Nat.reduceMul, nI_add, pk_mul, n_lt_t, n_lt_f, n_le_t, n_le_f, n_eq_f, n_eq_t, n_z_f, n_z_t, n_lz, n_zl, not_true_eq_false, not_false_eq_true, s76_t, s4 hO ho hj, hb0, Option.bind_some, Option.toList_some, Option.toList_none, List.cons_append, List.nil_append, s7' hx hp h1 h2, isD_13, g13, n_shl, n_or, r13, s148]
      · simp (disch := (first | omega | assumption | rfl | (simp (disch := assumption) only [l9_2, l9_4, l9_5, l9_6, l9_7, l9_9, l9_10, l9_11, l9_12, l9_14, l9_15, l9_16, l9_17, l9_51, l9_52, l9_53, l9_55, l9_56, l9_58, l9_61, l9_73, l9_74, l9_75, l9_76, l9_77, l9_79, l9_80, l9_81, l9_82, l9_83, l9_84, l9_85, l10_59, l10_78, l9_D1, l9_D2, l9_D3, l9_D4, l9_T1, l9_T2, l9_T3, l9_T4]; omega) | decide)) only [e96_0, e96_1, e96_4, e96_7, e96_8, e96_9, e96_10, e96_11, e96_14, e96_17, e96_19, e96_20, e96_21, e96_24, e96_25, e96_28, e96_29, e96_30, e96_31, e96_32, e96_33, e96_34, e96_35, e96_36, e96_37, e96_40, e96_41, e96_42, e96_45, ↓reduceIte, Nat.reduceAdd, Nat.reduceMul, nI_add, pk_mul, n_lt_t, n_lt_f, n_le_t, n_le_f, n_eq_f, n_eq_t, n_z_f, n_z_t, n_lz, n_zl, not_true_eq_false, not_false_eq_true, s87_t, s88_t g75 ho hj, hb0, Option.bind_some, Option.toList_some, Option.toList_none, List.cons_append, List.nil_append, s95 hp g72, n75, n_shl, n_or, r75, s89]
      · refine Rel_note htu hT hI hY hX ?_ ?_ hx hp hH hD hM hok ?_ ?_ ?_ ?_
        · exact RS_n (fun i => by rw [q_up_n (by omega), nt_n (by omega) (by omega), q_up_n (by omega), rm_n hx (by omega)]) hS
        · refine ⟨updN N 0 (N 0 ||| 1 * 2 ^ j), ⟨?_, fun i hi => ?_⟩, fun i hi => ?_, ?_⟩
          · rw [q_up_n (by omega), nt_n (by omega) (by omega), r13]; rfl
          · obtain ⟨d1, d2, d3, d4⟩ := hD.2 i hi
            refine ⟨?_, ?_, ?_, fun h12 => ?_⟩
            · rw [q_up_n (by omega), nt_n (by omega) (by omega), q_up_n (by omega), rm_n hx (by omega), d1]; simp only [updN]; rw [if_neg (by omega)]
            · rw [q_up_n (by omega), nt_n (by omega) (by omega), q_up_n (by omega), rm_n hx (by omega), d2]; simp only [updN]; rw [if_neg (by omega)]
            · rw [q_up_n (by omega), nt_n (by omega) (by omega), q_up_n (by omega), rm_n hx (by omega), d3]; simp only [updN]; rw [if_neg (by omega)]
            · rw [q_up_n (by omega), nt_n (by omega) (by omega), q_up_n (by omega), rm_n hx (by omega), d4 h12]; simp only [updN]; rw [if_neg (by omega)]
          · rw [Nat.zero_add]
            by_cases hi0 : i = 0
            · subst hi0; rw [r75]; rfl
            · rw [q_app, if_neg (by omega), nt_n (by omega) (by omega), q_up_n (by omega), rm_n hx (by omega)]
              have := hM i hi
              rw [Nat.zero_add] at this
              rw [this]; simp only [updN]; rw [if_neg hi0]
          · refine ⟨by simp only [updN]; exact hor, fun i hi => ?_⟩
            obtain ⟨d1, d2, d3, d4⟩ := hok.2 i hi
            simp only [updN]
            rw [if_neg (by omega), if_neg (by omega), if_neg (by omega), if_neg (by omega)]
            exact ⟨d1, d2, d3, d4⟩
        · intro b i hb
          rw [q_up_n (by omega), nt_n (by omega) (by omega), q_up_n (by omega)]
        · intro i
          rw [q_up_n (by omega)]
          exact nt_76 (by rw [q_up_n (by omega), rm_n hx (by omega)]) (by rw [q_up_n (by omega), rm_n hx (by omega)])
        · rw [q_up_n (by omega)]; exact nt_4 hp g72
        · intro b i hb
          by_cases h72 : b = 72
          · subst h72
            rw [q_up_n (by omega), nt_72 (by omega), q_up_n (by omega), rm_n hx (by omega)]
          · rw [q_up_n (by omega), nt_n (by omega) (by omega), q_up_n (by omega), rm_n hx (by omega)]
end S71
