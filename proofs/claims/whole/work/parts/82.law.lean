/-! ===== the law's loop ===== -/
theorem i_nI (x : Int32) : ∃ n, x = nI n := ⟨x.toBitVec.toNat, by
  apply Int32.toBitVec_inj.mp
  simp [nI]⟩
theorem i_31 (x : Int32) : ∃ v, v < 32 ∧ x &&& nI 31 = nI v := by
  obtain ⟨n, rfl⟩ := i_nI x
  refine ⟨n &&& 31, ?_, n_and n 31⟩
  have := Nat.and_le_right (n := n) (m := 31)
  omega
theorem lo_7 : ∀ l, l < 7 → nI l - nI 7 < 0 := by decide
/-- the state at the loop's head -/
abbrev hd (i : Nat) : List Value := [.float 2, .ref 0, .ref 72, .int (nI i)]
section S82
variable {X : Nat × (Nat → Int32)} {t u i : Nat} {F : Nat → Nat → Int32} {J : Nat → Int64}
theorem lc0 (hX : X.1 ≤ 3584) (hi : i + 7 ≤ X.1) (h : Rel t u F) : ∃ t' u' F' J', q_ex X (151, 148, hd i, [], q_w t u F J) = q_ex X (151, 825, hd i, [], q_w t' u' F' J') ∧ Rel t' u' F' := by
  obtain ⟨r, t', u', F1, J1, F2, J2, c1, c2, hR⟩ := op0 (X := X) (t := t) (u := u) (F := F) (J := J) (y := X.2 (i + 1)) h
  refine ⟨t', u', F2, J2, ?_, hR⟩
  simp (disch := (first | omega | assumption | rfl | (simp (disch := assumption) only [l9_2, l9_4, l9_5, l9_6, l9_7, l9_9, l9_10, l9_11, l9_12, l9_14, l9_15, l9_16, l9_17, l9_51, l9_52, l9_53, l9_55, l9_56, l9_58, l9_61, l9_73, l9_74, l9_75, l9_76, l9_77, l9_79, l9_80, l9_81, l9_82, l9_83, l9_84, l9_85, l10_59, l10_78, l9_D1, l9_D2, l9_D3, l9_D4, l9_T1, l9_T2, l9_T3, l9_T4]; omega) | decide)) only [hd, e151_148, e151_149, e151_150, e151_151, e151_152, e151_153, e151_154, e151_157, e151_158, e151_159, e151_160, e151_161, e151_162, e151_163, e151_166, ↓reduceIte, Nat.reduceAdd, Nat.reduceMul, nI_add, pk_mul, n_lt_t, n_lt_f, n_le_t, n_le_f, n_eq_f, n_eq_t, n_z_f, n_z_t, n_lz, n_zl, not_true_eq_false, not_false_eq_true, c1, c2, Option.bind_some, Option.toList_some, Option.toList_none, List.cons_append, List.nil_append]
theorem lc1 (hX : X.1 ≤ 3584) (hi : i + 7 ≤ X.1) (h : Rel t u F) : ∃ t' u' F' J', q_ex X (151, 171, hd i, [], q_w t u F J) = q_ex X (151, 825, hd i, [], q_w t' u' F' J') ∧ Rel t' u' F' := by
  obtain ⟨r, t', u', F1, J1, F2, J2, c1, c2, hR⟩ := op1 (X := X) (t := t) (u := u) (F := F) (J := J) h
  refine ⟨t', u', F2, J2, ?_, hR⟩
  simp (disch := (first | omega | assumption | rfl | (simp (disch := assumption) only [l9_2, l9_4, l9_5, l9_6, l9_7, l9_9, l9_10, l9_11, l9_12, l9_14, l9_15, l9_16, l9_17, l9_51, l9_52, l9_53, l9_55, l9_56, l9_58, l9_61, l9_73, l9_74, l9_75, l9_76, l9_77, l9_79, l9_80, l9_81, l9_82, l9_83, l9_84, l9_85, l10_59, l10_78, l9_D1, l9_D2, l9_D3, l9_D4, l9_T1, l9_T2, l9_T3, l9_T4]; omega) | decide)) only [hd, e151_171, e151_172, e151_175, e151_176, e151_179, ↓reduceIte, Nat.reduceAdd, Nat.reduceMul, nI_add, pk_mul, n_lt_t, n_lt_f, n_le_t, n_le_f, n_eq_f, n_eq_t, n_z_f, n_z_t, n_lz, n_zl, not_true_eq_false, not_false_eq_true, c1, c2, Option.bind_some, Option.toList_some, Option.toList_none, List.cons_append, List.nil_append]
theorem lc2 (hX : X.1 ≤ 3584) (hi : i + 7 ≤ X.1) (h : Rel t u F) : ∃ t' u' F' J', q_ex X (151, 184, hd i, [], q_w t u F J) = q_ex X (151, 825, hd i, [], q_w t' u' F' J') ∧ Rel t' u' F' := by
  obtain ⟨r, t', u', F1, J1, F2, J2, c1, c2, hR⟩ := op2 (X := X) (t := t) (u := u) (F := F) (J := J) h
  refine ⟨t', u', F2, J2, ?_, hR⟩
  simp (disch := (first | omega | assumption | rfl | (simp (disch := assumption) only [l9_2, l9_4, l9_5, l9_6, l9_7, l9_9, l9_10, l9_11, l9_12, l9_14, l9_15, l9_16, l9_17, l9_51, l9_52, l9_53, l9_55, l9_56, l9_58, l9_61, l9_73, l9_74, l9_75, l9_76, l9_77, l9_79, l9_80, l9_81, l9_82, l9_83, l9_84, l9_85, l10_59, l10_78, l9_D1, l9_D2, l9_D3, l9_D4, l9_T1, l9_T2, l9_T3, l9_T4]; omega) | decide)) only [hd, e151_184, e151_185, e151_188, e151_189, e151_192, ↓reduceIte, Nat.reduceAdd, Nat.reduceMul, nI_add, pk_mul, n_lt_t, n_lt_f, n_le_t, n_le_f, n_eq_f, n_eq_t, n_z_f, n_z_t, n_lz, n_zl, not_true_eq_false, not_false_eq_true, c1, c2, Option.bind_some, Option.toList_some, Option.toList_none, List.cons_append, List.nil_append]
theorem lc3 (hX : X.1 ≤ 3584) (hi : i + 7 ≤ X.1) (h : Rel t u F) : ∃ t' u' F' J', q_ex X (151, 197, hd i, [], q_w t u F J) = q_ex X (151, 825, hd i, [], q_w t' u' F' J') ∧ Rel t' u' F' := by
  obtain ⟨r, t', u', F1, J1, F2, J2, c1, c2, hR⟩ := op3 (X := X) (t := t) (u := u) (F := F) (J := J) (y := X.2 (i + 1)) h
  refine ⟨t', u', F2, J2, ?_, hR⟩
  simp (disch := (first | omega | assumption | rfl | (simp (disch := assumption) only [l9_2, l9_4, l9_5, l9_6, l9_7, l9_9, l9_10, l9_11, l9_12, l9_14, l9_15, l9_16, l9_17, l9_51, l9_52, l9_53, l9_55, l9_56, l9_58, l9_61, l9_73, l9_74, l9_75, l9_76, l9_77, l9_79, l9_80, l9_81, l9_82, l9_83, l9_84, l9_85, l10_59, l10_78, l9_D1, l9_D2, l9_D3, l9_D4, l9_T1, l9_T2, l9_T3, l9_T4]; omega) | decide)) only [hd, e151_197, e151_198, e151_199, e151_200, e151_201, e151_202, e151_203, e151_206, e151_207, e151_208, e151_209, e151_210, e151_211, e151_212, e151_215, ↓reduceIte, Nat.reduceAdd, Nat.reduceMul, nI_add, pk_mul, n_lt_t, n_lt_f, n_le_t, n_le_f, n_eq_f, n_eq_t, n_z_f, n_z_t, n_lz, n_zl, not_true_eq_false, not_false_eq_true, c1, c2, Option.bind_some, Option.toList_some, Option.toList_none, List.cons_append, List.nil_append]
theorem lc4 (hX : X.1 ≤ 3584) (hi : i + 7 ≤ X.1) (h : Rel t u F) : ∃ t' u' F' J', q_ex X (151, 220, hd i, [], q_w t u F J) = q_ex X (151, 825, hd i, [], q_w t' u' F' J') ∧ Rel t' u' F' := by
  obtain ⟨r, t', u', F1, J1, F2, J2, c1, c2, hR⟩ := op4 (X := X) (t := t) (u := u) (F := F) (J := J) (y := X.2 (i + 1)) h
  refine ⟨t', u', F2, J2, ?_, hR⟩
  simp (disch := (first | omega | assumption | rfl | (simp (disch := assumption) only [l9_2, l9_4, l9_5, l9_6, l9_7, l9_9, l9_10, l9_11, l9_12, l9_14, l9_15, l9_16, l9_17, l9_51, l9_52, l9_53, l9_55, l9_56, l9_58, l9_61, l9_73, l9_74, l9_75, l9_76, l9_77, l9_79, l9_80, l9_81, l9_82, l9_83, l9_84, l9_85, l10_59, l10_78, l9_D1, l9_D2, l9_D3, l9_D4, l9_T1, l9_T2, l9_T3, l9_T4]; omega) | decide)) only [hd, e151_220, e151_221, e151_222, e151_223, e151_224, e151_225, e151_226, e151_229, e151_230, e151_231, e151_232, e151_233, e151_234, e151_235, e151_238, ↓reduceIte, Nat.reduceAdd, Nat.reduceMul, nI_add, pk_mul, n_lt_t, n_lt_f, n_le_t, n_le_f, n_eq_f, n_eq_t, n_z_f, n_z_t, n_lz, n_zl, not_true_eq_false, not_false_eq_true, c1, c2, Option.bind_some, Option.toList_some, Option.toList_none, List.cons_append, List.nil_append]
theorem lc5 (hX : X.1 ≤ 3584) (hi : i + 7 ≤ X.1) (h : Rel t u F) : ∃ t' u' F' J', q_ex X (151, 243, hd i, [], q_w t u F J) = q_ex X (151, 825, hd i, [], q_w t' u' F' J') ∧ Rel t' u' F' := by
  obtain ⟨r, t', u', F1, J1, F2, J2, c1, c2, hR⟩ := op5 (X := X) (t := t) (u := u) (F := F) (J := J) (y1 := X.2 (i + 1)) (y2 := X.2 (i + 2)) (y3 := X.2 (i + 3)) h
  refine ⟨t', u', F2, J2, ?_, hR⟩
  simp (disch := (first | omega | assumption | rfl | (simp (disch := assumption) only [l9_2, l9_4, l9_5, l9_6, l9_7, l9_9, l9_10, l9_11, l9_12, l9_14, l9_15, l9_16, l9_17, l9_51, l9_52, l9_53, l9_55, l9_56, l9_58, l9_61, l9_73, l9_74, l9_75, l9_76, l9_77, l9_79, l9_80, l9_81, l9_82, l9_83, l9_84, l9_85, l10_59, l10_78, l9_D1, l9_D2, l9_D3, l9_D4, l9_T1, l9_T2, l9_T3, l9_T4]; omega) | decide)) only [hd, e151_243, e151_244, e151_245, e151_246, e151_247, e151_248, e151_249, e151_250, e151_251, e151_252, e151_253, e151_254, e151_255, e151_256, e151_257, e151_258, e151_259, e151_262, e151_263, e151_264, e151_265, e151_266, e151_267, e151_268, e151_269, e151_270, e151_271, e151_272, e151_273, e151_274, e151_275, e151_276, e151_277, e151_278, e151_281, ↓reduceIte, Nat.reduceAdd, Nat.reduceMul, nI_add, pk_mul, n_lt_t, n_lt_f, n_le_t, n_le_f, n_eq_f, n_eq_t, n_z_f, n_z_t, n_lz, n_zl, not_true_eq_false, not_false_eq_true, c1, c2, Option.bind_some, Option.toList_some, Option.toList_none, List.cons_append, List.nil_append]
theorem lc6 (hX : X.1 ≤ 3584) (hi : i + 7 ≤ X.1) (h : Rel t u F) : ∃ t' u' F' J', q_ex X (151, 286, hd i, [], q_w t u F J) = q_ex X (151, 825, hd i, [], q_w t' u' F' J') ∧ Rel t' u' F' := by
  obtain ⟨r, t', u', F1, J1, F2, J2, c1, c2, hR⟩ := op6 (X := X) (t := t) (u := u) (F := F) (J := J) (y1 := X.2 (i + 1)) (y2 := X.2 (i + 2)) (y3 := X.2 (i + 3)) h
  refine ⟨t', u', F2, J2, ?_, hR⟩
  simp (disch := (first | omega | assumption | rfl | (simp (disch := assumption) only [l9_2, l9_4, l9_5, l9_6, l9_7, l9_9, l9_10, l9_11, l9_12, l9_14, l9_15, l9_16, l9_17, l9_51, l9_52, l9_53, l9_55, l9_56, l9_58, l9_61, l9_73, l9_74, l9_75, l9_76, l9_77, l9_79, l9_80, l9_81, l9_82, l9_83, l9_84, l9_85, l10_59, l10_78, l9_D1, l9_D2, l9_D3, l9_D4, l9_T1, l9_T2, l9_T3, l9_T4]; omega) | decide)) only [hd, e151_286, e151_287, e151_288, e151_289, e151_290, e151_291, e151_292, e151_293, e151_294, e151_295, e151_296, e151_297, e151_298, e151_299, e151_300, e151_301, e151_302, e151_305, e151_306, e151_307, e151_308, e151_309, e151_310, e151_311, e151_312, e151_313, e151_314, e151_315, e151_316, e151_317, e151_318, e151_319, e151_320, e151_321, e151_324, ↓reduceIte, Nat.reduceAdd, Nat.reduceMul, nI_add, pk_mul, n_lt_t, n_lt_f, n_le_t, n_le_f, n_eq_f, n_eq_t, n_z_f, n_z_t, n_lz, n_zl, not_true_eq_false, not_false_eq_true, c1, c2, Option.bind_some, Option.toList_some, Option.toList_none, List.cons_append, List.nil_append]
theorem lc7 (hX : X.1 ≤ 3584) (hi : i + 7 ≤ X.1) (h : Rel t u F) : ∃ t' u' F' J', q_ex X (151, 329, hd i, [], q_w t u F J) = q_ex X (151, 825, hd i, [], q_w t' u' F' J') ∧ Rel t' u' F' := by
  obtain ⟨r, t', u', F1, J1, F2, J2, c1, c2, hR⟩ := op7 (X := X) (t := t) (u := u) (F := F) (J := J) h
  refine ⟨t', u', F2, J2, ?_, hR⟩
  simp (disch := (first | omega | assumption | rfl | (simp (disch := assumption) only [l9_2, l9_4, l9_5, l9_6, l9_7, l9_9, l9_10, l9_11, l9_12, l9_14, l9_15, l9_16, l9_17, l9_51, l9_52, l9_53, l9_55, l9_56, l9_58, l9_61, l9_73, l9_74, l9_75, l9_76, l9_77, l9_79, l9_80, l9_81, l9_82, l9_83, l9_84, l9_85, l10_59, l10_78, l9_D1, l9_D2, l9_D3, l9_D4, l9_T1, l9_T2, l9_T3, l9_T4]; omega) | decide)) only [hd, e151_329, e151_330, e151_333, e151_334, e151_337, ↓reduceIte, Nat.reduceAdd, Nat.reduceMul, nI_add, pk_mul, n_lt_t, n_lt_f, n_le_t, n_le_f, n_eq_f, n_eq_t, n_z_f, n_z_t, n_lz, n_zl, not_true_eq_false, not_false_eq_true, c1, c2, Option.bind_some, Option.toList_some, Option.toList_none, List.cons_append, List.nil_append]
theorem lc8 (hX : X.1 ≤ 3584) (hi : i + 7 ≤ X.1) (h : Rel t u F) : ∃ t' u' F' J', q_ex X (151, 342, hd i, [], q_w t u F J) = q_ex X (151, 825, hd i, [], q_w t' u' F' J') ∧ Rel t' u' F' := by
  obtain ⟨r, t', u', F1, J1, F2, J2, c1, c2, hR⟩ := op8 (X := X) (t := t) (u := u) (F := F) (J := J) (y := X.2 (i + 1)) h
  refine ⟨t', u', F2, J2, ?_, hR⟩
  simp (disch := (first | omega | assumption | rfl | (simp (disch := assumption) only [l9_2, l9_4, l9_5, l9_6, l9_7, l9_9, l9_10, l9_11, l9_12, l9_14, l9_15, l9_16, l9_17, l9_51, l9_52, l9_53, l9_55, l9_56, l9_58, l9_61, l9_73, l9_74, l9_75, l9_76, l9_77, l9_79, l9_80, l9_81, l9_82, l9_83, l9_84, l9_85, l10_59, l10_78, l9_D1, l9_D2, l9_D3, l9_D4, l9_T1, l9_T2, l9_T3, l9_T4]; omega) | decide)) only [hd, e151_342, e151_343, e151_344, e151_345, e151_346, e151_347, e151_348, e151_351, e151_352, e151_353, e151_354, e151_355, e151_356, e151_357, e151_360, ↓reduceIte, Nat.reduceAdd, Nat.reduceMul, nI_add, pk_mul, n_lt_t, n_lt_f, n_le_t, n_le_f, n_eq_f, n_eq_t, n_z_f, n_z_t, n_lz, n_zl, not_true_eq_false, not_false_eq_true, c1, c2, Option.bind_some, Option.toList_some, Option.toList_none, List.cons_append, List.nil_append]
theorem lc9 (hX : X.1 ≤ 3584) (hi : i + 7 ≤ X.1) (h : Rel t u F) : ∃ t' u' F' J', q_ex X (151, 365, hd i, [], q_w t u F J) = q_ex X (151, 825, hd i, [], q_w t' u' F' J') ∧ Rel t' u' F' := by
  obtain ⟨r, t', u', F1, J1, F2, J2, c1, c2, hR⟩ := op9 (X := X) (t := t) (u := u) (F := F) (J := J) h
  refine ⟨t', u', F2, J2, ?_, hR⟩
  simp (disch := (first | omega | assumption | rfl | (simp (disch := assumption) only [l9_2, l9_4, l9_5, l9_6, l9_7, l9_9, l9_10, l9_11, l9_12, l9_14, l9_15, l9_16, l9_17, l9_51, l9_52, l9_53, l9_55, l9_56, l9_58, l9_61, l9_73, l9_74, l9_75, l9_76, l9_77, l9_79, l9_80, l9_81, l9_82, l9_83, l9_84, l9_85, l10_59, l10_78, l9_D1, l9_D2, l9_D3, l9_D4, l9_T1, l9_T2, l9_T3, l9_T4]; omega) | decide)) only [hd, e151_365, e151_366, e151_369, e151_370, e151_373, ↓reduceIte, Nat.reduceAdd, Nat.reduceMul, nI_add, pk_mul, n_lt_t, n_lt_f, n_le_t, n_le_f, n_eq_f, n_eq_t, n_z_f, n_z_t, n_lz, n_zl, not_true_eq_false, not_false_eq_true, c1, c2, Option.bind_some, Option.toList_some, Option.toList_none, List.cons_append, List.nil_append]
theorem lc10 (hX : X.1 ≤ 3584) (hi : i + 7 ≤ X.1) (h : Rel t u F) : ∃ t' u' F' J', q_ex X (151, 378, hd i, [], q_w t u F J) = q_ex X (151, 825, hd i, [], q_w t' u' F' J') ∧ Rel t' u' F' := by
  obtain ⟨r, t', u', F1, J1, F2, J2, c1, c2, hR⟩ := op10 (X := X) (t := t) (u := u) (F := F) (J := J) (y1 := X.2 (i + 1)) (y2 := X.2 (i + 2)) (y3 := X.2 (i + 3)) h
  refine ⟨t', u', F2, J2, ?_, hR⟩
  simp (disch := (first | omega | assumption | rfl | (simp (disch := assumption) only [l9_2, l9_4, l9_5, l9_6, l9_7, l9_9, l9_10, l9_11, l9_12, l9_14, l9_15, l9_16, l9_17, l9_51, l9_52, l9_53, l9_55, l9_56, l9_58, l9_61, l9_73, l9_74, l9_75, l9_76, l9_77, l9_79, l9_80, l9_81, l9_82, l9_83, l9_84, l9_85, l10_59, l10_78, l9_D1, l9_D2, l9_D3, l9_D4, l9_T1, l9_T2, l9_T3, l9_T4]; omega) | decide)) only [hd, e151_378, e151_379, e151_380, e151_381, e151_382, e151_383, e151_384, e151_385, e151_386, e151_387, e151_388, e151_389, e151_390, e151_391, e151_392, e151_393, e151_394, e151_397, e151_398, e151_399, e151_400, e151_401, e151_402, e151_403, e151_404, e151_405, e151_406, e151_407, e151_408, e151_409, e151_410, e151_411, e151_412, e151_413, e151_416, ↓reduceIte, Nat.reduceAdd, Nat.reduceMul, nI_add, pk_mul, n_lt_t, n_lt_f, n_le_t, n_le_f, n_eq_f, n_eq_t, n_z_f, n_z_t, n_lz, n_zl, not_true_eq_false, not_false_eq_true, c1, c2, Option.bind_some, Option.toList_some, Option.toList_none, List.cons_append, List.nil_append]
theorem lc11 (hX : X.1 ≤ 3584) (hi : i + 7 ≤ X.1) (h : Rel t u F) : ∃ t' u' F' J', q_ex X (151, 421, hd i, [], q_w t u F J) = q_ex X (151, 825, hd i, [], q_w t' u' F' J') ∧ Rel t' u' F' := by
  obtain ⟨r, t', u', F1, J1, F2, J2, c1, c2, hR⟩ := op11 (X := X) (t := t) (u := u) (F := F) (J := J) (y1 := X.2 (i + 1)) (y2 := X.2 (i + 2)) h
  refine ⟨t', u', F2, J2, ?_, hR⟩
  simp (disch := (first | omega | assumption | rfl | (simp (disch := assumption) only [l9_2, l9_4, l9_5, l9_6, l9_7, l9_9, l9_10, l9_11, l9_12, l9_14, l9_15, l9_16, l9_17, l9_51, l9_52, l9_53, l9_55, l9_56, l9_58, l9_61, l9_73, l9_74, l9_75, l9_76, l9_77, l9_79, l9_80, l9_81, l9_82, l9_83, l9_84, l9_85, l10_59, l10_78, l9_D1, l9_D2, l9_D3, l9_D4, l9_T1, l9_T2, l9_T3, l9_T4]; omega) | decide)) only [hd, e151_421, e151_422, e151_423, e151_424, e151_425, e151_426, e151_427, e151_428, e151_429, e151_430, e151_431, e151_432, e151_435, e151_436, e151_437, e151_438, e151_439, e151_440, e151_441, e151_442, e151_443, e151_444, e151_445, e151_446, e151_449, ↓reduceIte, Nat.reduceAdd, Nat.reduceMul, nI_add, pk_mul, n_lt_t, n_lt_f, n_le_t, n_le_f, n_eq_f, n_eq_t, n_z_f, n_z_t, n_lz, n_zl, not_true_eq_false, not_false_eq_true, c1, c2, Option.bind_some, Option.toList_some, Option.toList_none, List.cons_append, List.nil_append]
theorem lc12 (hX : X.1 ≤ 3584) (hi : i + 7 ≤ X.1) (h : Rel t u F) : ∃ t' u' F' J', q_ex X (151, 454, hd i, [], q_w t u F J) = q_ex X (151, 825, hd i, [], q_w t' u' F' J') ∧ Rel t' u' F' := by
  obtain ⟨r, t', u', F1, J1, F2, J2, c1, c2, hR⟩ := op12 (X := X) (t := t) (u := u) (F := F) (J := J) (y1 := X.2 (i + 1)) (y2 := X.2 (i + 2)) (y3 := X.2 (i + 3)) h
  refine ⟨t', u', F2, J2, ?_, hR⟩
  simp (disch := (first | omega | assumption | rfl | (simp (disch := assumption) only [l9_2, l9_4, l9_5, l9_6, l9_7, l9_9, l9_10, l9_11, l9_12, l9_14, l9_15, l9_16, l9_17, l9_51, l9_52, l9_53, l9_55, l9_56, l9_58, l9_61, l9_73, l9_74, l9_75, l9_76, l9_77, l9_79, l9_80, l9_81, l9_82, l9_83, l9_84, l9_85, l10_59, l10_78, l9_D1, l9_D2, l9_D3, l9_D4, l9_T1, l9_T2, l9_T3, l9_T4]; omega) | decide)) only [hd, e151_454, e151_455, e151_456, e151_457, e151_458, e151_459, e151_460, e151_461, e151_462, e151_463, e151_464, e151_465, e151_466, e151_467, e151_468, e151_469, e151_470, e151_473, e151_474, e151_475, e151_476, e151_477, e151_478, e151_479, e151_480, e151_481, e151_482, e151_483, e151_484, e151_485, e151_486, e151_487, e151_488, e151_489, e151_492, ↓reduceIte, Nat.reduceAdd, Nat.reduceMul, nI_add, pk_mul, n_lt_t, n_lt_f, n_le_t, n_le_f, n_eq_f, n_eq_t, n_z_f, n_z_t, n_lz, n_zl, not_true_eq_false, not_false_eq_true, c1, c2, Option.bind_some, Option.toList_some, Option.toList_none, List.cons_append, List.nil_append]
theorem lc13 (hX : X.1 ≤ 3584) (hi : i + 7 ≤ X.1) (h : Rel t u F) : ∃ t' u' F' J', q_ex X (151, 497, hd i, [], q_w t u F J) = q_ex X (151, 825, hd i, [], q_w t' u' F' J') ∧ Rel t' u' F' := by
  obtain ⟨r, t', u', F1, J1, F2, J2, c1, c2, hR⟩ := op13 (X := X) (t := t) (u := u) (F := F) (J := J) (a := X.2 (i + 1)) (b := X.2 (i + 2)) (c := X.2 (i + 3)) (d := X.2 (i + 4)) (y5 := X.2 (i + 5)) (y6 := X.2 (i + 6)) h
  refine ⟨t', u', F2, J2, ?_, hR⟩
  simp (disch := (first | omega | assumption | rfl | (simp (disch := assumption) only [l9_2, l9_4, l9_5, l9_6, l9_7, l9_9, l9_10, l9_11, l9_12, l9_14, l9_15, l9_16, l9_17, l9_51, l9_52, l9_53, l9_55, l9_56, l9_58, l9_61, l9_73, l9_74, l9_75, l9_76, l9_77, l9_79, l9_80, l9_81, l9_82, l9_83, l9_84, l9_85, l10_59, l10_78, l9_D1, l9_D2, l9_D3, l9_D4, l9_T1, l9_T2, l9_T3, l9_T4]; omega) | decide)) only [hd, e151_497, e151_498, e151_499, e151_500, e151_501, e151_502, e151_503, e151_504, e151_505, e151_506, e151_507, e151_508, e151_509, e151_510, e151_511, e151_512, e151_513, e151_514, e151_515, e151_516, e151_517, e151_518, e151_519, e151_520, e151_521, e151_522, e151_523, e151_524, e151_525, e151_527, e151_528, e151_529, e151_532, e151_533, e151_534, e151_535, e151_536, e151_537, e151_538, e151_539, e151_540, e151_541, e151_542, e151_543, e151_544, e151_545, e151_546, e151_547, e151_548, e151_549, e151_550, e151_551, e151_552, e151_553, e151_554, e151_555, e151_556, e151_557, e151_558, e151_559, e151_560, e151_562, e151_563, e151_564, e151_567, ↓reduceIte, Nat.reduceAdd, Nat.reduceMul, nI_add, pk_mul, n_lt_t, n_lt_f, n_le_t, n_le_f, n_eq_f, n_eq_t, n_z_f, n_z_t, n_lz, n_zl, not_true_eq_false, not_false_eq_true, c1, c2, Option.bind_some, Option.toList_some, Option.toList_none, List.cons_append, List.nil_append]
theorem lc14 (hX : X.1 ≤ 3584) (hi : i + 7 ≤ X.1) (h : Rel t u F) : ∃ t' u' F' J', q_ex X (151, 572, hd i, [], q_w t u F J) = q_ex X (151, 825, hd i, [], q_w t' u' F' J') ∧ Rel t' u' F' := by
  obtain ⟨r, t', u', F1, J1, F2, J2, c1, c2, hR⟩ := op14 (X := X) (t := t) (u := u) (F := F) (J := J) (y1 := X.2 (i + 1)) (y2 := X.2 (i + 2)) h
  refine ⟨t', u', F2, J2, ?_, hR⟩
  simp (disch := (first | omega | assumption | rfl | (simp (disch := assumption) only [l9_2, l9_4, l9_5, l9_6, l9_7, l9_9, l9_10, l9_11, l9_12, l9_14, l9_15, l9_16, l9_17, l9_51, l9_52, l9_53, l9_55, l9_56, l9_58, l9_61, l9_73, l9_74, l9_75, l9_76, l9_77, l9_79, l9_80, l9_81, l9_82, l9_83, l9_84, l9_85, l10_59, l10_78, l9_D1, l9_D2, l9_D3, l9_D4, l9_T1, l9_T2, l9_T3, l9_T4]; omega) | decide)) only [hd, e151_572, e151_573, e151_574, e151_575, e151_576, e151_577, e151_578, e151_579, e151_580, e151_581, e151_582, e151_583, e151_586, e151_587, e151_588, e151_589, e151_590, e151_591, e151_592, e151_593, e151_594, e151_595, e151_596, e151_597, e151_600, ↓reduceIte, Nat.reduceAdd, Nat.reduceMul, nI_add, pk_mul, n_lt_t, n_lt_f, n_le_t, n_le_f, n_eq_f, n_eq_t, n_z_f, n_z_t, n_lz, n_zl, not_true_eq_false, not_false_eq_true, c1, c2, Option.bind_some, Option.toList_some, Option.toList_none, List.cons_append, List.nil_append]
theorem lc15 (hX : X.1 ≤ 3584) (hi : i + 7 ≤ X.1) (h : Rel t u F) : ∃ t' u' F' J', q_ex X (151, 605, hd i, [], q_w t u F J) = q_ex X (151, 825, hd i, [], q_w t' u' F' J') ∧ Rel t' u' F' := by
  obtain ⟨r, t', u', F1, J1, F2, J2, c1, c2, hR⟩ := op15 (X := X) (t := t) (u := u) (F := F) (J := J) h
  refine ⟨t', u', F2, J2, ?_, hR⟩
  simp (disch := (first | omega | assumption | rfl | (simp (disch := assumption) only [l9_2, l9_4, l9_5, l9_6, l9_7, l9_9, l9_10, l9_11, l9_12, l9_14, l9_15, l9_16, l9_17, l9_51, l9_52, l9_53, l9_55, l9_56, l9_58, l9_61, l9_73, l9_74, l9_75, l9_76, l9_77, l9_79, l9_80, l9_81, l9_82, l9_83, l9_84, l9_85, l10_59, l10_78, l9_D1, l9_D2, l9_D3, l9_D4, l9_T1, l9_T2, l9_T3, l9_T4]; omega) | decide)) only [hd, e151_605, e151_606, e151_609, e151_610, e151_613, ↓reduceIte, Nat.reduceAdd, Nat.reduceMul, nI_add, pk_mul, n_lt_t, n_lt_f, n_le_t, n_le_f, n_eq_f, n_eq_t, n_z_f, n_z_t, n_lz, n_zl, not_true_eq_false, not_false_eq_true, c1, c2, Option.bind_some, Option.toList_some, Option.toList_none, List.cons_append, List.nil_append]
theorem lc16 (hX : X.1 ≤ 3584) (hi : i + 7 ≤ X.1) (h : Rel t u F) : ∃ t' u' F' J', q_ex X (151, 618, hd i, [], q_w t u F J) = q_ex X (151, 825, hd i, [], q_w t' u' F' J') ∧ Rel t' u' F' := by
  obtain ⟨r, t', u', F1, J1, F2, J2, c1, c2, hR⟩ := op16 (X := X) (t := t) (u := u) (F := F) (J := J) (y := X.2 (i + 1)) h
  refine ⟨t', u', F2, J2, ?_, hR⟩
  simp (disch := (first | omega | assumption | rfl | (simp (disch := assumption) only [l9_2, l9_4, l9_5, l9_6, l9_7, l9_9, l9_10, l9_11, l9_12, l9_14, l9_15, l9_16, l9_17, l9_51, l9_52, l9_53, l9_55, l9_56, l9_58, l9_61, l9_73, l9_74, l9_75, l9_76, l9_77, l9_79, l9_80, l9_81, l9_82, l9_83, l9_84, l9_85, l10_59, l10_78, l9_D1, l9_D2, l9_D3, l9_D4, l9_T1, l9_T2, l9_T3, l9_T4]; omega) | decide)) only [hd, e151_618, e151_619, e151_620, e151_621, e151_622, e151_623, e151_624, e151_627, e151_628, e151_629, e151_630, e151_631, e151_632, e151_633, e151_636, ↓reduceIte, Nat.reduceAdd, Nat.reduceMul, nI_add, pk_mul, n_lt_t, n_lt_f, n_le_t, n_le_f, n_eq_f, n_eq_t, n_z_f, n_z_t, n_lz, n_zl, not_true_eq_false, not_false_eq_true, c1, c2, Option.bind_some, Option.toList_some, Option.toList_none, List.cons_append, List.nil_append]
theorem lc17 (hX : X.1 ≤ 3584) (hi : i + 7 ≤ X.1) (h : Rel t u F) : ∃ t' u' F' J', q_ex X (151, 641, hd i, [], q_w t u F J) = q_ex X (151, 825, hd i, [], q_w t' u' F' J') ∧ Rel t' u' F' := by
  obtain ⟨r, t', u', F1, J1, F2, J2, c1, c2, hR⟩ := op17 (X := X) (t := t) (u := u) (F := F) (J := J) (y := X.2 (i + 1)) h
  refine ⟨t', u', F2, J2, ?_, hR⟩
  simp (disch := (first | omega | assumption | rfl | (simp (disch := assumption) only [l9_2, l9_4, l9_5, l9_6, l9_7, l9_9, l9_10, l9_11, l9_12, l9_14, l9_15, l9_16, l9_17, l9_51, l9_52, l9_53, l9_55, l9_56, l9_58, l9_61, l9_73, l9_74, l9_75, l9_76, l9_77, l9_79, l9_80, l9_81, l9_82, l9_83, l9_84, l9_85, l10_59, l10_78, l9_D1, l9_D2, l9_D3, l9_D4, l9_T1, l9_T2, l9_T3, l9_T4]; omega) | decide)) only [hd, e151_641, e151_642, e151_643, e151_644, e151_645, e151_646, e151_647, e151_650, e151_651, e151_652, e151_653, e151_654, e151_655, e151_656, e151_659, ↓reduceIte, Nat.reduceAdd, Nat.reduceMul, nI_add, pk_mul, n_lt_t, n_lt_f, n_le_t, n_le_f, n_eq_f, n_eq_t, n_z_f, n_z_t, n_lz, n_zl, not_true_eq_false, not_false_eq_true, c1, c2, Option.bind_some, Option.toList_some, Option.toList_none, List.cons_append, List.nil_append]
theorem lc18 (hX : X.1 ≤ 3584) (hi : i + 7 ≤ X.1) (h : Rel t u F) : ∃ t' u' F' J', q_ex X (151, 664, hd i, [], q_w t u F J) = q_ex X (151, 825, hd i, [], q_w t' u' F' J') ∧ Rel t' u' F' := by
  obtain ⟨r, t', u', F1, J1, F2, J2, c1, c2, hR⟩ := op18 (X := X) (t := t) (u := u) (F := F) (J := J) (y1 := X.2 (i + 1)) (y2 := X.2 (i + 2)) (y3 := X.2 (i + 3)) h
  refine ⟨t', u', F2, J2, ?_, hR⟩
  simp (disch := (first | omega | assumption | rfl | (simp (disch := assumption) only [l9_2, l9_4, l9_5, l9_6, l9_7, l9_9, l9_10, l9_11, l9_12, l9_14, l9_15, l9_16, l9_17, l9_51, l9_52, l9_53, l9_55, l9_56, l9_58, l9_61, l9_73, l9_74, l9_75, l9_76, l9_77, l9_79, l9_80, l9_81, l9_82, l9_83, l9_84, l9_85, l10_59, l10_78, l9_D1, l9_D2, l9_D3, l9_D4, l9_T1, l9_T2, l9_T3, l9_T4]; omega) | decide)) only [hd, e151_664, e151_665, e151_666, e151_667, e151_668, e151_669, e151_670, e151_671, e151_672, e151_673, e151_674, e151_675, e151_676, e151_677, e151_678, e151_679, e151_680, e151_683, e151_684, e151_685, e151_686, e151_687, e151_688, e151_689, e151_690, e151_691, e151_692, e151_693, e151_694, e151_695, e151_696, e151_697, e151_698, e151_699, e151_702, ↓reduceIte, Nat.reduceAdd, Nat.reduceMul, nI_add, pk_mul, n_lt_t, n_lt_f, n_le_t, n_le_f, n_eq_f, n_eq_t, n_z_f, n_z_t, n_lz, n_zl, not_true_eq_false, not_false_eq_true, c1, c2, Option.bind_some, Option.toList_some, Option.toList_none, List.cons_append, List.nil_append]
theorem lc19 (hX : X.1 ≤ 3584) (hi : i + 7 ≤ X.1) (h : Rel t u F) : ∃ t' u' F' J', q_ex X (151, 707, hd i, [], q_w t u F J) = q_ex X (151, 825, hd i, [], q_w t' u' F' J') ∧ Rel t' u' F' := by
  obtain ⟨r, t', u', F1, J1, F2, J2, c1, c2, hR⟩ := op19 (X := X) (t := t) (u := u) (F := F) (J := J) h
  refine ⟨t', u', F2, J2, ?_, hR⟩
  simp (disch := (first | omega | assumption | rfl | (simp (disch := assumption) only [l9_2, l9_4, l9_5, l9_6, l9_7, l9_9, l9_10, l9_11, l9_12, l9_14, l9_15, l9_16, l9_17, l9_51, l9_52, l9_53, l9_55, l9_56, l9_58, l9_61, l9_73, l9_74, l9_75, l9_76, l9_77, l9_79, l9_80, l9_81, l9_82, l9_83, l9_84, l9_85, l10_59, l10_78, l9_D1, l9_D2, l9_D3, l9_D4, l9_T1, l9_T2, l9_T3, l9_T4]; omega) | decide)) only [hd, e151_707, e151_708, e151_711, e151_712, e151_715, ↓reduceIte, Nat.reduceAdd, Nat.reduceMul, nI_add, pk_mul, n_lt_t, n_lt_f, n_le_t, n_le_f, n_eq_f, n_eq_t, n_z_f, n_z_t, n_lz, n_zl, not_true_eq_false, not_false_eq_true, c1, c2, Option.bind_some, Option.toList_some, Option.toList_none, List.cons_append, List.nil_append]
theorem lc20 (hX : X.1 ≤ 3584) (hi : i + 7 ≤ X.1) (h : Rel t u F) : ∃ t' u' F' J', q_ex X (151, 720, hd i, [], q_w t u F J) = q_ex X (151, 825, hd i, [], q_w t' u' F' J') ∧ Rel t' u' F' := by
  obtain ⟨r, t', u', F1, J1, F2, J2, c1, c2, hR⟩ := op20 (X := X) (t := t) (u := u) (F := F) (J := J) (y := X.2 (i + 1)) h
  refine ⟨t', u', F2, J2, ?_, hR⟩
  simp (disch := (first | omega | assumption | rfl | (simp (disch := assumption) only [l9_2, l9_4, l9_5, l9_6, l9_7, l9_9, l9_10, l9_11, l9_12, l9_14, l9_15, l9_16, l9_17, l9_51, l9_52, l9_53, l9_55, l9_56, l9_58, l9_61, l9_73, l9_74, l9_75, l9_76, l9_77, l9_79, l9_80, l9_81, l9_82, l9_83, l9_84, l9_85, l10_59, l10_78, l9_D1, l9_D2, l9_D3, l9_D4, l9_T1, l9_T2, l9_T3, l9_T4]; omega) | decide)) only [hd, e151_720, e151_721, e151_722, e151_723, e151_724, e151_725, e151_726, e151_729, e151_730, e151_731, e151_732, e151_733, e151_734, e151_735, e151_738, ↓reduceIte, Nat.reduceAdd, Nat.reduceMul, nI_add, pk_mul, n_lt_t, n_lt_f, n_le_t, n_le_f, n_eq_f, n_eq_t, n_z_f, n_z_t, n_lz, n_zl, not_true_eq_false, not_false_eq_true, c1, c2, Option.bind_some, Option.toList_some, Option.toList_none, List.cons_append, List.nil_append]
theorem lc21 (hX : X.1 ≤ 3584) (hi : i + 7 ≤ X.1) (h : Rel t u F) : ∃ t' u' F' J', q_ex X (151, 743, hd i, [], q_w t u F J) = q_ex X (151, 825, hd i, [], q_w t' u' F' J') ∧ Rel t' u' F' := by
  obtain ⟨r, t', u', F1, J1, F2, J2, c1, c2, hR⟩ := op21 (X := X) (t := t) (u := u) (F := F) (J := J) h
  refine ⟨t', u', F2, J2, ?_, hR⟩
  simp (disch := (first | omega | assumption | rfl | (simp (disch := assumption) only [l9_2, l9_4, l9_5, l9_6, l9_7, l9_9, l9_10, l9_11, l9_12, l9_14, l9_15, l9_16, l9_17, l9_51, l9_52, l9_53, l9_55, l9_56, l9_58, l9_61, l9_73, l9_74, l9_75, l9_76, l9_77, l9_79, l9_80, l9_81, l9_82, l9_83, l9_84, l9_85, l10_59, l10_78, l9_D1, l9_D2, l9_D3, l9_D4, l9_T1, l9_T2, l9_T3, l9_T4]; omega) | decide)) only [hd, e151_743, e151_744, e151_747, e151_748, e151_751, ↓reduceIte, Nat.reduceAdd, Nat.reduceMul, nI_add, pk_mul, n_lt_t, n_lt_f, n_le_t, n_le_f, n_eq_f, n_eq_t, n_z_f, n_z_t, n_lz, n_zl, not_true_eq_false, not_false_eq_true, c1, c2, Option.bind_some, Option.toList_some, Option.toList_none, List.cons_append, List.nil_append]
theorem lc22 (hX : X.1 ≤ 3584) (hi : i + 7 ≤ X.1) (h : Rel t u F) : ∃ t' u' F' J', q_ex X (151, 756, hd i, [], q_w t u F J) = q_ex X (151, 825, hd i, [], q_w t' u' F' J') ∧ Rel t' u' F' := by
  obtain ⟨r, t', u', F1, J1, F2, J2, c1, c2, hR⟩ := op22 (X := X) (t := t) (u := u) (F := F) (J := J) (y := X.2 (i + 1)) h
  refine ⟨t', u', F2, J2, ?_, hR⟩
  simp (disch := (first | omega | assumption | rfl | (simp (disch := assumption) only [l9_2, l9_4, l9_5, l9_6, l9_7, l9_9, l9_10, l9_11, l9_12, l9_14, l9_15, l9_16, l9_17, l9_51, l9_52, l9_53, l9_55, l9_56, l9_58, l9_61, l9_73, l9_74, l9_75, l9_76, l9_77, l9_79, l9_80, l9_81, l9_82, l9_83, l9_84, l9_85, l10_59, l10_78, l9_D1, l9_D2, l9_D3, l9_D4, l9_T1, l9_T2, l9_T3, l9_T4]; omega) | decide)) only [hd, e151_756, e151_757, e151_758, e151_759, e151_760, e151_761, e151_762, e151_765, e151_766, e151_767, e151_768, e151_769, e151_770, e151_771, e151_774, ↓reduceIte, Nat.reduceAdd, Nat.reduceMul, nI_add, pk_mul, n_lt_t, n_lt_f, n_le_t, n_le_f, n_eq_f, n_eq_t, n_z_f, n_z_t, n_lz, n_zl, not_true_eq_false, not_false_eq_true, c1, c2, Option.bind_some, Option.toList_some, Option.toList_none, List.cons_append, List.nil_append]
theorem lc23 (hX : X.1 ≤ 3584) (hi : i + 7 ≤ X.1) (h : Rel t u F) : ∃ t' u' F' J', q_ex X (151, 779, hd i, [], q_w t u F J) = q_ex X (151, 825, hd i, [], q_w t' u' F' J') ∧ Rel t' u' F' := by
  obtain ⟨r, t', u', F1, J1, F2, J2, c1, c2, hR⟩ := op23 (X := X) (t := t) (u := u) (F := F) (J := J) (y := X.2 (i + 1)) h
  refine ⟨t', u', F2, J2, ?_, hR⟩
  simp (disch := (first | omega | assumption | rfl | (simp (disch := assumption) only [l9_2, l9_4, l9_5, l9_6, l9_7, l9_9, l9_10, l9_11, l9_12, l9_14, l9_15, l9_16, l9_17, l9_51, l9_52, l9_53, l9_55, l9_56, l9_58, l9_61, l9_73, l9_74, l9_75, l9_76, l9_77, l9_79, l9_80, l9_81, l9_82, l9_83, l9_84, l9_85, l10_59, l10_78, l9_D1, l9_D2, l9_D3, l9_D4, l9_T1, l9_T2, l9_T3, l9_T4]; omega) | decide)) only [hd, e151_779, e151_780, e151_781, e151_782, e151_783, e151_784, e151_785, e151_788, e151_789, e151_790, e151_791, e151_792, e151_793, e151_794, e151_797, ↓reduceIte, Nat.reduceAdd, Nat.reduceMul, nI_add, pk_mul, n_lt_t, n_lt_f, n_le_t, n_le_f, n_eq_f, n_eq_t, n_z_f, n_z_t, n_lz, n_zl, not_true_eq_false, not_false_eq_true, c1, c2, Option.bind_some, Option.toList_some, Option.toList_none, List.cons_append, List.nil_append]
theorem lc24 (hX : X.1 ≤ 3584) (hi : i + 7 ≤ X.1) (h : Rel t u F) : ∃ t' u' F' J', q_ex X (151, 802, hd i, [], q_w t u F J) = q_ex X (151, 825, hd i, [], q_w t' u' F' J') ∧ Rel t' u' F' := by
  obtain ⟨r, t', u', F1, J1, F2, J2, c1, c2, hR⟩ := op24 (X := X) (t := t) (u := u) (F := F) (J := J) (y := X.2 (i + 1)) h
  refine ⟨t', u', F2, J2, ?_, hR⟩
  simp (disch := (first | omega | assumption | rfl | (simp (disch := assumption) only [l9_2, l9_4, l9_5, l9_6, l9_7, l9_9, l9_10, l9_11, l9_12, l9_14, l9_15, l9_16, l9_17, l9_51, l9_52, l9_53, l9_55, l9_56, l9_58, l9_61, l9_73, l9_74, l9_75, l9_76, l9_77, l9_79, l9_80, l9_81, l9_82, l9_83, l9_84, l9_85, l10_59, l10_78, l9_D1, l9_D2, l9_D3, l9_D4, l9_T1, l9_T2, l9_T3, l9_T4]; omega) | decide)) only [hd, e151_802, e151_803, e151_804, e151_805, e151_806, e151_807, e151_808, e151_811, e151_812, e151_813, e151_814, e151_815, e151_816, e151_817, e151_820, ↓reduceIte, Nat.reduceAdd, Nat.reduceMul, nI_add, pk_mul, n_lt_t, n_lt_f, n_le_t, n_le_f, n_eq_f, n_eq_t, n_z_f, n_z_t, n_lz, n_zl, not_true_eq_false, not_false_eq_true, c1, c2, Option.bind_some, Option.toList_some, Option.toList_none, List.cons_append, List.nil_append]
theorem law_st (hX : X.1 ≤ 3584) (hi : i + 7 ≤ X.1) (h : Rel t u F) : ∃ t' u' F' J', q_ex X (151, 18, hd i, [], q_w t u F J) = q_ex X (151, 18, hd (i + 7), [], q_w t' u' F' J') ∧ Rel t' u' F' := by
  have hback : ∀ t' u' F' J', q_ex X (151, 825, hd i, [], q_w t' u' F' J') = q_ex X (151, 18, hd (i + 7), [], q_w t' u' F' J') := by
    intro t' u' F' J'
    simp (disch := (first | omega | assumption | rfl | (simp (disch := assumption) only [l9_2, l9_4, l9_5, l9_6, l9_7, l9_9, l9_10, l9_11, l9_12, l9_14, l9_15, l9_16, l9_17, l9_51, l9_52, l9_53, l9_55, l9_56, l9_58, l9_61, l9_73, l9_74, l9_75, l9_76, l9_77, l9_79, l9_80, l9_81, l9_82, l9_83, l9_84, l9_85, l10_59, l10_78, l9_D1, l9_D2, l9_D3, l9_D4, l9_T1, l9_T2, l9_T3, l9_T4]; omega) | decide)) only [hd, e151_825, e151_828, ↓reduceIte, Nat.reduceAdd, Nat.reduceMul, nI_add, pk_mul, n_lt_t, n_lt_f, n_le_t, n_le_f, n_eq_f, n_eq_t, n_z_f, n_z_t, n_lz, n_zl, not_true_eq_false, not_false_eq_true]
  obtain ⟨v, hv, hv2⟩ := i_31 (X.2 i)
  have hhead : q_ex X (151, 18, hd i, [], q_w t u F J) = q_ex X (151, 33, hd i, [.int (nI v)], q_w t u F J) := by
    rw [← hv2, hd, e151_18]
    simp (disch := (first | omega | assumption | rfl | (simp (disch := assumption) only [l9_2, l9_4, l9_5, l9_6, l9_7, l9_9, l9_10, l9_11, l9_12, l9_14, l9_15, l9_16, l9_17, l9_51, l9_52, l9_53, l9_55, l9_56, l9_58, l9_61, l9_73, l9_74, l9_75, l9_76, l9_77, l9_79, l9_80, l9_81, l9_82, l9_83, l9_84, l9_85, l10_59, l10_78, l9_D1, l9_D2, l9_D3, l9_D4, l9_T1, l9_T2, l9_T3, l9_T4]; omega) | decide)) only [e151_19, e151_20, e151_21, e151_23, e151_24, e151_27, e151_28, e151_29, e151_30, e151_32, ↓reduceIte, Nat.reduceAdd, Nat.reduceMul, nI_add, pk_mul, n_lt_t, n_lt_f, n_le_t, n_le_f, n_eq_f, n_eq_t, n_z_f, n_z_t, n_lz, n_zl, not_true_eq_false, not_false_eq_true, n_sub]
  rw [hhead]
  by_cases h0 : v = 0
  · subst h0
    obtain ⟨t', u', F', J', e, hR⟩ := lc0 (J := J) hX hi h
    exact ⟨t', u', F', J', by rw [e151_33_c0, e, hback], hR⟩
  by_cases h1 : v = 1
  · subst h1
    obtain ⟨t', u', F', J', e, hR⟩ := lc1 (J := J) hX hi h
    exact ⟨t', u', F', J', by rw [e151_33_c1, e, hback], hR⟩
  by_cases h2 : v = 2
  · subst h2
    obtain ⟨t', u', F', J', e, hR⟩ := lc2 (J := J) hX hi h
    exact ⟨t', u', F', J', by rw [e151_33_c2, e, hback], hR⟩
  by_cases h3 : v = 3
  · subst h3
    obtain ⟨t', u', F', J', e, hR⟩ := lc3 (J := J) hX hi h
    exact ⟨t', u', F', J', by rw [e151_33_c3, e, hback], hR⟩
  by_cases h4 : v = 4
  · subst h4
    obtain ⟨t', u', F', J', e, hR⟩ := lc4 (J := J) hX hi h
    exact ⟨t', u', F', J', by rw [e151_33_c4, e, hback], hR⟩
  by_cases h5 : v = 5
  · subst h5
    obtain ⟨t', u', F', J', e, hR⟩ := lc5 (J := J) hX hi h
    exact ⟨t', u', F', J', by rw [e151_33_c5, e, hback], hR⟩
  by_cases h6 : v = 6
  · subst h6
    obtain ⟨t', u', F', J', e, hR⟩ := lc6 (J := J) hX hi h
    exact ⟨t', u', F', J', by rw [e151_33_c6, e, hback], hR⟩
  by_cases h7 : v = 7
  · subst h7
    obtain ⟨t', u', F', J', e, hR⟩ := lc7 (J := J) hX hi h
    exact ⟨t', u', F', J', by rw [e151_33_c7, e, hback], hR⟩
  by_cases h8 : v = 8
  · subst h8
    obtain ⟨t', u', F', J', e, hR⟩ := lc8 (J := J) hX hi h
    exact ⟨t', u', F', J', by rw [e151_33_c8, e, hback], hR⟩
  by_cases h9 : v = 9
  · subst h9
    obtain ⟨t', u', F', J', e, hR⟩ := lc9 (J := J) hX hi h
    exact ⟨t', u', F', J', by rw [e151_33_c9, e, hback], hR⟩
  by_cases h10 : v = 10
  · subst h10
    obtain ⟨t', u', F', J', e, hR⟩ := lc10 (J := J) hX hi h
    exact ⟨t', u', F', J', by rw [e151_33_c10, e, hback], hR⟩
  by_cases h11 : v = 11
  · subst h11
    obtain ⟨t', u', F', J', e, hR⟩ := lc11 (J := J) hX hi h
    exact ⟨t', u', F', J', by rw [e151_33_c11, e, hback], hR⟩
  by_cases h12 : v = 12
  · subst h12
    obtain ⟨t', u', F', J', e, hR⟩ := lc12 (J := J) hX hi h
    exact ⟨t', u', F', J', by rw [e151_33_c12, e, hback], hR⟩
  by_cases h13 : v = 13
  · subst h13
    obtain ⟨t', u', F', J', e, hR⟩ := lc13 (J := J) hX hi h
    exact ⟨t', u', F', J', by rw [e151_33_c13, e, hback], hR⟩
  by_cases h14 : v = 14
  · subst h14
    obtain ⟨t', u', F', J', e, hR⟩ := lc14 (J := J) hX hi h
    exact ⟨t', u', F', J', by rw [e151_33_c14, e, hback], hR⟩
  by_cases h15 : v = 15
  · subst h15
    obtain ⟨t', u', F', J', e, hR⟩ := lc15 (J := J) hX hi h
    exact ⟨t', u', F', J', by rw [e151_33_c15, e, hback], hR⟩
  by_cases h16 : v = 16
  · subst h16
    obtain ⟨t', u', F', J', e, hR⟩ := lc16 (J := J) hX hi h
    exact ⟨t', u', F', J', by rw [e151_33_c16, e, hback], hR⟩
  by_cases h17 : v = 17
  · subst h17
    obtain ⟨t', u', F', J', e, hR⟩ := lc17 (J := J) hX hi h
    exact ⟨t', u', F', J', by rw [e151_33_c17, e, hback], hR⟩
  by_cases h18 : v = 18
  · subst h18
    obtain ⟨t', u', F', J', e, hR⟩ := lc18 (J := J) hX hi h
    exact ⟨t', u', F', J', by rw [e151_33_c18, e, hback], hR⟩
  by_cases h19 : v = 19
  · subst h19
    obtain ⟨t', u', F', J', e, hR⟩ := lc19 (J := J) hX hi h
    exact ⟨t', u', F', J', by rw [e151_33_c19, e, hback], hR⟩
  by_cases h20 : v = 20
  · subst h20
    obtain ⟨t', u', F', J', e, hR⟩ := lc20 (J := J) hX hi h
    exact ⟨t', u', F', J', by rw [e151_33_c20, e, hback], hR⟩
  by_cases h21 : v = 21
  · subst h21
    obtain ⟨t', u', F', J', e, hR⟩ := lc21 (J := J) hX hi h
    exact ⟨t', u', F', J', by rw [e151_33_c21, e, hback], hR⟩
  by_cases h22 : v = 22
  · subst h22
    obtain ⟨t', u', F', J', e, hR⟩ := lc22 (J := J) hX hi h
    exact ⟨t', u', F', J', by rw [e151_33_c22, e, hback], hR⟩
  by_cases h23 : v = 23
  · subst h23
    obtain ⟨t', u', F', J', e, hR⟩ := lc23 (J := J) hX hi h
    exact ⟨t', u', F', J', by rw [e151_33_c23, e, hback], hR⟩
  by_cases h24 : v = 24
  · subst h24
    obtain ⟨t', u', F', J', e, hR⟩ := lc24 (J := J) hX hi h
    exact ⟨t', u', F', J', by rw [e151_33_c24, e, hback], hR⟩
  have hd2 : (nI v).toInt < 0 ∨ 24 < (nI v).toInt := by rw [nI_toInt (by omega)]; omega
  exact ⟨t, u, F, J, by rw [e151_33_d hd2, hback], h⟩
theorem law_end (hX : X.1 ≤ 3584) (hi : X.1 < i + 7) (hi2 : i < 2 ^ 20) {w : q_M} : q_ex X (151, 18, hd i, [], w) = some (some (.int (nI 1)), w) := by
  have hc : (nI X.1 - nI 7 < nI i) = True := by
    apply eq_true
    by_cases h7 : 7 ≤ X.1
    · rw [n_sub h7]
      exact nI_lt (by omega) (by omega)
    · exact Int32.lt_of_lt_of_le (lo_7 _ (by omega)) (nI_pos' (by omega))
  rw [hd, e151_18]
  simp (disch := (first | omega | assumption | rfl | (simp (disch := assumption) only [l9_2, l9_4, l9_5, l9_6, l9_7, l9_9, l9_10, l9_11, l9_12, l9_14, l9_15, l9_16, l9_17, l9_51, l9_52, l9_53, l9_55, l9_56, l9_58, l9_61, l9_73, l9_74, l9_75, l9_76, l9_77, l9_79, l9_80, l9_81, l9_82, l9_83, l9_84, l9_85, l10_59, l10_78, l9_D1, l9_D2, l9_D3, l9_D4, l9_T1, l9_T2, l9_T3, l9_T4]; omega) | decide)) only [e151_19, e151_20, e151_21, e151_23, e151_24, e151_831, e151_832, ↓reduceIte, Nat.reduceAdd, Nat.reduceMul, nI_add, pk_mul, n_lt_t, n_lt_f, n_le_t, n_le_f, n_eq_f, n_eq_t, n_z_f, n_z_t, n_lz, n_zl, not_true_eq_false, not_false_eq_true, hc]
theorem law_loop (hX : X.1 ≤ 3584) : ∀ (n i t u : Nat) (F : Nat → Nat → Int32) (J : Nat → Int64), X.1 < 7 * n + i → i < 10000 → Rel t u F → ∃ t' u' F' J', q_ex X (151, 18, hd i, [], q_w t u F J) = some (some (.int (nI 1)), q_w t' u' F' J')
  | 0, i, t, u, F, J, h1, h2, h => ⟨t, u, F, J, law_end hX (by omega) (by omega)⟩
  | n + 1, i, t, u, F, J, h1, h2, h => by
    by_cases hi : i + 7 ≤ X.1
    · obtain ⟨t', u', F', J', e, hR⟩ := law_st (J := J) hX hi h
      obtain ⟨t2, u2, F2, J2, e2⟩ := law_loop hX n (i + 7) t' u' F' J' (by omega) (by omega) hR
      exact ⟨t2, u2, F2, J2, e.trans e2⟩
    · exact ⟨t, u, F, J, law_end hX (by omega) (by omega)⟩
end S82
