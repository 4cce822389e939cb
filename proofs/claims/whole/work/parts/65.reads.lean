/-! ===== the model: must, number, lay, readItem ===== -/
def mMust (x : Nat → Nat) (l b q f : Nat) : Nat × Nat := if f ≠ 0 then (q, f) else if b = 1 then (sk x l (tka x l q), 0) else (q, q + 1)
abbrev nOK (x : Nat → Nat) (l lo hi b q : Nat) : Prop := tkn x l q = 1 ∧ lo ≤ tkv x l q ∧ tkv x l q ≤ hi ∧ tkv x l q ≠ b
def mN (x : Nat → Nat) (l lo hi b q f : Nat) : Nat × Nat := mMust x l (if nOK x l lo hi b q then 1 else 0) q f
theorem mMust_le {x : Nat → Nat} {l b q f : Nat} (hl : l ≤ 160) (hq : q ≤ l) (hf : f ≤ 161) : (mMust x l b q f).1 ≤ l ∧ (mMust x l b q f).2 ≤ 161 := by
  have h1 := sk_le (x := x) (tka_le (x := x) hq)
  unfold mMust
  by_cases hf0 : f ≠ 0
  · rw [if_pos hf0]; exact ⟨hq, hf⟩
  · rw [if_neg hf0]
    by_cases hb : b = 1
    · rw [if_pos hb]; exact ⟨h1, by simp⟩
    · rw [if_neg hb]; exact ⟨hq, by dsimp only; omega⟩
theorem num_rel {x : Nat → Nat} {l loC loM hi bC bM p q f : Nat} (hq : q ≤ l) (h : f = 0 → q = sk x l p ∧ loC = loM ∧ bC = bM) : (mN x l loM hi bM q f).2 = (cNum x l loC hi bC p f).2.2 ∧ ((mN x l loM hi bM q f).2 = 0 → f = 0 ∧ (mN x l loM hi bM q f).1 = sk x l (cNum x l loC hi bC p f).2.1 ∧ tkv x l q = (cNum x l loC hi bC p f).1) := by
  unfold mN mMust cNum
  by_cases hf0 : f = 0
  · obtain ⟨h1, h2, h3⟩ := h hf0
    subst h2
    subst h3
    have hnf : ¬ (f ≠ 0) := fun z => z hf0
    rw [if_neg hnf, if_neg hnf, ← h1]
    have ht := tok (x := x) hq
    by_cases hk : okN x l loC hi bC q
    · have h4 := ht.2 hk.1
      have h5 : nOK x l loC hi bC q := ⟨ht.1.mpr hk.1, by rw [h4.1]; exact hk.2⟩
      rw [if_pos hk, if_pos h5, if_pos rfl]
      exact ⟨rfl, fun _ => ⟨hf0, by rw [h4.2], h4.1⟩⟩
    · have h5 : ¬ nOK x l loC hi bC q := fun z => hk ⟨ht.1.mp z.1, by rw [← (ht.2 (ht.1.mp z.1)).1]; exact z.2⟩
      rw [if_neg hk, if_neg h5, if_neg (by omega)]
      exact ⟨rfl, fun z => by simp at z⟩
  · rw [if_pos hf0, if_pos hf0]
    exact ⟨rfl, fun z => absurd z hf0⟩
theorem end_rel {x : Nat → Nat} {l p q f : Nat} (h : f = 0 → q = sk x l p) : (mMust x l (if tkn x l q = 59 then 1 else 0) q f).2 = (cEnd x l p f).2.2 ∧ ((mMust x l (if tkn x l q = 59 then 1 else 0) q f).2 = 0 → f = 0 ∧ (mMust x l (if tkn x l q = 59 then 1 else 0) q f).1 = sk x l (cEnd x l p f).2.1) := by
  unfold mMust cEnd
  by_cases hf0 : f = 0
  · have h1 := h hf0
    have hnf : ¬ (f ≠ 0) := fun z => z hf0
    rw [if_neg hnf, if_neg hnf, ← h1]
    have ht := tok59 (x := x) (l := l) (q := q)
    by_cases hk : tkn x l q = 59
    · rw [if_pos hk, if_pos rfl, if_pos (ht.1.mp hk), ht.2 hk]
      exact ⟨rfl, fun _ => ⟨hf0, rfl⟩⟩
    · rw [if_neg hk, if_neg (by omega), if_neg (fun z => hk (ht.1.mpr z))]
      exact ⟨rfl, fun z => by simp at z⟩
  · rw [if_pos hf0, if_pos hf0]
    exact ⟨rfl, fun z => absurd z hf0⟩
section S65
variable {X : Nat × (Nat → Int32)} {t u : Nat} {F : Nat → Nat → Int32} {J : Nat → Int64} {w : q_M} {x : Nat → Nat} {l : Nat}
theorem fM_0 : fM 0 = -9 := rfl
theorem fM_s {f : Nat} (h : f ≠ 0) : fM f = nI (f - 1) := if_neg h
theorem fM_n {e : Nat} : nI e = fM (e + 1) := by simp [fM]
theorem ms_16 {q f : Nat} : ms F x l q f 72 16 = nI (tka x l q) := m5_16
theorem ms_17 {q f : Nat} : ms F x l q f 72 17 = nI q := m5_17
theorem ms_18 {q f : Nat} : ms F x l q f 72 18 = nI (tkn x l q) := m5_18
theorem ms_19 {q f : Nat} : ms F x l q f 72 19 = nI (tkv x l q) := m5_19
theorem ms_20 {q f : Nat} : ms F x l q f 72 20 = fM f := m5_20
theorem ms_n {q f b : Nat} (h : b ≠ 72) : ms F x l q f b = F b := m5_n h
theorem s143 {b q f : Nat} (ht : mt F x l) (hb : b < 2) (hq : q ≤ l) (hf : f ≤ 161) : q_ex X (143, 0, [.ref 72, .int (nI b), .null], [], q_w t u (ms F x l q f) J) = some (some (.int (nI (tkv x l q))), q_w t u (ms F x l (mMust x l b q f).1 (mMust x l b q f).2) J) := by
  have hl := ht.1
  unfold mMust
  by_cases hf0 : f = 0
  · subst hf0
    rw [if_neg (by simp)]
    by_cases hb1 : b = 1
    · subst hb1
      rw [if_pos rfl]
      have hn : q_ex X (142, 0, [.ref 72], [], q_w t u (ms F x l q 0) J) = some (none, q_w t u (ms F x l (sk x l (tka x l q)) 0) J) := s142 ht (tka_le hq)
      simp (disch := (first | omega | assumption | rfl | (simp (disch := assumption) only [l9_2, l9_4, l9_5, l9_6, l9_7, l9_9, l9_10, l9_11, l9_12, l9_14, l9_15, l9_16, l9_17, l9_51, l9_52, l9_53, l9_55, l9_56, l9_58, l9_61, l9_73, l9_74, l9_75, l9_76, l9_77, l9_79, l9_80, l9_81, l9_82, l9_83, l9_84, l9_85, l10_59, l10_78, l9_D1, l9_D2, l9_D3, l9_D4, l9_T1, l9_T2, l9_T3, l9_T4]; omega) | decide)) only [e143_0, e143_1, e143_4, e143_5, e143_6, e143_9, e143_11, e143_14, e143_15, e143_18, e143_19, e143_22, e143_25, e143_26, e143_27, e143_30, e143_33, e143_34, ↓reduceIte, Nat.reduceAdd, Nat.reduceMul, nI_add, pk_mul, n_lt_t, n_lt_f, n_le_t, n_le_f, n_eq_f, n_eq_t, n_z_f, n_z_t, n_lz, n_zl, not_true_eq_false, not_false_eq_true, ms_19, ms_20, fM_0, hn, Option.bind_some, Option.toList_some, Option.toList_none, List.cons_append, List.nil_append]
    · obtain rfl : b = 0 := by omega
      rw [if_neg (by omega)]
      have hu : q_up (ms F x l q 0) 72 20 (nI q) = ms F x l q (q + 1) := by
        unfold ms
        rw [m5_u20, show fM (q + 1) = nI q from fM_n.symm]
      simp (disch := (first | omega | assumption | rfl | (simp (disch := assumption) only [l9_2, l9_4, l9_5, l9_6, l9_7, l9_9, l9_10, l9_11, l9_12, l9_14, l9_15, l9_16, l9_17, l9_51, l9_52, l9_53, l9_55, l9_56, l9_58, l9_61, l9_73, l9_74, l9_75, l9_76, l9_77, l9_79, l9_80, l9_81, l9_82, l9_83, l9_84, l9_85, l10_59, l10_78, l9_D1, l9_D2, l9_D3, l9_D4, l9_T1, l9_T2, l9_T3, l9_T4]; omega) | decide)) only [e143_0, e143_1, e143_4, e143_5, e143_6, e143_9, e143_11, e143_14, e143_15, e143_18, e143_19, e143_22, e143_25, e143_26, e143_27, e143_30, e143_33, e143_34, ↓reduceIte, Nat.reduceAdd, Nat.reduceMul, nI_add, pk_mul, n_lt_t, n_lt_f, n_le_t, n_le_f, n_eq_f, n_eq_t, n_z_f, n_z_t, n_lz, n_zl, not_true_eq_false, not_false_eq_true, ms_19, ms_17, ms_20, fM_0, hu]
  · rw [if_pos hf0]
    simp (disch := (first | omega | assumption | rfl | (simp (disch := assumption) only [l9_2, l9_4, l9_5, l9_6, l9_7, l9_9, l9_10, l9_11, l9_12, l9_14, l9_15, l9_16, l9_17, l9_51, l9_52, l9_53, l9_55, l9_56, l9_58, l9_61, l9_73, l9_74, l9_75, l9_76, l9_77, l9_79, l9_80, l9_81, l9_82, l9_83, l9_84, l9_85, l10_59, l10_78, l9_D1, l9_D2, l9_D3, l9_D4, l9_T1, l9_T2, l9_T3, l9_T4]; omega) | decide)) only [e143_0, e143_1, e143_4, e143_5, e143_6, e143_9, e143_11, e143_14, e143_15, e143_18, e143_19, e143_22, e143_25, e143_26, e143_27, e143_30, e143_33, e143_34, ↓reduceIte, Nat.reduceAdd, Nat.reduceMul, nI_add, pk_mul, n_lt_t, n_lt_f, n_le_t, n_le_f, n_eq_f, n_eq_t, n_z_f, n_z_t, n_lz, n_zl, not_true_eq_false, not_false_eq_true, ms_19, ms_20, fM_s hf0, n_m9]
theorem s144 {lo hi q f : Nat} (ht : mt F x l) (hq : q ≤ l) (hf : f ≤ 161) (hlo : lo < 100) (hhi : hi < 100) : q_ex X (144, 0, [.ref 72, .int (nI lo), .int (nI hi)], [], q_w t u (ms F x l q f) J) = some (some (.int (nI (tkv x l q))), q_w t u (ms F x l (mN x l lo hi 1000 q f).1 (mN x l lo hi 1000 q f).2) J) := by
  have hv := tkv_le (x := x) (l := l) (q := q) ht.2.2.2
  have hk := tkn_le (x := x) (l := l) (q := q) ht.2.2.2
  unfold mN
  by_cases c1 : tkn x l q = 1
  · by_cases c2 : lo ≤ tkv x l q ∧ tkv x l q ≤ hi
    · rw [if_pos ⟨c1, c2.1, c2.2, by omega⟩]
      simp (disch := (first | omega | assumption | rfl | (simp (disch := assumption) only [l9_2, l9_4, l9_5, l9_6, l9_7, l9_9, l9_10, l9_11, l9_12, l9_14, l9_15, l9_16, l9_17, l9_51, l9_52, l9_53, l9_55, l9_56, l9_58, l9_61, l9_73, l9_74, l9_75, l9_76, l9_77, l9_79, l9_80, l9_81, l9_82, l9_83, l9_84, l9_85, l10_59, l10_78, l9_D1, l9_D2, l9_D3, l9_D4, l9_T1, l9_T2, l9_T3, l9_T4]; omega) | decide)) only [e144_0, e144_1, e144_2, e144_5, e144_6, e144_9, e144_10, e144_13, e144_14, e144_15, e144_18, e144_21, e144_22, e144_25, e144_26, e144_29, ↓reduceIte, Nat.reduceAdd, Nat.reduceMul, nI_add, pk_mul, n_lt_t, n_lt_f, n_le_t, n_le_f, n_eq_f, n_eq_t, n_z_f, n_z_t, n_lz, n_zl, not_true_eq_false, not_false_eq_true, ms_18, ms_19, c1, s85_t c2.1 c2.2, Option.bind_some, Option.toList_some, Option.toList_none, List.cons_append, List.nil_append, s143 ht (show 1 < 2 by omega) hq hf]
    · rw [if_neg (fun z => c2 ⟨z.2.1, z.2.2.1⟩)]
      simp (disch := (first | omega | assumption | rfl | (simp (disch := assumption) only [l9_2, l9_4, l9_5, l9_6, l9_7, l9_9, l9_10, l9_11, l9_12, l9_14, l9_15, l9_16, l9_17, l9_51, l9_52, l9_53, l9_55, l9_56, l9_58, l9_61, l9_73, l9_74, l9_75, l9_76, l9_77, l9_79, l9_80, l9_81, l9_82, l9_83, l9_84, l9_85, l10_59, l10_78, l9_D1, l9_D2, l9_D3, l9_D4, l9_T1, l9_T2, l9_T3, l9_T4]; omega) | decide)) only [e144_0, e144_1, e144_2, e144_5, e144_6, e144_9, e144_10, e144_13, e144_14, e144_15, e144_18, e144_21, e144_22, e144_25, e144_26, e144_29, ↓reduceIte, Nat.reduceAdd, Nat.reduceMul, nI_add, pk_mul, n_lt_t, n_lt_f, n_le_t, n_le_f, n_eq_f, n_eq_t, n_z_f, n_z_t, n_lz, n_zl, not_true_eq_false, not_false_eq_true, ms_18, ms_19, c1, s85_n (show tkv x l q < lo ∨ hi < tkv x l q by omega), Option.bind_some, Option.toList_some, Option.toList_none, List.cons_append, List.nil_append, s143 ht (show 0 < 2 by omega) hq hf]
  · rw [if_neg (fun z => c1 z.1)]
    simp (disch := (first | omega | assumption | rfl | (simp (disch := assumption) only [l9_2, l9_4, l9_5, l9_6, l9_7, l9_9, l9_10, l9_11, l9_12, l9_14, l9_15, l9_16, l9_17, l9_51, l9_52, l9_53, l9_55, l9_56, l9_58, l9_61, l9_73, l9_74, l9_75, l9_76, l9_77, l9_79, l9_80, l9_81, l9_82, l9_83, l9_84, l9_85, l10_59, l10_78, l9_D1, l9_D2, l9_D3, l9_D4, l9_T1, l9_T2, l9_T3, l9_T4]; omega) | decide)) only [e144_0, e144_1, e144_2, e144_5, e144_6, e144_9, e144_10, e144_13, e144_14, e144_15, e144_18, e144_21, e144_22, e144_25, e144_26, e144_29, ↓reduceIte, Nat.reduceAdd, Nat.reduceMul, nI_add, pk_mul, n_lt_t, n_lt_f, n_le_t, n_le_f, n_eq_f, n_eq_t, n_z_f, n_z_t, n_lz, n_zl, not_true_eq_false, not_false_eq_true, ms_18, Option.bind_some, Option.toList_some, Option.toList_none, List.cons_append, List.nil_append, s143 ht (show 0 < 2 by omega) hq hf]
theorem ms_up {q f i : Nat} {v : Int32} : q_up (ms F x l q f) 74 i v = ms (q_up F 74 i v) x l q f := m5_up (by omega)
theorem s145 {i q f : Nat} {v : Int32} (h : f = 0 → i < 49) (hf : f ≤ 161) : q_ex X (145, 0, [.ref 72, .int (nI i), .int v], [], q_w t u (ms F x l q f) J) = some (none, q_w t u (ms (if f = 0 then q_up F 74 i v else F) x l q f) J) := by
  by_cases hf0 : f = 0
  · have hi := h hf0
    subst hf0
    rw [if_pos rfl]
    simp (disch := (first | omega | assumption | rfl | (simp (disch := assumption) only [l9_2, l9_4, l9_5, l9_6, l9_7, l9_9, l9_10, l9_11, l9_12, l9_14, l9_15, l9_16, l9_17, l9_51, l9_52, l9_53, l9_55, l9_56, l9_58, l9_61, l9_73, l9_74, l9_75, l9_76, l9_77, l9_79, l9_80, l9_81, l9_82, l9_83, l9_84, l9_85, l10_59, l10_78, l9_D1, l9_D2, l9_D3, l9_D4, l9_T1, l9_T2, l9_T3, l9_T4]; omega) | decide)) only [e145_0, e145_1, e145_4, e145_6, e145_9, e145_10, e145_13, e145_14, e145_15, e145_16, ↓reduceIte, Nat.reduceAdd, Nat.reduceMul, nI_add, pk_mul, n_lt_t, n_lt_f, n_le_t, n_le_f, n_eq_f, n_eq_t, n_z_f, n_z_t, n_lz, n_zl, not_true_eq_false, not_false_eq_true, ms_20, fM_0, ms_up]
  · rw [if_neg hf0]
    simp (disch := (first | omega | assumption | rfl | (simp (disch := assumption) only [l9_2, l9_4, l9_5, l9_6, l9_7, l9_9, l9_10, l9_11, l9_12, l9_14, l9_15, l9_16, l9_17, l9_51, l9_52, l9_53, l9_55, l9_56, l9_58, l9_61, l9_73, l9_74, l9_75, l9_76, l9_77, l9_79, l9_80, l9_81, l9_82, l9_83, l9_84, l9_85, l10_59, l10_78, l9_D1, l9_D2, l9_D3, l9_D4, l9_T1, l9_T2, l9_T3, l9_T4]; omega) | decide)) only [e145_0, e145_1, e145_4, e145_6, e145_9, e145_10, e145_13, e145_14, e145_15, e145_16, ↓reduceIte, Nat.reduceAdd, Nat.reduceMul, nI_add, pk_mul, n_lt_t, n_lt_f, n_le_t, n_le_f, n_eq_f, n_eq_t, n_z_f, n_z_t, n_lz, n_zl, not_true_eq_false, not_false_eq_true, ms_20, fM_s hf0, n_m9]
theorem mt_up {i : Nat} {v : Int32} {c : Prop} {hc : Decidable c} (ht : mt F x l) : mt (if c then q_up F 74 i v else F) x l := by
  split
  · unfold mt
    rw [q_up_n (by omega), q_up_n (by omega)]
    exact ht
  · exact ht
/-- readItem's last step -/
theorem s146_z {a1 a2 a3 : Value} {q f : Nat} (ht : mt F x l) (hq : q ≤ l) (hf : f ≤ 161) : q_ex X (146, 220, [.ref 72, a1, a2, a3], [], q_w t u (ms F x l q f) J) = some (none, q_w t u (ms F x l (mMust x l (if tkn x l q = 59 then 1 else 0) q f).1 (mMust x l (if tkn x l q = 59 then 1 else 0) q f).2) J) := by
  have hk := tkn_le (x := x) (l := l) (q := q) ht.2.2.2
  by_cases c1 : tkn x l q = 59
  · rw [if_pos c1]
    simp (disch := (first | omega | assumption | rfl | (simp (disch := assumption) only [l9_2, l9_4, l9_5, l9_6, l9_7, l9_9, l9_10, l9_11, l9_12, l9_14, l9_15, l9_16, l9_17, l9_51, l9_52, l9_53, l9_55, l9_56, l9_58, l9_61, l9_73, l9_74, l9_75, l9_76, l9_77, l9_79, l9_80, l9_81, l9_82, l9_83, l9_84, l9_85, l10_59, l10_78, l9_D1, l9_D2, l9_D3, l9_D4, l9_T1, l9_T2, l9_T3, l9_T4]; omega) | decide)) only [e146_0, e146_1, e146_4, e146_5, e146_6, e146_7, e146_10, e146_13, e146_14, e146_15, e146_18, e146_20, e146_23, e146_24, e146_25, e146_27, e146_30, e146_31, e146_34, e146_35, e146_36, e146_37, e146_40, e146_41, e146_42, e146_44, e146_47, e146_48, e146_50, e146_51, e146_52, e146_54, e146_57, e146_60, e146_63, e146_64, e146_66, e146_69, e146_70, e146_72, e146_73, e146_74, e146_75, e146_76, e146_78, e146_81, e146_84, e146_87, e146_88, e146_90, e146_93, e146_94, e146_95, e146_96, e146_99, e146_100, e146_101, e146_103, e146_104, e146_105, e146_106, e146_107, e146_108, e146_109, e146_110, e146_111, e146_113, e146_116, e146_119, e146_122, e146_123, e146_125, e146_128, e146_129, e146_130, e146_131, e146_134, e146_135, e146_136, e146_137, e146_138, e146_139, e146_140, e146_141, e146_142, e146_143, e146_144, e146_147, e146_148, e146_151, e146_152, e146_154, e146_157, e146_160, e146_163, e146_164, e146_165, e146_168, e146_169, e146_172, e146_173, e146_176, e146_177, e146_178, e146_181, e146_184, e146_185, e146_188, e146_189, e146_192, e146_193, e146_196, e146_197, e146_200, e146_201, e146_202, e146_204, e146_205, e146_206, e146_207, e146_208, e146_209, e146_210, e146_211, e146_212, e146_214, e146_217, e146_221, e146_222, e146_225, e146_227, e146_230, e146_231, e146_234, e146_235, e146_238, e146_239, e146_220, ↓reduceIte, Nat.reduceAdd, Nat.reduceMul, nI_add, pk_mul, n_lt_t, n_lt_f, n_le_t, n_le_f, n_eq_f, n_eq_t, n_z_f, n_z_t, n_lz, n_zl, not_true_eq_false, not_false_eq_true, ms_18, c1, s143 ht (show 1 < 2 by omega) hq hf, Option.bind_some, Option.toList_some, Option.toList_none, List.cons_append, List.nil_append]
  · rw [if_neg c1]
    simp (disch := (first | omega | assumption | rfl | (simp (disch := assumption) only [l9_2, l9_4, l9_5, l9_6, l9_7, l9_9, l9_10, l9_11, l9_12, l9_14, l9_15, l9_16, l9_17, l9_51, l9_52, l9_53, l9_55, l9_56, l9_58, l9_61, l9_73, l9_74, l9_75, l9_76, l9_77, l9_79, l9_80, l9_81, l9_82, l9_83, l9_84, l9_85, l10_59, l10_78, l9_D1, l9_D2, l9_D3, l9_D4, l9_T1, l9_T2, l9_T3, l9_T4]; omega) | decide)) only [e146_0, e146_1, e146_4, e146_5, e146_6, e146_7, e146_10, e146_13, e146_14, e146_15, e146_18, e146_20, e146_23, e146_24, e146_25, e146_27, e146_30, e146_31, e146_34, e146_35, e146_36, e146_37, e146_40, e146_41, e146_42, e146_44, e146_47, e146_48, e146_50, e146_51, e146_52, e146_54, e146_57, e146_60, e146_63, e146_64, e146_66, e146_69, e146_70, e146_72, e146_73, e146_74, e146_75, e146_76, e146_78, e146_81, e146_84, e146_87, e146_88, e146_90, e146_93, e146_94, e146_95, e146_96, e146_99, e146_100, e146_101, e146_103, e146_104, e146_105, e146_106, e146_107, e146_108, e146_109, e146_110, e146_111, e146_113, e146_116, e146_119, e146_122, e146_123, e146_125, e146_128, e146_129, e146_130, e146_131, e146_134, e146_135, e146_136, e146_137, e146_138, e146_139, e146_140, e146_141, e146_142, e146_143, e146_144, e146_147, e146_148, e146_151, e146_152, e146_154, e146_157, e146_160, e146_163, e146_164, e146_165, e146_168, e146_169, e146_172, e146_173, e146_176, e146_177, e146_178, e146_181, e146_184, e146_185, e146_188, e146_189, e146_192, e146_193, e146_196, e146_197, e146_200, e146_201, e146_202, e146_204, e146_205, e146_206, e146_207, e146_208, e146_209, e146_210, e146_211, e146_212, e146_214, e146_217, e146_221, e146_222, e146_225, e146_227, e146_230, e146_231, e146_234, e146_235, e146_238, e146_239, e146_220, ↓reduceIte, Nat.reduceAdd, Nat.reduceMul, nI_add, pk_mul, n_lt_t, n_lt_f, n_le_t, n_le_f, n_eq_f, n_eq_t, n_z_f, n_z_t, n_lz, n_zl, not_true_eq_false, not_false_eq_true, ms_18, s143 ht (show 0 < 2 by omega) hq hf, Option.bind_some, Option.toList_some, Option.toList_none, List.cons_append, List.nil_append]
theorem s146_e {q : Nat} (ht : mt F x l) (hql : q < l) (hk : x q = 101) : ∃ q' F', q_ex X (146, 0, [.ref 72, .null, .null, .null], [], q_w t u (ms F x l q 0) J) = some (none, q_w t u (ms F' x l q' (iI x l q).2.2.2.2) J) ∧ ((iI x l q).2.2.2.2 = 0 → q' = sk x l (iI x l q).2.2.2.1 ∧ F' = q_up F 74 (iI x l q).2.1 (nI (iI x l q).2.2.1)) ∧ (∀ b, b ≠ 74 → F' b = F b) ∧ q' ≤ l := by
  have hl := ht.1
  have hK : isK (x q) := Or.inl hk
  have htk := tokK (x := x) hql
  have etk := (htk.2 hK).1
  have eta := (htk.2 hK).2
  have hi : iI x l q = ((cE x l (c3 x l 3 1000 (lo3 x l (q + 1)) 30 (q + 1))).1, 4 * (c1 x l (q + 1)).1 + (c2 x l 3 1000 (q + 1)).1, (c3 x l 3 1000 (lo3 x l (q + 1)) 30 (q + 1)).1, (cE x l (c3 x l 3 1000 (lo3 x l (q + 1)) 30 (q + 1))).2.1, (cE x l (c3 x l 3 1000 (lo3 x l (q + 1)) 30 (q + 1))).2.2) := by
    unfold iI iR iX
    rw [if_pos hK, hk]
    rfl
  rw [hi]
  dsimp only
  have hq1 := sk_le (x := x) (l := l) (p := q + 1) (by omega)
  have hm0 : q_ex X (143, 0, [.ref 72, .int (nI 1), .null], [], q_w t u (ms F x l q 0) J) = some (some (.int (nI (tkv x l q))), q_w t u (ms F x l (sk x l (q + 1)) 0) J) := by
    have := s143 (X := X) (t := t) (u := u) (J := J) (b := 1) (f := 0) ht (by omega) (by omega : q ≤ l) (by omega)
    simp only [mMust, eta] at this
    exact this
  have h141 : ∀ w : q_M, q_ex X (141, 0, [.int (nI 101)], [], w) = some (some (.int (nI 1)), w) := fun w => s141 (k := 101) (by omega)
  have hv0 := tkv_le (x := x) (l := l) (q := sk x l (q + 1)) ht.2.2.2
  generalize hq1e : sk x l (q + 1) = q1 at hq1 hm0 hv0
  have r1 := num_rel (x := x) (l := l) (loC := 0) (loM := 0) (hi := 3) (bC := 1000) (bM := 1000) (p := (q + 1)) (q := q1) (f := 0) hq1 (fun _ => ⟨hq1e.symm, rfl, rfl⟩)
  rw [show cNum x l 0 3 1000 (q + 1) 0 = (c1 x l (q + 1)) from rfl] at r1
  have l1 := mMust_le (x := x) (b := if nOK x l 0 3 1000 q1 then 1 else 0) (q := q1) (f := 0) hl hq1 (Nat.zero_le _)
  have v1 := tkv_le (x := x) (l := l) (q := (mN x l 0 3 1000 q1 0).1) ht.2.2.2
  have e1 := s144 (X := X) (t := t) (u := u) (J := J) (lo := 0) (hi := 3) (q := q1) (f := 0) ht hq1 (Nat.zero_le _) (by omega) (by omega)
  change (mN x l 0 3 1000 q1 0).1 ≤ l ∧ (mN x l 0 3 1000 q1 0).2 ≤ 161 at l1
  generalize hm1 : mN x l 0 3 1000 q1 0 = m1 at r1 l1 v1 e1
  have e_f1 := r1.1
  have r2 := num_rel (x := x) (l := l) (loC := 0) (loM := 0) (hi := 3) (bC := 1000) (bM := 1000) (p := (c1 x l (q + 1)).2.1) (q := m1.1) (f := m1.2) l1.1 (fun z => ⟨(r1.2 z).2.1, rfl, rfl⟩)
  rw [show cNum x l (0) 3 (1000) (c1 x l (q + 1)).2.1 m1.2 = (c2 x l 3 1000 (q + 1)) from by rw [e_f1]; rfl] at r2
  have l2 := mMust_le (x := x) (b := if nOK x l 0 3 1000 m1.1 then 1 else 0) (q := m1.1) (f := m1.2) hl l1.1 l1.2
  have v2 := tkv_le (x := x) (l := l) (q := (mN x l 0 3 1000 m1.1 m1.2).1) ht.2.2.2
  have e2 := s144 (X := X) (t := t) (u := u) (J := J) (lo := 0) (hi := 3) (q := m1.1) (f := m1.2) ht l1.1 l1.2 (by omega) (by omega)
  change (mN x l 0 3 1000 m1.1 m1.2).1 ≤ l ∧ (mN x l 0 3 1000 m1.1 m1.2).2 ≤ 161 at l2
  generalize hm2 : mN x l 0 3 1000 m1.1 m1.2 = m2 at r2 l2 v2 e2
  have e_f2 := r2.1
  have r3 := num_rel (x := x) (l := l) (loC := lo3 x l (q + 1)) (loM := (if tkv x l m1.1 = tkv x l q1 then 1 else 0)) (hi := 30) (bC := 1000) (bM := 1000) (p := (c2 x l 3 1000 (q + 1)).2.1) (q := m2.1) (f := m2.2) l2.1 (fun z => ⟨(r2.2 z).2.1, by unfold lo3; rw [(r2.2 z).2.2, (r1.2 (r2.2 z).1).2.2], rfl⟩)
  rw [show cNum x l (lo3 x l (q + 1)) 30 (1000) (c2 x l 3 1000 (q + 1)).2.1 m2.2 = (c3 x l 3 1000 (lo3 x l (q + 1)) 30 (q + 1)) from by rw [e_f2]; rfl] at r3
  have l3 := mMust_le (x := x) (b := if nOK x l (if tkv x l m1.1 = tkv x l q1 then 1 else 0) 30 1000 m2.1 then 1 else 0) (q := m2.1) (f := m2.2) hl l2.1 l2.2
  have v3 := tkv_le (x := x) (l := l) (q := (mN x l (if tkv x l m1.1 = tkv x l q1 then 1 else 0) 30 1000 m2.1 m2.2).1) ht.2.2.2
  have e3 := s144 (X := X) (t := t) (u := u) (J := J) (lo := (if tkv x l m1.1 = tkv x l q1 then 1 else 0)) (hi := 30) (q := m2.1) (f := m2.2) ht l2.1 l2.2 (by split <;> omega) (by omega)
  change (mN x l (if tkv x l m1.1 = tkv x l q1 then 1 else 0) 30 1000 m2.1 m2.2).1 ≤ l ∧ (mN x l (if tkv x l m1.1 = tkv x l q1 then 1 else 0) 30 1000 m2.1 m2.2).2 ≤ 161 at l3
  generalize hm3 : mN x l (if tkv x l m1.1 = tkv x l q1 then 1 else 0) 30 1000 m2.1 m2.2 = m3 at r3 l3 v3 e3
  have e_f3 := r3.1
  have bc := c1_le (x := x) (l := l) (p := q + 1) hl (by omega)
  have bd := c2_le (x := x) (l := l) (hi := 3) (b := 1000) (p := q + 1) hl (by omega)
  have hix : m3.2 = 0 → 4 * tkv x l q1 + tkv x l m1.1 < 49 := fun z => by
    have a2 := (r2.2 (r3.2 z).1).2.2
    have a1 := (r1.2 (r2.2 (r3.2 z).1).1).2.2
    omega
  have ely := s145 (X := X) (t := t) (u := u) (J := J) (F := F) (x := x) (l := l) (i := 4 * tkv x l q1 + tkv x l m1.1) (q := m3.1) (f := m3.2) (v := nI (tkv x l m2.1)) hix l3.2
  have een := fun a1 a2 a3 => s146_z (X := X) (t := t) (u := u) (J := J) (a1 := a1) (a2 := a2) (a3 := a3) (mt_up (i := 4 * tkv x l q1 + tkv x l m1.1) (v := nI (tkv x l m2.1)) (c := m3.2 = 0) (hc := inferInstance) ht) l3.1 l3.2
  have rE := end_rel (x := x) (l := l) (p := (c3 x l 3 1000 (lo3 x l (q + 1)) 30 (q + 1)).2.1) (q := m3.1) (f := m3.2) (fun z => (r3.2 z).2.1)
  rw [show cEnd x l (c3 x l 3 1000 (lo3 x l (q + 1)) 30 (q + 1)).2.1 m3.2 = cE x l (c3 x l 3 1000 (lo3 x l (q + 1)) 30 (q + 1)) from by rw [e_f3]; rfl] at rE
  have lE := mMust_le (x := x) (b := if tkn x l m3.1 = 59 then 1 else 0) hl l3.1 l3.2
  refine ⟨(mMust x l (if tkn x l m3.1 = 59 then 1 else 0) m3.1 m3.2).1, if m3.2 = 0 then q_up F 74 (4 * tkv x l q1 + tkv x l m1.1) (nI (tkv x l m2.1)) else F, ?_, ?_, ?_, lE.1⟩
  · rw [← rE.1]
    by_cases hij : tkv x l m1.1 = tkv x l q1
    · rw [if_pos hij] at e3
      simp (disch := (first | omega | assumption | rfl | (simp (disch := assumption) only [l9_2, l9_4, l9_5, l9_6, l9_7, l9_9, l9_10, l9_11, l9_12, l9_14, l9_15, l9_16, l9_17, l9_51, l9_52, l9_53, l9_55, l9_56, l9_58, l9_61, l9_73, l9_74, l9_75, l9_76, l9_77, l9_79, l9_80, l9_81, l9_82, l9_83, l9_84, l9_85, l10_59, l10_78, l9_D1, l9_D2, l9_D3, l9_D4, l9_T1, l9_T2, l9_T3, l9_T4]; omega) | decide)) only [e146_0, e146_1, e146_4, e146_5, e146_6, e146_7, e146_10, e146_13, e146_14, e146_15, e146_18, e146_20, e146_23, e146_24, e146_25, e146_27, e146_30, e146_31, e146_34, e146_35, e146_36, e146_37, e146_40, e146_41, e146_42, e146_44, e146_47, e146_48, e146_50, e146_51, e146_52, e146_54, e146_57, e146_60, e146_63, e146_64, e146_66, e146_69, e146_70, e146_72, e146_73, e146_74, e146_75, e146_76, e146_78, e146_81, e146_84, e146_87, e146_88, e146_90, e146_93, e146_94, e146_95, e146_96, e146_99, e146_100, e146_101, e146_103, e146_104, e146_105, e146_106, e146_107, e146_108, e146_109, e146_110, e146_111, e146_113, e146_116, e146_119, e146_122, e146_123, e146_125, e146_128, e146_129, e146_130, e146_131, e146_134, e146_135, e146_136, e146_137, e146_138, e146_139, e146_140, e146_141, e146_142, e146_143, e146_144, e146_147, e146_148, e146_151, e146_152, e146_154, e146_157, e146_160, e146_163, e146_164, e146_165, e146_168, e146_169, e146_172, e146_173, e146_176, e146_177, e146_178, e146_181, e146_184, e146_185, e146_188, e146_189, e146_192, e146_193, e146_196, e146_197, e146_200, e146_201, e146_202, e146_204, e146_205, e146_206, e146_207, e146_208, e146_209, e146_210, e146_211, e146_212, e146_214, e146_217, e146_221, e146_222, e146_225, e146_227, e146_230, e146_231, e146_234, e146_235, e146_238, e146_239, ↓reduceIte, Nat.reduceAdd, Nat.reduceMul, nI_add, pk_mul, n_lt_t, n_lt_f, n_le_t, n_le_f, n_eq_f, n_eq_t, n_z_f, n_z_t, n_lz, n_zl, not_true_eq_false, not_false_eq_true, ms_18, ms_20, etk, hk, fM_0, h141, hm0, Option.bind_some, Option.toList_some, Option.toList_none, List.cons_append, List.nil_append, e1, e2, e3, hij]
      rw [hij] at ely een
      simp (disch := (first | omega | assumption | rfl | (simp (disch := assumption) only [l9_2, l9_4, l9_5, l9_6, l9_7, l9_9, l9_10, l9_11, l9_12, l9_14, l9_15, l9_16, l9_17, l9_51, l9_52, l9_53, l9_55, l9_56, l9_58, l9_61, l9_73, l9_74, l9_75, l9_76, l9_77, l9_79, l9_80, l9_81, l9_82, l9_83, l9_84, l9_85, l10_59, l10_78, l9_D1, l9_D2, l9_D3, l9_D4, l9_T1, l9_T2, l9_T3, l9_T4]; omega) | decide)) only [e146_0, e146_1, e146_4, e146_5, e146_6, e146_7, e146_10, e146_13, e146_14, e146_15, e146_18, e146_20, e146_23, e146_24, e146_25, e146_27, e146_30, e146_31, e146_34, e146_35, e146_36, e146_37, e146_40, e146_41, e146_42, e146_44, e146_47, e146_48, e146_50, e146_51, e146_52, e146_54, e146_57, e146_60, e146_63, e146_64, e146_66, e146_69, e146_70, e146_72, e146_73, e146_74, e146_75, e146_76, e146_78, e146_81, e146_84, e146_87, e146_88, e146_90, e146_93, e146_94, e146_95, e146_96, e146_99, e146_100, e146_101, e146_103, e146_104, e146_105, e146_106, e146_107, e146_108, e146_109, e146_110, e146_111, e146_113, e146_116, e146_119, e146_122, e146_123, e146_125, e146_128, e146_129, e146_130, e146_131, e146_134, e146_135, e146_136, e146_137, e146_138, e146_139, e146_140, e146_141, e146_142, e146_143, e146_144, e146_147, e146_148, e146_151, e146_152, e146_154, e146_157, e146_160, e146_163, e146_164, e146_165, e146_168, e146_169, e146_172, e146_173, e146_176, e146_177, e146_178, e146_181, e146_184, e146_185, e146_188, e146_189, e146_192, e146_193, e146_196, e146_197, e146_200, e146_201, e146_202, e146_204, e146_205, e146_206, e146_207, e146_208, e146_209, e146_210, e146_211, e146_212, e146_214, e146_217, e146_221, e146_222, e146_225, e146_227, e146_230, e146_231, e146_234, e146_235, e146_238, e146_239, ↓reduceIte, Nat.reduceAdd, Nat.reduceMul, nI_add, pk_mul, n_lt_t, n_lt_f, n_le_t, n_le_f, n_eq_f, n_eq_t, n_z_f, n_z_t, n_lz, n_zl, not_true_eq_false, not_false_eq_true, Option.bind_some, Option.toList_some, Option.toList_none, List.cons_append, List.nil_append, ely, een]
    · rw [if_neg hij] at e3
      simp (disch := (first | omega | assumption | rfl | (simp (disch := assumption) only [l9_2, l9_4, l9_5, l9_6, l9_7, l9_9, l9_10, l9_11, l9_12, l9_14, l9_15, l9_16, l9_17, l9_51, l9_52, l9_53, l9_55, l9_56, l9_58, l9_61, l9_73, l9_74, l9_75, l9_76, l9_77, l9_79, l9_80, l9_81, l9_82, l9_83, l9_84, l9_85, l10_59, l10_78, l9_D1, l9_D2, l9_D3, l9_D4, l9_T1, l9_T2, l9_T3, l9_T4]; omega) | decide)) only [e146_0, e146_1, e146_4, e146_5, e146_6, e146_7, e146_10, e146_13, e146_14, e146_15, e146_18, e146_20, e146_23, e146_24, e146_25, e146_27, e146_30, e146_31, e146_34, e146_35, e146_36, e146_37, e146_40, e146_41, e146_42, e146_44, e146_47, e146_48, e146_50, e146_51, e146_52, e146_54, e146_57, e146_60, e146_63, e146_64, e146_66, e146_69, e146_70, e146_72, e146_73, e146_74, e146_75, e146_76, e146_78, e146_81, e146_84, e146_87, e146_88, e146_90, e146_93, e146_94, e146_95, e146_96, e146_99, e146_100, e146_101, e146_103, e146_104, e146_105, e146_106, e146_107, e146_108, e146_109, e146_110, e146_111, e146_113, e146_116, e146_119, e146_122, e146_123, e146_125, e146_128, e146_129, e146_130, e146_131, e146_134, e146_135, e146_136, e146_137, e146_138, e146_139, e146_140, e146_141, e146_142, e146_143, e146_144, e146_147, e146_148, e146_151, e146_152, e146_154, e146_157, e146_160, e146_163, e146_164, e146_165, e146_168, e146_169, e146_172, e146_173, e146_176, e146_177, e146_178, e146_181, e146_184, e146_185, e146_188, e146_189, e146_192, e146_193, e146_196, e146_197, e146_200, e146_201, e146_202, e146_204, e146_205, e146_206, e146_207, e146_208, e146_209, e146_210, e146_211, e146_212, e146_214, e146_217, e146_221, e146_222, e146_225, e146_227, e146_230, e146_231, e146_234, e146_235, e146_238, e146_239, ↓reduceIte, Nat.reduceAdd, Nat.reduceMul, nI_add, pk_mul, n_lt_t, n_lt_f, n_le_t, n_le_f, n_eq_f, n_eq_t, n_z_f, n_z_t, n_lz, n_zl, not_true_eq_false, not_false_eq_true, ms_18, ms_20, etk, hk, fM_0, h141, hm0, Option.bind_some, Option.toList_some, Option.toList_none, List.cons_append, List.nil_append, e1, e2, e3, ely, een]
  · intro z
    rw [← rE.1] at z
    obtain ⟨z1, z2⟩ := rE.2 z
    refine ⟨z2, ?_⟩
    rw [if_pos z1]
    have a3 := (r3.2 z1).2.2
    have a2 := (r2.2 (r3.2 z1).1).2.2
    have a1 := (r1.2 (r2.2 (r3.2 z1).1).1).2.2
    rw [a3, a2, a1]
  · intro b hb
    split
    · exact q_up_n hb
    · rfl
theorem s146_n {q : Nat} (ht : mt F x l) (hql : q < l) (hk : x q = 110) : ∃ q' F', q_ex X (146, 0, [.ref 72, .null, .null, .null], [], q_w t u (ms F x l q 0) J) = some (none, q_w t u (ms F' x l q' (iI x l q).2.2.2.2) J) ∧ ((iI x l q).2.2.2.2 = 0 → q' = sk x l (iI x l q).2.2.2.1 ∧ F' = q_up F 74 (iI x l q).2.1 (nI (iI x l q).2.2.1)) ∧ (∀ b, b ≠ 74 → F' b = F b) ∧ q' ≤ l := by
  have hl := ht.1
  have hK : isK (x q) := Or.inr (Or.inl hk)
  have htk := tokK (x := x) hql
  have etk := (htk.2 hK).1
  have eta := (htk.2 hK).2
  have hi : iI x l q = ((cE x l (c3 x l 2 1000 0 20 (q + 1))).1, 16 + (3 * (c1 x l (q + 1)).1 + (c2 x l 2 1000 (q + 1)).1), (c3 x l 2 1000 0 20 (q + 1)).1, (cE x l (c3 x l 2 1000 0 20 (q + 1))).2.1, (cE x l (c3 x l 2 1000 0 20 (q + 1))).2.2) := by
    unfold iI iR iX
    rw [if_pos hK, hk]
    rfl
  rw [hi]
  dsimp only
  have hq1 := sk_le (x := x) (l := l) (p := q + 1) (by omega)
  have hm0 : q_ex X (143, 0, [.ref 72, .int (nI 1), .null], [], q_w t u (ms F x l q 0) J) = some (some (.int (nI (tkv x l q))), q_w t u (ms F x l (sk x l (q + 1)) 0) J) := by
    have := s143 (X := X) (t := t) (u := u) (J := J) (b := 1) (f := 0) ht (by omega) (by omega : q ≤ l) (by omega)
    simp only [mMust, eta] at this
    exact this
  have h141 : ∀ w : q_M, q_ex X (141, 0, [.int (nI 110)], [], w) = some (some (.int (nI 1)), w) := fun w => s141 (k := 110) (by omega)
  have hv0 := tkv_le (x := x) (l := l) (q := sk x l (q + 1)) ht.2.2.2
  generalize hq1e : sk x l (q + 1) = q1 at hq1 hm0 hv0
  have r1 := num_rel (x := x) (l := l) (loC := 0) (loM := 0) (hi := 3) (bC := 1000) (bM := 1000) (p := (q + 1)) (q := q1) (f := 0) hq1 (fun _ => ⟨hq1e.symm, rfl, rfl⟩)
  rw [show cNum x l 0 3 1000 (q + 1) 0 = (c1 x l (q + 1)) from rfl] at r1
  have l1 := mMust_le (x := x) (b := if nOK x l 0 3 1000 q1 then 1 else 0) (q := q1) (f := 0) hl hq1 (Nat.zero_le _)
  have v1 := tkv_le (x := x) (l := l) (q := (mN x l 0 3 1000 q1 0).1) ht.2.2.2
  have e1 := s144 (X := X) (t := t) (u := u) (J := J) (lo := 0) (hi := 3) (q := q1) (f := 0) ht hq1 (Nat.zero_le _) (by omega) (by omega)
  change (mN x l 0 3 1000 q1 0).1 ≤ l ∧ (mN x l 0 3 1000 q1 0).2 ≤ 161 at l1
  generalize hm1 : mN x l 0 3 1000 q1 0 = m1 at r1 l1 v1 e1
  have e_f1 := r1.1
  have r2 := num_rel (x := x) (l := l) (loC := 0) (loM := 0) (hi := 2) (bC := 1000) (bM := 1000) (p := (c1 x l (q + 1)).2.1) (q := m1.1) (f := m1.2) l1.1 (fun z => ⟨(r1.2 z).2.1, rfl, rfl⟩)
  rw [show cNum x l (0) 2 (1000) (c1 x l (q + 1)).2.1 m1.2 = (c2 x l 2 1000 (q + 1)) from by rw [e_f1]; rfl] at r2
  have l2 := mMust_le (x := x) (b := if nOK x l 0 2 1000 m1.1 then 1 else 0) (q := m1.1) (f := m1.2) hl l1.1 l1.2
  have v2 := tkv_le (x := x) (l := l) (q := (mN x l 0 2 1000 m1.1 m1.2).1) ht.2.2.2
  have e2 := s144 (X := X) (t := t) (u := u) (J := J) (lo := 0) (hi := 2) (q := m1.1) (f := m1.2) ht l1.1 l1.2 (by omega) (by omega)
  change (mN x l 0 2 1000 m1.1 m1.2).1 ≤ l ∧ (mN x l 0 2 1000 m1.1 m1.2).2 ≤ 161 at l2
  generalize hm2 : mN x l 0 2 1000 m1.1 m1.2 = m2 at r2 l2 v2 e2
  have e_f2 := r2.1
  have r3 := num_rel (x := x) (l := l) (loC := 0) (loM := 0) (hi := 20) (bC := 1000) (bM := 1000) (p := (c2 x l 2 1000 (q + 1)).2.1) (q := m2.1) (f := m2.2) l2.1 (fun z => ⟨(r2.2 z).2.1, rfl, rfl⟩)
  rw [show cNum x l (0) 20 (1000) (c2 x l 2 1000 (q + 1)).2.1 m2.2 = (c3 x l 2 1000 0 20 (q + 1)) from by rw [e_f2]; rfl] at r3
  have l3 := mMust_le (x := x) (b := if nOK x l 0 20 1000 m2.1 then 1 else 0) (q := m2.1) (f := m2.2) hl l2.1 l2.2
  have v3 := tkv_le (x := x) (l := l) (q := (mN x l 0 20 1000 m2.1 m2.2).1) ht.2.2.2
  have e3 := s144 (X := X) (t := t) (u := u) (J := J) (lo := 0) (hi := 20) (q := m2.1) (f := m2.2) ht l2.1 l2.2 (by omega) (by omega)
  change (mN x l 0 20 1000 m2.1 m2.2).1 ≤ l ∧ (mN x l 0 20 1000 m2.1 m2.2).2 ≤ 161 at l3
  generalize hm3 : mN x l 0 20 1000 m2.1 m2.2 = m3 at r3 l3 v3 e3
  have e_f3 := r3.1
  have bc := c1_le (x := x) (l := l) (p := q + 1) hl (by omega)
  have bd := c2_le (x := x) (l := l) (hi := 2) (b := 1000) (p := q + 1) hl (by omega)
  have hix : m3.2 = 0 → 16 + 3 * tkv x l q1 + tkv x l m1.1 < 49 := fun z => by
    have a2 := (r2.2 (r3.2 z).1).2.2
    have a1 := (r1.2 (r2.2 (r3.2 z).1).1).2.2
    omega
  have ely := s145 (X := X) (t := t) (u := u) (J := J) (F := F) (x := x) (l := l) (i := 16 + 3 * tkv x l q1 + tkv x l m1.1) (q := m3.1) (f := m3.2) (v := nI (tkv x l m2.1)) hix l3.2
  have een := fun a1 a2 a3 => s146_z (X := X) (t := t) (u := u) (J := J) (a1 := a1) (a2 := a2) (a3 := a3) (mt_up (i := 16 + 3 * tkv x l q1 + tkv x l m1.1) (v := nI (tkv x l m2.1)) (c := m3.2 = 0) (hc := inferInstance) ht) l3.1 l3.2
  have rE := end_rel (x := x) (l := l) (p := (c3 x l 2 1000 0 20 (q + 1)).2.1) (q := m3.1) (f := m3.2) (fun z => (r3.2 z).2.1)
  rw [show cEnd x l (c3 x l 2 1000 0 20 (q + 1)).2.1 m3.2 = cE x l (c3 x l 2 1000 0 20 (q + 1)) from by rw [e_f3]; rfl] at rE
  have lE := mMust_le (x := x) (b := if tkn x l m3.1 = 59 then 1 else 0) hl l3.1 l3.2
  refine ⟨(mMust x l (if tkn x l m3.1 = 59 then 1 else 0) m3.1 m3.2).1, if m3.2 = 0 then q_up F 74 (16 + 3 * tkv x l q1 + tkv x l m1.1) (nI (tkv x l m2.1)) else F, ?_, ?_, ?_, lE.1⟩
  · rw [← rE.1]
    simp (disch := (first | omega | assumption | rfl | (simp (disch := assumption) only [l9_2, l9_4, l9_5, l9_6, l9_7, l9_9, l9_10, l9_11, l9_12, l9_14, l9_15, l9_16, l9_17, l9_51, l9_52, l9_53, l9_55, l9_56, l9_58, l9_61, l9_73, l9_74, l9_75, l9_76, l9_77, l9_79, l9_80, l9_81, l9_82, l9_83, l9_84, l9_85, l10_59, l10_78, l9_D1, l9_D2, l9_D3, l9_D4, l9_T1, l9_T2, l9_T3, l9_T4]; omega) | decide)) only [e146_0, e146_1, e146_4, e146_5, e146_6, e146_7, e146_10, e146_13, e146_14, e146_15, e146_18, e146_20, e146_23, e146_24, e146_25, e146_27, e146_30, e146_31, e146_34, e146_35, e146_36, e146_37, e146_40, e146_41, e146_42, e146_44, e146_47, e146_48, e146_50, e146_51, e146_52, e146_54, e146_57, e146_60, e146_63, e146_64, e146_66, e146_69, e146_70, e146_72, e146_73, e146_74, e146_75, e146_76, e146_78, e146_81, e146_84, e146_87, e146_88, e146_90, e146_93, e146_94, e146_95, e146_96, e146_99, e146_100, e146_101, e146_103, e146_104, e146_105, e146_106, e146_107, e146_108, e146_109, e146_110, e146_111, e146_113, e146_116, e146_119, e146_122, e146_123, e146_125, e146_128, e146_129, e146_130, e146_131, e146_134, e146_135, e146_136, e146_137, e146_138, e146_139, e146_140, e146_141, e146_142, e146_143, e146_144, e146_147, e146_148, e146_151, e146_152, e146_154, e146_157, e146_160, e146_163, e146_164, e146_165, e146_168, e146_169, e146_172, e146_173, e146_176, e146_177, e146_178, e146_181, e146_184, e146_185, e146_188, e146_189, e146_192, e146_193, e146_196, e146_197, e146_200, e146_201, e146_202, e146_204, e146_205, e146_206, e146_207, e146_208, e146_209, e146_210, e146_211, e146_212, e146_214, e146_217, e146_221, e146_222, e146_225, e146_227, e146_230, e146_231, e146_234, e146_235, e146_238, e146_239, ↓reduceIte, Nat.reduceAdd, Nat.reduceMul, nI_add, pk_mul, n_lt_t, n_lt_f, n_le_t, n_le_f, n_eq_f, n_eq_t, n_z_f, n_z_t, n_lz, n_zl, not_true_eq_false, not_false_eq_true, ms_18, ms_20, etk, hk, fM_0, h141, hm0, Option.bind_some, Option.toList_some, Option.toList_none, List.cons_append, List.nil_append, e1, e2, e3, ely, een]
  · intro z
    rw [← rE.1] at z
    obtain ⟨z1, z2⟩ := rE.2 z
    refine ⟨z2, ?_⟩
    rw [if_pos z1]
    have a3 := (r3.2 z1).2.2
    have a2 := (r2.2 (r3.2 z1).1).2.2
    have a1 := (r1.2 (r2.2 (r3.2 z1).1).1).2.2
    rw [a3, a2, a1]
    rw [Nat.add_assoc]
  · intro b hb
    split
    · exact q_up_n hb
    · rfl
theorem s146_g {q : Nat} (ht : mt F x l) (hql : q < l) (hk : x q = 103) : ∃ q' F', q_ex X (146, 0, [.ref 72, .null, .null, .null], [], q_w t u (ms F x l q 0) J) = some (none, q_w t u (ms F' x l q' (iI x l q).2.2.2.2) J) ∧ ((iI x l q).2.2.2.2 = 0 → q' = sk x l (iI x l q).2.2.2.1 ∧ F' = q_up F 74 (iI x l q).2.1 (nI (iI x l q).2.2.1)) ∧ (∀ b, b ≠ 74 → F' b = F b) ∧ q' ≤ l := by
  have hl := ht.1
  have hK : isK (x q) := Or.inr (Or.inr (Or.inl hk))
  have htk := tokK (x := x) hql
  have etk := (htk.2 hK).1
  have eta := (htk.2 hK).2
  have hi : iI x l q = ((cE x l (c3 x l 3 (c1 x l (q + 1)).1 0 9 (q + 1))).1, 28 + (4 * (c1 x l (q + 1)).1 + (c2 x l 3 (c1 x l (q + 1)).1 (q + 1)).1), (c3 x l 3 (c1 x l (q + 1)).1 0 9 (q + 1)).1, (cE x l (c3 x l 3 (c1 x l (q + 1)).1 0 9 (q + 1))).2.1, (cE x l (c3 x l 3 (c1 x l (q + 1)).1 0 9 (q + 1))).2.2) := by
    unfold iI iR iX
    rw [if_pos hK, hk]
    rfl
  rw [hi]
  dsimp only
  have hq1 := sk_le (x := x) (l := l) (p := q + 1) (by omega)
  have hm0 : q_ex X (143, 0, [.ref 72, .int (nI 1), .null], [], q_w t u (ms F x l q 0) J) = some (some (.int (nI (tkv x l q))), q_w t u (ms F x l (sk x l (q + 1)) 0) J) := by
    have := s143 (X := X) (t := t) (u := u) (J := J) (b := 1) (f := 0) ht (by omega) (by omega : q ≤ l) (by omega)
    simp only [mMust, eta] at this
    exact this
  have h141 : ∀ w : q_M, q_ex X (141, 0, [.int (nI 103)], [], w) = some (some (.int (nI 1)), w) := fun w => s141 (k := 103) (by omega)
  have hv0 := tkv_le (x := x) (l := l) (q := sk x l (q + 1)) ht.2.2.2
  generalize hq1e : sk x l (q + 1) = q1 at hq1 hm0 hv0
  have r1 := num_rel (x := x) (l := l) (loC := 0) (loM := 0) (hi := 3) (bC := 1000) (bM := 1000) (p := (q + 1)) (q := q1) (f := 0) hq1 (fun _ => ⟨hq1e.symm, rfl, rfl⟩)
  rw [show cNum x l 0 3 1000 (q + 1) 0 = (c1 x l (q + 1)) from rfl] at r1
  have l1 := mMust_le (x := x) (b := if nOK x l 0 3 1000 q1 then 1 else 0) (q := q1) (f := 0) hl hq1 (Nat.zero_le _)
  have v1 := tkv_le (x := x) (l := l) (q := (mN x l 0 3 1000 q1 0).1) ht.2.2.2
  have e1 := s144 (X := X) (t := t) (u := u) (J := J) (lo := 0) (hi := 3) (q := q1) (f := 0) ht hq1 (Nat.zero_le _) (by omega) (by omega)
  change (mN x l 0 3 1000 q1 0).1 ≤ l ∧ (mN x l 0 3 1000 q1 0).2 ≤ 161 at l1
  generalize hm1 : mN x l 0 3 1000 q1 0 = m1 at r1 l1 v1 e1
  have e_f1 := r1.1
  have r2 := num_rel (x := x) (l := l) (loC := 0) (loM := 0) (hi := 3) (bC := (c1 x l (q + 1)).1) (bM := (tkv x l q1)) (p := (c1 x l (q + 1)).2.1) (q := m1.1) (f := m1.2) l1.1 (fun z => ⟨(r1.2 z).2.1, rfl, (r1.2 z).2.2.symm⟩)
  rw [show cNum x l (0) 3 ((c1 x l (q + 1)).1) (c1 x l (q + 1)).2.1 m1.2 = (c2 x l 3 (c1 x l (q + 1)).1 (q + 1)) from by rw [e_f1]; rfl] at r2
  have l2 := mMust_le (x := x) (b := if nOK x l 0 3 (tkv x l q1) m1.1 then 1 else 0) (q := m1.1) (f := m1.2) hl l1.1 l1.2
  have v2 := tkv_le (x := x) (l := l) (q := (mN x l 0 3 (tkv x l q1) m1.1 m1.2).1) ht.2.2.2
  have e2 := s143 (X := X) (t := t) (u := u) (J := J) (b := if nOK x l 0 3 (tkv x l q1) m1.1 then 1 else 0) (q := m1.1) (f := m1.2) ht ite_lt2 l1.1 l1.2
  change (mN x l 0 3 (tkv x l q1) m1.1 m1.2).1 ≤ l ∧ (mN x l 0 3 (tkv x l q1) m1.1 m1.2).2 ≤ 161 at l2
  rw [show mMust x l (if nOK x l 0 3 (tkv x l q1) m1.1 then 1 else 0) m1.1 m1.2 = mN x l 0 3 (tkv x l q1) m1.1 m1.2 from rfl] at e2
  generalize hm2 : mN x l 0 3 (tkv x l q1) m1.1 m1.2 = m2 at r2 l2 v2 e2
  have e_f2 := r2.1
  have r3 := num_rel (x := x) (l := l) (loC := 0) (loM := 0) (hi := 9) (bC := 1000) (bM := 1000) (p := (c2 x l 3 (c1 x l (q + 1)).1 (q + 1)).2.1) (q := m2.1) (f := m2.2) l2.1 (fun z => ⟨(r2.2 z).2.1, rfl, rfl⟩)
  rw [show cNum x l (0) 9 (1000) (c2 x l 3 (c1 x l (q + 1)).1 (q + 1)).2.1 m2.2 = (c3 x l 3 (c1 x l (q + 1)).1 0 9 (q + 1)) from by rw [e_f2]; rfl] at r3
  have l3 := mMust_le (x := x) (b := if nOK x l 0 9 1000 m2.1 then 1 else 0) (q := m2.1) (f := m2.2) hl l2.1 l2.2
  have v3 := tkv_le (x := x) (l := l) (q := (mN x l 0 9 1000 m2.1 m2.2).1) ht.2.2.2
  have e3 := s144 (X := X) (t := t) (u := u) (J := J) (lo := 0) (hi := 9) (q := m2.1) (f := m2.2) ht l2.1 l2.2 (by omega) (by omega)
  change (mN x l 0 9 1000 m2.1 m2.2).1 ≤ l ∧ (mN x l 0 9 1000 m2.1 m2.2).2 ≤ 161 at l3
  generalize hm3 : mN x l 0 9 1000 m2.1 m2.2 = m3 at r3 l3 v3 e3
  have e_f3 := r3.1
  have bc := c1_le (x := x) (l := l) (p := q + 1) hl (by omega)
  have bd := c2_le (x := x) (l := l) (hi := 3) (b := (c1 x l (q + 1)).1) (p := q + 1) hl (by omega)
  have hix : m3.2 = 0 → 28 + 4 * tkv x l q1 + tkv x l m1.1 < 49 := fun z => by
    have a2 := (r2.2 (r3.2 z).1).2.2
    have a1 := (r1.2 (r2.2 (r3.2 z).1).1).2.2
    omega
  have ely := s145 (X := X) (t := t) (u := u) (J := J) (F := F) (x := x) (l := l) (i := 28 + 4 * tkv x l q1 + tkv x l m1.1) (q := m3.1) (f := m3.2) (v := nI (tkv x l m2.1)) hix l3.2
  have een := fun a1 a2 a3 => s146_z (X := X) (t := t) (u := u) (J := J) (a1 := a1) (a2 := a2) (a3 := a3) (mt_up (i := 28 + 4 * tkv x l q1 + tkv x l m1.1) (v := nI (tkv x l m2.1)) (c := m3.2 = 0) (hc := inferInstance) ht) l3.1 l3.2
  have rE := end_rel (x := x) (l := l) (p := (c3 x l 3 (c1 x l (q + 1)).1 0 9 (q + 1)).2.1) (q := m3.1) (f := m3.2) (fun z => (r3.2 z).2.1)
  rw [show cEnd x l (c3 x l 3 (c1 x l (q + 1)).1 0 9 (q + 1)).2.1 m3.2 = cE x l (c3 x l 3 (c1 x l (q + 1)).1 0 9 (q + 1)) from by rw [e_f3]; rfl] at rE
  have lE := mMust_le (x := x) (b := if tkn x l m3.1 = 59 then 1 else 0) hl l3.1 l3.2
  refine ⟨(mMust x l (if tkn x l m3.1 = 59 then 1 else 0) m3.1 m3.2).1, if m3.2 = 0 then q_up F 74 (28 + 4 * tkv x l q1 + tkv x l m1.1) (nI (tkv x l m2.1)) else F, ?_, ?_, ?_, lE.1⟩
  · rw [← rE.1]
    have hv1 := v1
    have hk1 := tkn_le (x := x) (l := l) (q := m1.1) ht.2.2.2
    by_cases g1 : tkn x l m1.1 = 1
    · by_cases g2 : 0 ≤ tkv x l m1.1 ∧ tkv x l m1.1 ≤ 3
      · by_cases g3 : tkv x l m1.1 = tkv x l q1
        · rw [if_neg (fun z => z.2.2.2 g3)] at e2
          simp (disch := (first | omega | assumption | rfl | (simp (disch := assumption) only [l9_2, l9_4, l9_5, l9_6, l9_7, l9_9, l9_10, l9_11, l9_12, l9_14, l9_15, l9_16, l9_17, l9_51, l9_52, l9_53, l9_55, l9_56, l9_58, l9_61, l9_73, l9_74, l9_75, l9_76, l9_77, l9_79, l9_80, l9_81, l9_82, l9_83, l9_84, l9_85, l10_59, l10_78, l9_D1, l9_D2, l9_D3, l9_D4, l9_T1, l9_T2, l9_T3, l9_T4]; omega) | decide)) only [e146_0, e146_1, e146_4, e146_5, e146_6, e146_7, e146_10, e146_13, e146_14, e146_15, e146_18, e146_20, e146_23, e146_24, e146_25, e146_27, e146_30, e146_31, e146_34, e146_35, e146_36, e146_37, e146_40, e146_41, e146_42, e146_44, e146_47, e146_48, e146_50, e146_51, e146_52, e146_54, e146_57, e146_60, e146_63, e146_64, e146_66, e146_69, e146_70, e146_72, e146_73, e146_74, e146_75, e146_76, e146_78, e146_81, e146_84, e146_87, e146_88, e146_90, e146_93, e146_94, e146_95, e146_96, e146_99, e146_100, e146_101, e146_103, e146_104, e146_105, e146_106, e146_107, e146_108, e146_109, e146_110, e146_111, e146_113, e146_116, e146_119, e146_122, e146_123, e146_125, e146_128, e146_129, e146_130, e146_131, e146_134, e146_135, e146_136, e146_137, e146_138, e146_139, e146_140, e146_141, e146_142, e146_143, e146_144, e146_147, e146_148, e146_151, e146_152, e146_154, e146_157, e146_160, e146_163, e146_164, e146_165, e146_168, e146_169, e146_172, e146_173, e146_176, e146_177, e146_178, e146_181, e146_184, e146_185, e146_188, e146_189, e146_192, e146_193, e146_196, e146_197, e146_200, e146_201, e146_202, e146_204, e146_205, e146_206, e146_207, e146_208, e146_209, e146_210, e146_211, e146_212, e146_214, e146_217, e146_221, e146_222, e146_225, e146_227, e146_230, e146_231, e146_234, e146_235, e146_238, e146_239, ↓reduceIte, Nat.reduceAdd, Nat.reduceMul, nI_add, pk_mul, n_lt_t, n_lt_f, n_le_t, n_le_f, n_eq_f, n_eq_t, n_z_f, n_z_t, n_lz, n_zl, not_true_eq_false, not_false_eq_true, ms_18, ms_19, ms_20, etk, hk, fM_0, h141, hm0, Option.bind_some, Option.toList_some, Option.toList_none, List.cons_append, List.nil_append, e1, g1, s85_t g2.1 g2.2, e2, e3, ely, een]
        · rw [if_pos ⟨g1, g2.1, g2.2, g3⟩] at e2
          simp (disch := (first | omega | assumption | rfl | (simp (disch := assumption) only [l9_2, l9_4, l9_5, l9_6, l9_7, l9_9, l9_10, l9_11, l9_12, l9_14, l9_15, l9_16, l9_17, l9_51, l9_52, l9_53, l9_55, l9_56, l9_58, l9_61, l9_73, l9_74, l9_75, l9_76, l9_77, l9_79, l9_80, l9_81, l9_82, l9_83, l9_84, l9_85, l10_59, l10_78, l9_D1, l9_D2, l9_D3, l9_D4, l9_T1, l9_T2, l9_T3, l9_T4]; omega) | decide)) only [e146_0, e146_1, e146_4, e146_5, e146_6, e146_7, e146_10, e146_13, e146_14, e146_15, e146_18, e146_20, e146_23, e146_24, e146_25, e146_27, e146_30, e146_31, e146_34, e146_35, e146_36, e146_37, e146_40, e146_41, e146_42, e146_44, e146_47, e146_48, e146_50, e146_51, e146_52, e146_54, e146_57, e146_60, e146_63, e146_64, e146_66, e146_69, e146_70, e146_72, e146_73, e146_74, e146_75, e146_76, e146_78, e146_81, e146_84, e146_87, e146_88, e146_90, e146_93, e146_94, e146_95, e146_96, e146_99, e146_100, e146_101, e146_103, e146_104, e146_105, e146_106, e146_107, e146_108, e146_109, e146_110, e146_111, e146_113, e146_116, e146_119, e146_122, e146_123, e146_125, e146_128, e146_129, e146_130, e146_131, e146_134, e146_135, e146_136, e146_137, e146_138, e146_139, e146_140, e146_141, e146_142, e146_143, e146_144, e146_147, e146_148, e146_151, e146_152, e146_154, e146_157, e146_160, e146_163, e146_164, e146_165, e146_168, e146_169, e146_172, e146_173, e146_176, e146_177, e146_178, e146_181, e146_184, e146_185, e146_188, e146_189, e146_192, e146_193, e146_196, e146_197, e146_200, e146_201, e146_202, e146_204, e146_205, e146_206, e146_207, e146_208, e146_209, e146_210, e146_211, e146_212, e146_214, e146_217, e146_221, e146_222, e146_225, e146_227, e146_230, e146_231, e146_234, e146_235, e146_238, e146_239, ↓reduceIte, Nat.reduceAdd, Nat.reduceMul, nI_add, pk_mul, n_lt_t, n_lt_f, n_le_t, n_le_f, n_eq_f, n_eq_t, n_z_f, n_z_t, n_lz, n_zl, not_true_eq_false, not_false_eq_true, ms_18, ms_19, ms_20, etk, hk, fM_0, h141, hm0, Option.bind_some, Option.toList_some, Option.toList_none, List.cons_append, List.nil_append, e1, g1, s85_t g2.1 g2.2, g3, e2, e3, ely, een]
      · rw [if_neg (fun z => g2 ⟨z.2.1, z.2.2.1⟩)] at e2
        simp (disch := (first | omega | assumption | rfl | (simp (disch := assumption) only [l9_2, l9_4, l9_5, l9_6, l9_7, l9_9, l9_10, l9_11, l9_12, l9_14, l9_15, l9_16, l9_17, l9_51, l9_52, l9_53, l9_55, l9_56, l9_58, l9_61, l9_73, l9_74, l9_75, l9_76, l9_77, l9_79, l9_80, l9_81, l9_82, l9_83, l9_84, l9_85, l10_59, l10_78, l9_D1, l9_D2, l9_D3, l9_D4, l9_T1, l9_T2, l9_T3, l9_T4]; omega) | decide)) only [e146_0, e146_1, e146_4, e146_5, e146_6, e146_7, e146_10, e146_13, e146_14, e146_15, e146_18, e146_20, e146_23, e146_24, e146_25, e146_27, e146_30, e146_31, e146_34, e146_35, e146_36, e146_37, e146_40, e146_41, e146_42, e146_44, e146_47, e146_48, e146_50, e146_51, e146_52, e146_54, e146_57, e146_60, e146_63, e146_64, e146_66, e146_69, e146_70, e146_72, e146_73, e146_74, e146_75, e146_76, e146_78, e146_81, e146_84, e146_87, e146_88, e146_90, e146_93, e146_94, e146_95, e146_96, e146_99, e146_100, e146_101, e146_103, e146_104, e146_105, e146_106, e146_107, e146_108, e146_109, e146_110, e146_111, e146_113, e146_116, e146_119, e146_122, e146_123, e146_125, e146_128, e146_129, e146_130, e146_131, e146_134, e146_135, e146_136, e146_137, e146_138, e146_139, e146_140, e146_141, e146_142, e146_143, e146_144, e146_147, e146_148, e146_151, e146_152, e146_154, e146_157, e146_160, e146_163, e146_164, e146_165, e146_168, e146_169, e146_172, e146_173, e146_176, e146_177, e146_178, e146_181, e146_184, e146_185, e146_188, e146_189, e146_192, e146_193, e146_196, e146_197, e146_200, e146_201, e146_202, e146_204, e146_205, e146_206, e146_207, e146_208, e146_209, e146_210, e146_211, e146_212, e146_214, e146_217, e146_221, e146_222, e146_225, e146_227, e146_230, e146_231, e146_234, e146_235, e146_238, e146_239, ↓reduceIte, Nat.reduceAdd, Nat.reduceMul, nI_add, pk_mul, n_lt_t, n_lt_f, n_le_t, n_le_f, n_eq_f, n_eq_t, n_z_f, n_z_t, n_lz, n_zl, not_true_eq_false, not_false_eq_true, ms_18, ms_19, ms_20, etk, hk, fM_0, h141, hm0, Option.bind_some, Option.toList_some, Option.toList_none, List.cons_append, List.nil_append, e1, g1, s85_n (show tkv x l m1.1 < 0 ∨ 3 < tkv x l m1.1 by omega), e2, e3, ely, een]
    · rw [if_neg (fun z => g1 z.1)] at e2
      simp (disch := (first | omega | assumption | rfl | (simp (disch := assumption) only [l9_2, l9_4, l9_5, l9_6, l9_7, l9_9, l9_10, l9_11, l9_12, l9_14, l9_15, l9_16, l9_17, l9_51, l9_52, l9_53, l9_55, l9_56, l9_58, l9_61, l9_73, l9_74, l9_75, l9_76, l9_77, l9_79, l9_80, l9_81, l9_82, l9_83, l9_84, l9_85, l10_59, l10_78, l9_D1, l9_D2, l9_D3, l9_D4, l9_T1, l9_T2, l9_T3, l9_T4]; omega) | decide)) only [e146_0, e146_1, e146_4, e146_5, e146_6, e146_7, e146_10, e146_13, e146_14, e146_15, e146_18, e146_20, e146_23, e146_24, e146_25, e146_27, e146_30, e146_31, e146_34, e146_35, e146_36, e146_37, e146_40, e146_41, e146_42, e146_44, e146_47, e146_48, e146_50, e146_51, e146_52, e146_54, e146_57, e146_60, e146_63, e146_64, e146_66, e146_69, e146_70, e146_72, e146_73, e146_74, e146_75, e146_76, e146_78, e146_81, e146_84, e146_87, e146_88, e146_90, e146_93, e146_94, e146_95, e146_96, e146_99, e146_100, e146_101, e146_103, e146_104, e146_105, e146_106, e146_107, e146_108, e146_109, e146_110, e146_111, e146_113, e146_116, e146_119, e146_122, e146_123, e146_125, e146_128, e146_129, e146_130, e146_131, e146_134, e146_135, e146_136, e146_137, e146_138, e146_139, e146_140, e146_141, e146_142, e146_143, e146_144, e146_147, e146_148, e146_151, e146_152, e146_154, e146_157, e146_160, e146_163, e146_164, e146_165, e146_168, e146_169, e146_172, e146_173, e146_176, e146_177, e146_178, e146_181, e146_184, e146_185, e146_188, e146_189, e146_192, e146_193, e146_196, e146_197, e146_200, e146_201, e146_202, e146_204, e146_205, e146_206, e146_207, e146_208, e146_209, e146_210, e146_211, e146_212, e146_214, e146_217, e146_221, e146_222, e146_225, e146_227, e146_230, e146_231, e146_234, e146_235, e146_238, e146_239, ↓reduceIte, Nat.reduceAdd, Nat.reduceMul, nI_add, pk_mul, n_lt_t, n_lt_f, n_le_t, n_le_f, n_eq_f, n_eq_t, n_z_f, n_z_t, n_lz, n_zl, not_true_eq_false, not_false_eq_true, ms_18, ms_19, ms_20, etk, hk, fM_0, h141, hm0, Option.bind_some, Option.toList_some, Option.toList_none, List.cons_append, List.nil_append, e1, g1, e2, e3, ely, een]
  · intro z
    rw [← rE.1] at z
    obtain ⟨z1, z2⟩ := rE.2 z
    refine ⟨z2, ?_⟩
    rw [if_pos z1]
    have a3 := (r3.2 z1).2.2
    have a2 := (r2.2 (r3.2 z1).1).2.2
    have a1 := (r1.2 (r2.2 (r3.2 z1).1).1).2.2
    rw [a3, a2, a1]
    rw [Nat.add_assoc]
  · intro b hb
    split
    · exact q_up_n hb
    · rfl
theorem s146_b {q : Nat} (ht : mt F x l) (hql : q < l) (hk : x q = 98) : ∃ q' F', q_ex X (146, 0, [.ref 72, .null, .null, .null], [], q_w t u (ms F x l q 0) J) = some (none, q_w t u (ms F' x l q' (iI x l q).2.2.2.2) J) ∧ ((iI x l q).2.2.2.2 = 0 → q' = sk x l (iI x l q).2.2.2.1 ∧ F' = q_up F 74 (iI x l q).2.1 (nI (iI x l q).2.2.1)) ∧ (∀ b, b ≠ 74 → F' b = F b) ∧ q' ≤ l := by
  have hl := ht.1
  have hK : isK (x q) := Or.inr (Or.inr (Or.inr (Or.inl hk)))
  have htk := tokK (x := x) hql
  have etk := (htk.2 hK).1
  have eta := (htk.2 hK).2
  have hi : iI x l q = ((cE x l (c2 x l 12 1000 (q + 1))).1, 44 + (c1 x l (q + 1)).1, (c2 x l 12 1000 (q + 1)).1, (cE x l (c2 x l 12 1000 (q + 1))).2.1, (cE x l (c2 x l 12 1000 (q + 1))).2.2) := by
    unfold iI iR iX
    rw [if_pos hK, hk]
    rfl
  rw [hi]
  dsimp only
  have hq1 := sk_le (x := x) (l := l) (p := q + 1) (by omega)
  have hm0 : q_ex X (143, 0, [.ref 72, .int (nI 1), .null], [], q_w t u (ms F x l q 0) J) = some (some (.int (nI (tkv x l q))), q_w t u (ms F x l (sk x l (q + 1)) 0) J) := by
    have := s143 (X := X) (t := t) (u := u) (J := J) (b := 1) (f := 0) ht (by omega) (by omega : q ≤ l) (by omega)
    simp only [mMust, eta] at this
    exact this
  have h141 : ∀ w : q_M, q_ex X (141, 0, [.int (nI 98)], [], w) = some (some (.int (nI 1)), w) := fun w => s141 (k := 98) (by omega)
  have hv0 := tkv_le (x := x) (l := l) (q := sk x l (q + 1)) ht.2.2.2
  generalize hq1e : sk x l (q + 1) = q1 at hq1 hm0 hv0
  have r1 := num_rel (x := x) (l := l) (loC := 0) (loM := 0) (hi := 3) (bC := 1000) (bM := 1000) (p := (q + 1)) (q := q1) (f := 0) hq1 (fun _ => ⟨hq1e.symm, rfl, rfl⟩)
  rw [show cNum x l 0 3 1000 (q + 1) 0 = (c1 x l (q + 1)) from rfl] at r1
  have l1 := mMust_le (x := x) (b := if nOK x l 0 3 1000 q1 then 1 else 0) (q := q1) (f := 0) hl hq1 (Nat.zero_le _)
  have v1 := tkv_le (x := x) (l := l) (q := (mN x l 0 3 1000 q1 0).1) ht.2.2.2
  have e1 := s144 (X := X) (t := t) (u := u) (J := J) (lo := 0) (hi := 3) (q := q1) (f := 0) ht hq1 (Nat.zero_le _) (by omega) (by omega)
  change (mN x l 0 3 1000 q1 0).1 ≤ l ∧ (mN x l 0 3 1000 q1 0).2 ≤ 161 at l1
  generalize hm1 : mN x l 0 3 1000 q1 0 = m1 at r1 l1 v1 e1
  have e_f1 := r1.1
  have r2 := num_rel (x := x) (l := l) (loC := 0) (loM := 0) (hi := 12) (bC := 1000) (bM := 1000) (p := (c1 x l (q + 1)).2.1) (q := m1.1) (f := m1.2) l1.1 (fun z => ⟨(r1.2 z).2.1, rfl, rfl⟩)
  rw [show cNum x l (0) 12 (1000) (c1 x l (q + 1)).2.1 m1.2 = (c2 x l 12 1000 (q + 1)) from by rw [e_f1]; rfl] at r2
  have l2 := mMust_le (x := x) (b := if nOK x l 0 12 1000 m1.1 then 1 else 0) (q := m1.1) (f := m1.2) hl l1.1 l1.2
  have v2 := tkv_le (x := x) (l := l) (q := (mN x l 0 12 1000 m1.1 m1.2).1) ht.2.2.2
  have e2 := s144 (X := X) (t := t) (u := u) (J := J) (lo := 0) (hi := 12) (q := m1.1) (f := m1.2) ht l1.1 l1.2 (by omega) (by omega)
  change (mN x l 0 12 1000 m1.1 m1.2).1 ≤ l ∧ (mN x l 0 12 1000 m1.1 m1.2).2 ≤ 161 at l2
  generalize hm2 : mN x l 0 12 1000 m1.1 m1.2 = m2 at r2 l2 v2 e2
  have e_f2 := r2.1
  have bc := c1_le (x := x) (l := l) (p := q + 1) hl (by omega)
  have hix : m2.2 = 0 → 44 + tkv x l q1 < 49 := fun z => by
    have a1 := (r1.2 (r2.2 z).1).2.2
    omega
  have ely := s145 (X := X) (t := t) (u := u) (J := J) (F := F) (x := x) (l := l) (i := 44 + tkv x l q1) (q := m2.1) (f := m2.2) (v := nI (tkv x l m1.1)) hix l2.2
  have een := fun a1 a2 a3 => s146_z (X := X) (t := t) (u := u) (J := J) (a1 := a1) (a2 := a2) (a3 := a3) (mt_up (i := 44 + tkv x l q1) (v := nI (tkv x l m1.1)) (c := m2.2 = 0) (hc := inferInstance) ht) l2.1 l2.2
  have rE := end_rel (x := x) (l := l) (p := (c2 x l 12 1000 (q + 1)).2.1) (q := m2.1) (f := m2.2) (fun z => (r2.2 z).2.1)
  rw [show cEnd x l (c2 x l 12 1000 (q + 1)).2.1 m2.2 = cE x l (c2 x l 12 1000 (q + 1)) from by rw [e_f2]; rfl] at rE
  have lE := mMust_le (x := x) (b := if tkn x l m2.1 = 59 then 1 else 0) hl l2.1 l2.2
  refine ⟨(mMust x l (if tkn x l m2.1 = 59 then 1 else 0) m2.1 m2.2).1, if m2.2 = 0 then q_up F 74 (44 + tkv x l q1) (nI (tkv x l m1.1)) else F, ?_, ?_, ?_, lE.1⟩
  · rw [← rE.1]
    simp (disch := (first | omega | assumption | rfl | (simp (disch := assumption) only [l9_2, l9_4, l9_5, l9_6, l9_7, l9_9, l9_10, l9_11, l9_12, l9_14, l9_15, l9_16, l9_17, l9_51, l9_52, l9_53, l9_55, l9_56, l9_58, l9_61, l9_73, l9_74, l9_75, l9_76, l9_77, l9_79, l9_80, l9_81, l9_82, l9_83, l9_84, l9_85, l10_59, l10_78, l9_D1, l9_D2, l9_D3, l9_D4, l9_T1, l9_T2, l9_T3, l9_T4]; omega) | decide)) only [e146_0, e146_1, e146_4, e146_5, e146_6, e146_7, e146_10, e146_13, e146_14, e146_15, e146_18, e146_20, e146_23, e146_24, e146_25, e146_27, e146_30, e146_31, e146_34, e146_35, e146_36, e146_37, e146_40, e146_41, e146_42, e146_44, e146_47, e146_48, e146_50, e146_51, e146_52, e146_54, e146_57, e146_60, e146_63, e146_64, e146_66, e146_69, e146_70, e146_72, e146_73, e146_74, e146_75, e146_76, e146_78, e146_81, e146_84, e146_87, e146_88, e146_90, e146_93, e146_94, e146_95, e146_96, e146_99, e146_100, e146_101, e146_103, e146_104, e146_105, e146_106, e146_107, e146_108, e146_109, e146_110, e146_111, e146_113, e146_116, e146_119, e146_122, e146_123, e146_125, e146_128, e146_129, e146_130, e146_131, e146_134, e146_135, e146_136, e146_137, e146_138, e146_139, e146_140, e146_141, e146_142, e146_143, e146_144, e146_147, e146_148, e146_151, e146_152, e146_154, e146_157, e146_160, e146_163, e146_164, e146_165, e146_168, e146_169, e146_172, e146_173, e146_176, e146_177, e146_178, e146_181, e146_184, e146_185, e146_188, e146_189, e146_192, e146_193, e146_196, e146_197, e146_200, e146_201, e146_202, e146_204, e146_205, e146_206, e146_207, e146_208, e146_209, e146_210, e146_211, e146_212, e146_214, e146_217, e146_221, e146_222, e146_225, e146_227, e146_230, e146_231, e146_234, e146_235, e146_238, e146_239, ↓reduceIte, Nat.reduceAdd, Nat.reduceMul, nI_add, pk_mul, n_lt_t, n_lt_f, n_le_t, n_le_f, n_eq_f, n_eq_t, n_z_f, n_z_t, n_lz, n_zl, not_true_eq_false, not_false_eq_true, ms_18, ms_20, etk, hk, fM_0, h141, hm0, Option.bind_some, Option.toList_some, Option.toList_none, List.cons_append, List.nil_append, e1, e2, ely, een]
  · intro z
    rw [← rE.1] at z
    obtain ⟨z1, z2⟩ := rE.2 z
    refine ⟨z2, ?_⟩
    rw [if_pos z1]
    rw [(r2.2 z1).2.2, (r1.2 (r2.2 z1).1).2.2]
  · intro b hb
    split
    · exact q_up_n hb
    · rfl
theorem s146_m {q : Nat} (ht : mt F x l) (hql : q < l) (hk : x q = 109) : ∃ q' F', q_ex X (146, 0, [.ref 72, .null, .null, .null], [], q_w t u (ms F x l q 0) J) = some (none, q_w t u (ms F' x l q' (iI x l q).2.2.2.2) J) ∧ ((iI x l q).2.2.2.2 = 0 → q' = sk x l (iI x l q).2.2.2.1 ∧ F' = q_up F 74 (iI x l q).2.1 (nI (iI x l q).2.2.1)) ∧ (∀ b, b ≠ 74 → F' b = F b) ∧ q' ≤ l := by
  have hl := ht.1
  have hK : isK (x q) := Or.inr (Or.inr (Or.inr (Or.inr hk)))
  have htk := tokK (x := x) hql
  have etk := (htk.2 hK).1
  have eta := (htk.2 hK).2
  have hi : iI x l q = ((cE x l (cNum x l 1 12 1000 (q + 1) 0)).1, 48, (cNum x l 1 12 1000 (q + 1) 0).1, (cE x l (cNum x l 1 12 1000 (q + 1) 0)).2.1, (cE x l (cNum x l 1 12 1000 (q + 1) 0)).2.2) := by
    unfold iI iR iX
    rw [if_pos hK, hk]
    rfl
  rw [hi]
  dsimp only
  have hq1 := sk_le (x := x) (l := l) (p := q + 1) (by omega)
  have hm0 : q_ex X (143, 0, [.ref 72, .int (nI 1), .null], [], q_w t u (ms F x l q 0) J) = some (some (.int (nI (tkv x l q))), q_w t u (ms F x l (sk x l (q + 1)) 0) J) := by
    have := s143 (X := X) (t := t) (u := u) (J := J) (b := 1) (f := 0) ht (by omega) (by omega : q ≤ l) (by omega)
    simp only [mMust, eta] at this
    exact this
  have h141 : ∀ w : q_M, q_ex X (141, 0, [.int (nI 109)], [], w) = some (some (.int (nI 1)), w) := fun w => s141 (k := 109) (by omega)
  have hv0 := tkv_le (x := x) (l := l) (q := sk x l (q + 1)) ht.2.2.2
  generalize hq1e : sk x l (q + 1) = q1 at hq1 hm0 hv0
  have r1 := num_rel (x := x) (l := l) (loC := 1) (loM := 1) (hi := 12) (bC := 1000) (bM := 1000) (p := (q + 1)) (q := q1) (f := 0) hq1 (fun _ => ⟨hq1e.symm, rfl, rfl⟩)
  rw [show cNum x l 1 12 1000 (q + 1) 0 = (cNum x l 1 12 1000 (q + 1) 0) from rfl] at r1
  have l1 := mMust_le (x := x) (b := if nOK x l 1 12 1000 q1 then 1 else 0) (q := q1) (f := 0) hl hq1 (Nat.zero_le _)
  have v1 := tkv_le (x := x) (l := l) (q := (mN x l 1 12 1000 q1 0).1) ht.2.2.2
  have e1 := s144 (X := X) (t := t) (u := u) (J := J) (lo := 1) (hi := 12) (q := q1) (f := 0) ht hq1 (Nat.zero_le _) (by omega) (by omega)
  change (mN x l 1 12 1000 q1 0).1 ≤ l ∧ (mN x l 1 12 1000 q1 0).2 ≤ 161 at l1
  generalize hm1 : mN x l 1 12 1000 q1 0 = m1 at r1 l1 v1 e1
  have e_f1 := r1.1
  have bc := c1_le (x := x) (l := l) (p := q + 1) hl (by omega)
  have hix : m1.2 = 0 → 48 < 49 := fun _ => by omega
  have ely := s145 (X := X) (t := t) (u := u) (J := J) (F := F) (x := x) (l := l) (i := 48) (q := m1.1) (f := m1.2) (v := nI (tkv x l q1)) hix l1.2
  have een := fun a1 a2 a3 => s146_z (X := X) (t := t) (u := u) (J := J) (a1 := a1) (a2 := a2) (a3 := a3) (mt_up (i := 48) (v := nI (tkv x l q1)) (c := m1.2 = 0) (hc := inferInstance) ht) l1.1 l1.2
  have rE := end_rel (x := x) (l := l) (p := (cNum x l 1 12 1000 (q + 1) 0).2.1) (q := m1.1) (f := m1.2) (fun z => (r1.2 z).2.1)
  rw [show cEnd x l (cNum x l 1 12 1000 (q + 1) 0).2.1 m1.2 = cE x l (cNum x l 1 12 1000 (q + 1) 0) from by rw [e_f1]; rfl] at rE
  have lE := mMust_le (x := x) (b := if tkn x l m1.1 = 59 then 1 else 0) hl l1.1 l1.2
  refine ⟨(mMust x l (if tkn x l m1.1 = 59 then 1 else 0) m1.1 m1.2).1, if m1.2 = 0 then q_up F 74 (48) (nI (tkv x l q1)) else F, ?_, ?_, ?_, lE.1⟩
  · rw [← rE.1]
    simp (disch := (first | omega | assumption | rfl | (simp (disch := assumption) only [l9_2, l9_4, l9_5, l9_6, l9_7, l9_9, l9_10, l9_11, l9_12, l9_14, l9_15, l9_16, l9_17, l9_51, l9_52, l9_53, l9_55, l9_56, l9_58, l9_61, l9_73, l9_74, l9_75, l9_76, l9_77, l9_79, l9_80, l9_81, l9_82, l9_83, l9_84, l9_85, l10_59, l10_78, l9_D1, l9_D2, l9_D3, l9_D4, l9_T1, l9_T2, l9_T3, l9_T4]; omega) | decide)) only [e146_0, e146_1, e146_4, e146_5, e146_6, e146_7, e146_10, e146_13, e146_14, e146_15, e146_18, e146_20, e146_23, e146_24, e146_25, e146_27, e146_30, e146_31, e146_34, e146_35, e146_36, e146_37, e146_40, e146_41, e146_42, e146_44, e146_47, e146_48, e146_50, e146_51, e146_52, e146_54, e146_57, e146_60, e146_63, e146_64, e146_66, e146_69, e146_70, e146_72, e146_73, e146_74, e146_75, e146_76, e146_78, e146_81, e146_84, e146_87, e146_88, e146_90, e146_93, e146_94, e146_95, e146_96, e146_99, e146_100, e146_101, e146_103, e146_104, e146_105, e146_106, e146_107, e146_108, e146_109, e146_110, e146_111, e146_113, e146_116, e146_119, e146_122, e146_123, e146_125, e146_128, e146_129, e146_130, e146_131, e146_134, e146_135, e146_136, e146_137, e146_138, e146_139, e146_140, e146_141, e146_142, e146_143, e146_144, e146_147, e146_148, e146_151, e146_152, e146_154, e146_157, e146_160, e146_163, e146_164, e146_165, e146_168, e146_169, e146_172, e146_173, e146_176, e146_177, e146_178, e146_181, e146_184, e146_185, e146_188, e146_189, e146_192, e146_193, e146_196, e146_197, e146_200, e146_201, e146_202, e146_204, e146_205, e146_206, e146_207, e146_208, e146_209, e146_210, e146_211, e146_212, e146_214, e146_217, e146_221, e146_222, e146_225, e146_227, e146_230, e146_231, e146_234, e146_235, e146_238, e146_239, ↓reduceIte, Nat.reduceAdd, Nat.reduceMul, nI_add, pk_mul, n_lt_t, n_lt_f, n_le_t, n_le_f, n_eq_f, n_eq_t, n_z_f, n_z_t, n_lz, n_zl, not_true_eq_false, not_false_eq_true, ms_18, ms_20, etk, hk, fM_0, h141, hm0, Option.bind_some, Option.toList_some, Option.toList_none, List.cons_append, List.nil_append, e1, ely, een]
  · intro z
    rw [← rE.1] at z
    obtain ⟨z1, z2⟩ := rE.2 z
    refine ⟨z2, ?_⟩
    rw [if_pos z1]
    rw [(r1.2 z1).2.2]
  · intro b hb
    split
    · exact q_up_n hb
    · rfl
theorem s146_o {q : Nat} (ht : mt F x l) (hql : q < l) (hk : ¬ isK (x q)) : q_ex X (146, 0, [.ref 72, .null, .null, .null], [], q_w t u (ms F x l q 0) J) = some (none, q_w t u (ms F x l q (q + 1)) J) := by
  have hl := ht.1
  have htk := tokK (x := x) hql
  have hkn : ¬ isK (tkn x l q) := fun z => hk (htk.1.mp z)
  have hkl := tkn_le (x := x) (l := l) (q := q) ht.2.2.2
  have hm0 : q_ex X (143, 0, [.ref 72, .int (nI 0), .null], [], q_w t u (ms F x l q 0) J) = some (some (.int (nI (tkv x l q))), q_w t u (ms F x l q (q + 1)) J) := by
    have := s143 (X := X) (t := t) (u := u) (J := J) (b := 0) (f := 0) ht (by omega) (by omega : q ≤ l) (by omega)
    simp only [mMust] at this
    exact this
  have hq1 : fM (q + 1) = nI q := fM_n.symm
  simp (disch := (first | omega | assumption | rfl | (simp (disch := assumption) only [l9_2, l9_4, l9_5, l9_6, l9_7, l9_9, l9_10, l9_11, l9_12, l9_14, l9_15, l9_16, l9_17, l9_51, l9_52, l9_53, l9_55, l9_56, l9_58, l9_61, l9_73, l9_74, l9_75, l9_76, l9_77, l9_79, l9_80, l9_81, l9_82, l9_83, l9_84, l9_85, l10_59, l10_78, l9_D1, l9_D2, l9_D3, l9_D4, l9_T1, l9_T2, l9_T3, l9_T4]; omega) | decide)) only [e146_0, e146_1, e146_4, e146_5, e146_6, e146_7, e146_10, e146_13, e146_14, e146_15, e146_18, e146_20, e146_23, e146_24, e146_25, e146_27, e146_30, e146_31, e146_34, e146_35, e146_36, e146_37, e146_40, e146_41, e146_42, e146_44, e146_47, e146_48, e146_50, e146_51, e146_52, e146_54, e146_57, e146_60, e146_63, e146_64, e146_66, e146_69, e146_70, e146_72, e146_73, e146_74, e146_75, e146_76, e146_78, e146_81, e146_84, e146_87, e146_88, e146_90, e146_93, e146_94, e146_95, e146_96, e146_99, e146_100, e146_101, e146_103, e146_104, e146_105, e146_106, e146_107, e146_108, e146_109, e146_110, e146_111, e146_113, e146_116, e146_119, e146_122, e146_123, e146_125, e146_128, e146_129, e146_130, e146_131, e146_134, e146_135, e146_136, e146_137, e146_138, e146_139, e146_140, e146_141, e146_142, e146_143, e146_144, e146_147, e146_148, e146_151, e146_152, e146_154, e146_157, e146_160, e146_163, e146_164, e146_165, e146_168, e146_169, e146_172, e146_173, e146_176, e146_177, e146_178, e146_181, e146_184, e146_185, e146_188, e146_189, e146_192, e146_193, e146_196, e146_197, e146_200, e146_201, e146_202, e146_204, e146_205, e146_206, e146_207, e146_208, e146_209, e146_210, e146_211, e146_212, e146_214, e146_217, e146_221, e146_222, e146_225, e146_227, e146_230, e146_231, e146_234, e146_235, e146_238, e146_239, ↓reduceIte, Nat.reduceAdd, Nat.reduceMul, nI_add, pk_mul, n_lt_t, n_lt_f, n_le_t, n_le_f, n_eq_f, n_eq_t, n_z_f, n_z_t, n_lz, n_zl, not_true_eq_false, not_false_eq_true, ms_18, ms_20, fM_0, s141, if_neg hkn, hm0, Option.bind_some, Option.toList_some, Option.toList_none, List.cons_append, List.nil_append, hq1, n_m9]
end S65
