/-! ===== the model: the square with as many columns more ===== -/
def gr (L : Nat → Nat) (o j c : Nat) : Nat := if c < 4 then (if bt o j = 1 ∧ bt o c = 1 then L (4 * j + c) else if j = c then 1 else 0) else if j = c - 4 then (if bt o j = 1 then L (5 * j) else 1) else 0
def grd (L : Nat → Nat) (o : Nat) : Nat → Nat := fun x => gr L o (x / 8) (x % 8)
theorem grd_lt {L : Nat → Nat} {o : Nat} (hL : ∀ i, i < 16 → L i < 31) : ∀ x, x < 32 → grd L o x < 31 := by
  intro x hx
  have h1 : x / 8 < 4 := by omega
  simp only [grd, gr]
  split
  · split
    · exact hL _ (by omega)
    · split <;> omega
  · split
    · split
      · exact hL _ (by omega)
      · omega
    · omega
/-- layGrid: how far it is -/
def lgS (F : Nat → Nat → Int32) (L : Nat → Nat) (o j k : Nat) : Nat → Nat → Int32 := fun b i => if b = 81 ∧ i < 32 ∧ (i / 8 < j ∨ (i / 8 = j ∧ i % 4 < k)) then nI (grd L o i) else F b i
theorem lgS_up {F : Nat → Nat → Int32} {L : Nat → Nat} {o j k v1 v2 : Nat} (hj : j < 4) (hk : k < 4) (h1 : v1 = gr L o j k) (h2 : v2 = gr L o j (4 + k)) : q_up (q_up (lgS F L o j k) 81 (8 * j + k) (nI v1)) 81 (8 * j + 4 + k) (nI v2) = lgS F L o j (k + 1) := by
  funext b i
  simp only [q_app, lgS]
  by_cases hb : b = 81
  · subst hb
    by_cases e1 : i = 8 * j + 4 + k
    · subst e1
      rw [if_pos ⟨rfl, rfl⟩, if_pos ⟨rfl, by omega, by omega⟩]
      simp only [grd]
      rw [show (8 * j + 4 + k) / 8 = j by omega, show (8 * j + 4 + k) % 8 = 4 + k by omega, h2]
    · rw [if_neg (by omega)]
      by_cases e2 : i = 8 * j + k
      · subst e2
        rw [if_pos ⟨rfl, rfl⟩, if_pos ⟨rfl, by omega, by omega⟩]
        simp only [grd]
        rw [show (8 * j + k) / 8 = j by omega, show (8 * j + k) % 8 = k by omega, h1]
      · rw [if_neg (by omega)]
        by_cases hc : i < 32 ∧ (i / 8 < j ∨ (i / 8 = j ∧ i % 4 < k))
        · rw [if_pos ⟨rfl, hc⟩, if_pos ⟨rfl, by omega⟩]
        · rw [if_neg (by omega), if_neg (by omega)]
  · rw [if_neg (by omega), if_neg (by omega), if_neg (by omega), if_neg (by omega)]
section S53
variable {X : Nat × (Nat → Int32)} {t u : Nat} {F : Nat → Nat → Int32} {J : Nat → Int64} {w : q_M}
theorem lgS_n {L : Nat → Nat} {o j k b : Nat} (h : b ≠ 81) : lgS F L o j k b = F b := by
  funext i
  simp only [lgS]
  rw [if_neg (by omega)]
theorem s119_i {o j : Nat} {L : Nat → Nat} (ho : o < 16) (hj : j < 4) (hL : ∀ i, i < 16 → F 75 (17 + i) = nI (L i) ∧ L i < 31) (v4 v5 : Value) : ∃ d : Value × Value, q_ex X (119, 9, [.ref 72, .int (nI o), .int (nI j), .int (nI 0), v4, v5], [], q_w t u (lgS F L o j 0) J) = q_ex X (119, 9, [.ref 72, .int (nI o), .int (nI j), .int (nI 4), d.1, d.2], [], q_w t u (lgS F L o j 4) J) := by
  refine q_iter (X := X) (δ := Value × Value) (fun k d => (119, 9, [.ref 72, .int (nI o), .int (nI j), .int (nI k), d.1, d.2], [], q_w t u (lgS F L o j k) J)) 4 (fun k hk d => ?_) (v4, v5)
  have hbj := bt_lt o j
  have hbk := bt_lt o k
  have rL : ∀ v, q_up (lgS F L o j k) 81 (8 * j + k) v 75 = F 75 := fun v => by rw [q_up_n (by omega), lgS_n (by omega)]
  have rl1 : F 75 (17 + 4 * j + k) = nI (L (4 * j + k)) := by rw [Nat.add_assoc 17]; exact (hL _ (by omega)).1
  have rl2 : F 75 (17 + 5 * j) = nI (L (5 * j)) := (hL _ (by omega)).1
  by_cases h1 : bt o j = 1
  · by_cases h2 : bt o k = 1
    · by_cases h3 : j = k
      · subst h3
        refine ⟨(.int (nI 1), .int (nI 1)), ?_⟩
        try dsimp only
        rw [e119_9]
        simp (disch := (first | omega | assumption | rfl | (simp (disch := assumption) only [l9_2, l9_4, l9_5, l9_6, l9_7, l9_9, l9_10, l9_11, l9_12, l9_14, l9_15, l9_16, l9_17, l9_51, l9_52, l9_53, l9_55, l9_56, l9_58, l9_61, l9_73, l9_74, l9_75, l9_76, l9_77, l9_79, l9_80, l9_81, l9_82, l9_83, l9_84, l9_85, l10_59, l10_78, l9_D1, l9_D2, l9_D3, l9_D4, l9_T1, l9_T2, l9_T3, l9_T4]; omega) | decide)) only [e119_0, e119_1, e119_3, e119_4, e119_7, e119_8, e119_10, e119_11, e119_14, e119_15, e119_16, e119_19, e119_22, e119_23, e119_24, e119_27, e119_30, e119_31, e119_34, e119_35, e119_37, e119_38, e119_39, e119_42, e119_43, e119_46, e119_47, e119_49, e119_50, e119_53, e119_55, e119_56, e119_57, e119_58, e119_59, e119_61, e119_64, e119_65, e119_68, e119_70, e119_71, e119_72, e119_73, e119_74, e119_75, e119_76, e119_77, e119_80, e119_82, e119_83, e119_84, e119_87, e119_89, e119_90, e119_91, e119_92, e119_93, e119_94, e119_95, e119_96, e119_97, e119_100, e119_101, e119_102, e119_105, e119_108, e119_109, e119_112, e119_114, e119_115, e119_116, e119_117, e119_118, e119_119, e119_122, e119_123, e119_126, e119_127, e119_128, e119_131, e119_134, e119_137, e119_140, ↓reduceIte, Nat.reduceAdd, Nat.reduceMul, nI_add, pk_mul, n_lt_t, n_lt_f, n_le_t, n_le_f, n_eq_f, n_eq_t, n_z_f, n_z_t, n_lz, n_zl, not_true_eq_false, not_false_eq_true, s86, Option.bind_some, Option.toList_some, Option.toList_none, List.cons_append, List.nil_append, h1, lgS_n, rL, rl1, rl2]
        rw [lgS_up hj hk (by simp only [gr, h1, hk, and_self, if_true]) (by simp only [gr, h1, if_true]; rw [if_neg (by omega), if_pos (by omega)])]
      · refine ⟨(.int (nI 1), .int (nI 0)), ?_⟩
        try dsimp only
        rw [e119_9]
        simp (disch := (first | omega | assumption | rfl | (simp (disch := assumption) only [l9_2, l9_4, l9_5, l9_6, l9_7, l9_9, l9_10, l9_11, l9_12, l9_14, l9_15, l9_16, l9_17, l9_51, l9_52, l9_53, l9_55, l9_56, l9_58, l9_61, l9_73, l9_74, l9_75, l9_76, l9_77, l9_79, l9_80, l9_81, l9_82, l9_83, l9_84, l9_85, l10_59, l10_78, l9_D1, l9_D2, l9_D3, l9_D4, l9_T1, l9_T2, l9_T3, l9_T4]; omega) | decide)) only [e119_0, e119_1, e119_3, e119_4, e119_7, e119_8, e119_10, e119_11, e119_14, e119_15, e119_16, e119_19, e119_22, e119_23, e119_24, e119_27, e119_30, e119_31, e119_34, e119_35, e119_37, e119_38, e119_39, e119_42, e119_43, e119_46, e119_47, e119_49, e119_50, e119_53, e119_55, e119_56, e119_57, e119_58, e119_59, e119_61, e119_64, e119_65, e119_68, e119_70, e119_71, e119_72, e119_73, e119_74, e119_75, e119_76, e119_77, e119_80, e119_82, e119_83, e119_84, e119_87, e119_89, e119_90, e119_91, e119_92, e119_93, e119_94, e119_95, e119_96, e119_97, e119_100, e119_101, e119_102, e119_105, e119_108, e119_109, e119_112, e119_114, e119_115, e119_116, e119_117, e119_118, e119_119, e119_122, e119_123, e119_126, e119_127, e119_128, e119_131, e119_134, e119_137, e119_140, ↓reduceIte, Nat.reduceAdd, Nat.reduceMul, nI_add, pk_mul, n_lt_t, n_lt_f, n_le_t, n_le_f, n_eq_f, n_eq_t, n_z_f, n_z_t, n_lz, n_zl, not_true_eq_false, not_false_eq_true, s86, Option.bind_some, Option.toList_some, Option.toList_none, List.cons_append, List.nil_append, h1, h2, lgS_n, rL, rl1, rl2]
        rw [lgS_up hj hk (by simp only [gr, h1, h2, hk, and_self, if_true]) (by simp only [gr]; rw [if_neg (by omega), if_neg (by omega)])]
    · have h20 : bt o k = 0 := by omega
      have h3 : ¬ j = k := fun z => h2 (by rw [← z]; exact h1)
      refine ⟨(.int (nI 0), .int (nI 0)), ?_⟩
      try dsimp only
      rw [e119_9]
      simp (disch := (first | omega | assumption | rfl | (simp (disch := assumption) only [l9_2, l9_4, l9_5, l9_6, l9_7, l9_9, l9_10, l9_11, l9_12, l9_14, l9_15, l9_16, l9_17, l9_51, l9_52, l9_53, l9_55, l9_56, l9_58, l9_61, l9_73, l9_74, l9_75, l9_76, l9_77, l9_79, l9_80, l9_81, l9_82, l9_83, l9_84, l9_85, l10_59, l10_78, l9_D1, l9_D2, l9_D3, l9_D4, l9_T1, l9_T2, l9_T3, l9_T4]; omega) | decide)) only [e119_0, e119_1, e119_3, e119_4, e119_7, e119_8, e119_10, e119_11, e119_14, e119_15, e119_16, e119_19, e119_22, e119_23, e119_24, e119_27, e119_30, e119_31, e119_34, e119_35, e119_37, e119_38, e119_39, e119_42, e119_43, e119_46, e119_47, e119_49, e119_50, e119_53, e119_55, e119_56, e119_57, e119_58, e119_59, e119_61, e119_64, e119_65, e119_68, e119_70, e119_71, e119_72, e119_73, e119_74, e119_75, e119_76, e119_77, e119_80, e119_82, e119_83, e119_84, e119_87, e119_89, e119_90, e119_91, e119_92, e119_93, e119_94, e119_95, e119_96, e119_97, e119_100, e119_101, e119_102, e119_105, e119_108, e119_109, e119_112, e119_114, e119_115, e119_116, e119_117, e119_118, e119_119, e119_122, e119_123, e119_126, e119_127, e119_128, e119_131, e119_134, e119_137, e119_140, ↓reduceIte, Nat.reduceAdd, Nat.reduceMul, nI_add, pk_mul, n_lt_t, n_lt_f, n_le_t, n_le_f, n_eq_f, n_eq_t, n_z_f, n_z_t, n_lz, n_zl, not_true_eq_false, not_false_eq_true, s86, Option.bind_some, Option.toList_some, Option.toList_none, List.cons_append, List.nil_append, h1, h20, lgS_n, rL, rl1, rl2]
      rw [lgS_up hj hk (by simp only [gr, h2, and_false, if_false, hk, if_true, h3]) (by simp only [gr]; rw [if_neg (by omega), if_neg (by omega)])]
  · have h10 : bt o j = 0 := by omega
    by_cases h3 : j = k
    · subst h3
      refine ⟨(.int (nI 0), .int (nI 1)), ?_⟩
      try dsimp only
      rw [e119_9]
      simp (disch := (first | omega | assumption | rfl | (simp (disch := assumption) only [l9_2, l9_4, l9_5, l9_6, l9_7, l9_9, l9_10, l9_11, l9_12, l9_14, l9_15, l9_16, l9_17, l9_51, l9_52, l9_53, l9_55, l9_56, l9_58, l9_61, l9_73, l9_74, l9_75, l9_76, l9_77, l9_79, l9_80, l9_81, l9_82, l9_83, l9_84, l9_85, l10_59, l10_78, l9_D1, l9_D2, l9_D3, l9_D4, l9_T1, l9_T2, l9_T3, l9_T4]; omega) | decide)) only [e119_0, e119_1, e119_3, e119_4, e119_7, e119_8, e119_10, e119_11, e119_14, e119_15, e119_16, e119_19, e119_22, e119_23, e119_24, e119_27, e119_30, e119_31, e119_34, e119_35, e119_37, e119_38, e119_39, e119_42, e119_43, e119_46, e119_47, e119_49, e119_50, e119_53, e119_55, e119_56, e119_57, e119_58, e119_59, e119_61, e119_64, e119_65, e119_68, e119_70, e119_71, e119_72, e119_73, e119_74, e119_75, e119_76, e119_77, e119_80, e119_82, e119_83, e119_84, e119_87, e119_89, e119_90, e119_91, e119_92, e119_93, e119_94, e119_95, e119_96, e119_97, e119_100, e119_101, e119_102, e119_105, e119_108, e119_109, e119_112, e119_114, e119_115, e119_116, e119_117, e119_118, e119_119, e119_122, e119_123, e119_126, e119_127, e119_128, e119_131, e119_134, e119_137, e119_140, ↓reduceIte, Nat.reduceAdd, Nat.reduceMul, nI_add, pk_mul, n_lt_t, n_lt_f, n_le_t, n_le_f, n_eq_f, n_eq_t, n_z_f, n_z_t, n_lz, n_zl, not_true_eq_false, not_false_eq_true, s86, Option.bind_some, Option.toList_some, Option.toList_none, List.cons_append, List.nil_append, h10, lgS_n, rL, rl1, rl2]
      rw [lgS_up hj hk (by simp only [gr, h1, false_and, if_false, hk, if_true]) (by simp only [gr, h1, if_false]; rw [if_neg (by omega), if_pos (by omega)])]
    · refine ⟨(.int (nI 0), .int (nI 0)), ?_⟩
      try dsimp only
      rw [e119_9]
      simp (disch := (first | omega | assumption | rfl | (simp (disch := assumption) only [l9_2, l9_4, l9_5, l9_6, l9_7, l9_9, l9_10, l9_11, l9_12, l9_14, l9_15, l9_16, l9_17, l9_51, l9_52, l9_53, l9_55, l9_56, l9_58, l9_61, l9_73, l9_74, l9_75, l9_76, l9_77, l9_79, l9_80, l9_81, l9_82, l9_83, l9_84, l9_85, l10_59, l10_78, l9_D1, l9_D2, l9_D3, l9_D4, l9_T1, l9_T2, l9_T3, l9_T4]; omega) | decide)) only [e119_0, e119_1, e119_3, e119_4, e119_7, e119_8, e119_10, e119_11, e119_14, e119_15, e119_16, e119_19, e119_22, e119_23, e119_24, e119_27, e119_30, e119_31, e119_34, e119_35, e119_37, e119_38, e119_39, e119_42, e119_43, e119_46, e119_47, e119_49, e119_50, e119_53, e119_55, e119_56, e119_57, e119_58, e119_59, e119_61, e119_64, e119_65, e119_68, e119_70, e119_71, e119_72, e119_73, e119_74, e119_75, e119_76, e119_77, e119_80, e119_82, e119_83, e119_84, e119_87, e119_89, e119_90, e119_91, e119_92, e119_93, e119_94, e119_95, e119_96, e119_97, e119_100, e119_101, e119_102, e119_105, e119_108, e119_109, e119_112, e119_114, e119_115, e119_116, e119_117, e119_118, e119_119, e119_122, e119_123, e119_126, e119_127, e119_128, e119_131, e119_134, e119_137, e119_140, ↓reduceIte, Nat.reduceAdd, Nat.reduceMul, nI_add, pk_mul, n_lt_t, n_lt_f, n_le_t, n_le_f, n_eq_f, n_eq_t, n_z_f, n_z_t, n_lz, n_zl, not_true_eq_false, not_false_eq_true, s86, Option.bind_some, Option.toList_some, Option.toList_none, List.cons_append, List.nil_append, h10, lgS_n, rL, rl1, rl2]
      rw [lgS_up hj hk (by simp only [gr, h1, false_and, if_false, hk, if_true, h3]) (by simp only [gr]; rw [if_neg (by omega), if_neg (by omega)])]
theorem s119 {o : Nat} {L : Nat → Nat} (ho : o < 16) (hL : ∀ i, i < 16 → F 75 (17 + i) = nI (L i) ∧ L i < 31) : q_ex X (119, 0, [.ref 72, .int (nI o), .null, .null, .null, .null], [], q_w t u F J) = some (none, q_w t u (gx 81 32 F (grd L o)) J) := by
  have h := q_iter (X := X) (δ := Value × Value × Value) (fun k d => (119, 2, [.ref 72, .int (nI o), .int (nI k), d.1, d.2.1, d.2.2], [], q_w t u (lgS F L o k 0) J)) 4 (fun k hk d => ?_) (.null, .null, .null)
  · obtain ⟨d, h⟩ := h
    simp only [e119_0, e119_1]
    have h' : q_ex X (119, 2, [.ref 72, .int (nI o), .int (nI 0), .null, .null, .null], [], q_w t u F J) = _ := Eq.trans (by congr 6; funext b i; simp only [lgS]; rw [if_neg (by omega)]) h
    rw [h', e119_2]
    simp (disch := (first | omega | assumption | rfl | (simp (disch := assumption) only [l9_2, l9_4, l9_5, l9_6, l9_7, l9_9, l9_10, l9_11, l9_12, l9_14, l9_15, l9_16, l9_17, l9_51, l9_52, l9_53, l9_55, l9_56, l9_58, l9_61, l9_73, l9_74, l9_75, l9_76, l9_77, l9_79, l9_80, l9_81, l9_82, l9_83, l9_84, l9_85, l10_59, l10_78, l9_D1, l9_D2, l9_D3, l9_D4, l9_T1, l9_T2, l9_T3, l9_T4]; omega) | decide)) only [e119_0, e119_1, e119_3, e119_4, e119_7, e119_8, e119_10, e119_11, e119_14, e119_15, e119_16, e119_19, e119_22, e119_23, e119_24, e119_27, e119_30, e119_31, e119_34, e119_35, e119_37, e119_38, e119_39, e119_42, e119_43, e119_46, e119_47, e119_49, e119_50, e119_53, e119_55, e119_56, e119_57, e119_58, e119_59, e119_61, e119_64, e119_65, e119_68, e119_70, e119_71, e119_72, e119_73, e119_74, e119_75, e119_76, e119_77, e119_80, e119_82, e119_83, e119_84, e119_87, e119_89, e119_90, e119_91, e119_92, e119_93, e119_94, e119_95, e119_96, e119_97, e119_100, e119_101, e119_102, e119_105, e119_108, e119_109, e119_112, e119_114, e119_115, e119_116, e119_117, e119_118, e119_119, e119_122, e119_123, e119_126, e119_127, e119_128, e119_131, e119_134, e119_137, e119_140, ↓reduceIte, Nat.reduceAdd, Nat.reduceMul, nI_add, pk_mul, n_lt_t, n_lt_f, n_le_t, n_le_f, n_eq_f, n_eq_t, n_z_f, n_z_t, n_lz, n_zl, not_true_eq_false, not_false_eq_true]
    congr 3
    funext b i
    simp only [lgS, gx, va_app]
    by_cases hb : b = 81
    · subst hb
      by_cases hi : i < 32
      · rw [if_pos ⟨rfl, hi, by omega⟩, if_pos rfl, if_pos hi]
      · rw [if_neg (by omega), if_pos rfl, if_neg hi]
    · rw [if_neg (by omega), if_neg hb]
  · obtain ⟨d1, h1⟩ := s119_i (X := X) (t := t) (u := u) (J := J) ho hk hL d.2.1 d.2.2
    refine ⟨(.int (nI 4), d1.1, d1.2), ?_⟩
    try dsimp only
    rw [e119_2]
    simp (disch := (first | omega | assumption | rfl | (simp (disch := assumption) only [l9_2, l9_4, l9_5, l9_6, l9_7, l9_9, l9_10, l9_11, l9_12, l9_14, l9_15, l9_16, l9_17, l9_51, l9_52, l9_53, l9_55, l9_56, l9_58, l9_61, l9_73, l9_74, l9_75, l9_76, l9_77, l9_79, l9_80, l9_81, l9_82, l9_83, l9_84, l9_85, l10_59, l10_78, l9_D1, l9_D2, l9_D3, l9_D4, l9_T1, l9_T2, l9_T3, l9_T4]; omega) | decide)) only [e119_3, e119_4, e119_7, e119_8, ↓reduceIte, Nat.reduceAdd, Nat.reduceMul, nI_add, pk_mul, n_lt_t, n_lt_f, n_le_t, n_le_f, n_eq_f, n_eq_t, n_z_f, n_z_t, n_lz, n_zl, not_true_eq_false, not_false_eq_true]
    rw [h1, e119_9]
    simp (disch := (first | omega | assumption | rfl | (simp (disch := assumption) only [l9_2, l9_4, l9_5, l9_6, l9_7, l9_9, l9_10, l9_11, l9_12, l9_14, l9_15, l9_16, l9_17, l9_51, l9_52, l9_53, l9_55, l9_56, l9_58, l9_61, l9_73, l9_74, l9_75, l9_76, l9_77, l9_79, l9_80, l9_81, l9_82, l9_83, l9_84, l9_85, l10_59, l10_78, l9_D1, l9_D2, l9_D3, l9_D4, l9_T1, l9_T2, l9_T3, l9_T4]; omega) | decide)) only [e119_0, e119_1, e119_3, e119_4, e119_7, e119_8, e119_10, e119_11, e119_14, e119_15, e119_16, e119_19, e119_22, e119_23, e119_24, e119_27, e119_30, e119_31, e119_34, e119_35, e119_37, e119_38, e119_39, e119_42, e119_43, e119_46, e119_47, e119_49, e119_50, e119_53, e119_55, e119_56, e119_57, e119_58, e119_59, e119_61, e119_64, e119_65, e119_68, e119_70, e119_71, e119_72, e119_73, e119_74, e119_75, e119_76, e119_77, e119_80, e119_82, e119_83, e119_84, e119_87, e119_89, e119_90, e119_91, e119_92, e119_93, e119_94, e119_95, e119_96, e119_97, e119_100, e119_101, e119_102, e119_105, e119_108, e119_109, e119_112, e119_114, e119_115, e119_116, e119_117, e119_118, e119_119, e119_122, e119_123, e119_126, e119_127, e119_128, e119_131, e119_134, e119_137, e119_140, ↓reduceIte, Nat.reduceAdd, Nat.reduceMul, nI_add, pk_mul, n_lt_t, n_lt_f, n_le_t, n_le_f, n_eq_f, n_eq_t, n_z_f, n_z_t, n_lz, n_zl, not_true_eq_false, not_false_eq_true]
    congr 6
    funext b i
    simp only [lgS]
    by_cases hc : b = 81 ∧ i < 32 ∧ (i / 8 < k ∨ i / 8 = k ∧ i % 4 < 4)
    · rw [if_pos hc, if_pos (by omega)]
    · rw [if_neg hc, if_neg (by omega)]
theorem s120_f {c : Nat} {R : Nat → Nat} (hc : c < 4) (hR : ∀ x, x < 32 → R x < 31) : ∀ (n f : Nat), f ≤ 4 → 4 ≤ n + f → q_ex X (120, 2, [.ref 72, .int (nI c), .int (nI f), .null, .null, .null, .null], [], q_w t u (gx 81 32 F R) J) = q_ex X (120, 27, [.ref 72, .int (nI c), .int (nI (fnd R 8 c n f)), .null, .null, .null, .null], [], q_w t u (gx 81 32 F R) J)
  | 0, f, h1, h2 => by
    obtain rfl : f = 4 := by omega
    rw [e120_2]
    simp (disch := (first | omega | assumption | rfl | (simp (disch := assumption) only [l9_2, l9_4, l9_5, l9_6, l9_7, l9_9, l9_10, l9_11, l9_12, l9_14, l9_15, l9_16, l9_17, l9_51, l9_52, l9_53, l9_55, l9_56, l9_58, l9_61, l9_73, l9_74, l9_75, l9_76, l9_77, l9_79, l9_80, l9_81, l9_82, l9_83, l9_84, l9_85, l10_59, l10_78, l9_D1, l9_D2, l9_D3, l9_D4, l9_T1, l9_T2, l9_T3, l9_T4]; omega) | decide)) only [e120_3, e120_4, ↓reduceIte, Nat.reduceAdd, Nat.reduceMul, nI_add, pk_mul, n_lt_t, n_lt_f, n_le_t, n_le_f, n_eq_f, n_eq_t, n_z_f, n_z_t, n_lz, n_zl, not_true_eq_false, not_false_eq_true, fnd]
  | n + 1, f, h1, h2 => by
    by_cases hf4 : f = 4
    · subst hf4
      rw [e120_2]
      simp (disch := (first | omega | assumption | rfl | (simp (disch := assumption) only [l9_2, l9_4, l9_5, l9_6, l9_7, l9_9, l9_10, l9_11, l9_12, l9_14, l9_15, l9_16, l9_17, l9_51, l9_52, l9_53, l9_55, l9_56, l9_58, l9_61, l9_73, l9_74, l9_75, l9_76, l9_77, l9_79, l9_80, l9_81, l9_82, l9_83, l9_84, l9_85, l10_59, l10_78, l9_D1, l9_D2, l9_D3, l9_D4, l9_T1, l9_T2, l9_T3, l9_T4]; omega) | decide)) only [e120_3, e120_4, ↓reduceIte, Nat.reduceAdd, Nat.reduceMul, nI_add, pk_mul, n_lt_t, n_lt_f, n_le_t, n_le_f, n_eq_f, n_eq_t, n_z_f, n_z_t, n_lz, n_zl, not_true_eq_false, not_false_eq_true]
      simp only [fnd, Nat.lt_irrefl, false_and, ↓reduceIte]
    have hf : f < 4 := by omega
    have hr := hR (8 * f + c) (by omega)
    rw [e120_2]
    by_cases h3 : R (8 * f + c) = 0
    · have ih := s120_f hc hR n (f + 1) (by omega) (by omega)
      simp (disch := (first | omega | assumption | rfl | (simp (disch := assumption) only [l9_2, l9_4, l9_5, l9_6, l9_7, l9_9, l9_10, l9_11, l9_12, l9_14, l9_15, l9_16, l9_17, l9_51, l9_52, l9_53, l9_55, l9_56, l9_58, l9_61, l9_73, l9_74, l9_75, l9_76, l9_77, l9_79, l9_80, l9_81, l9_82, l9_83, l9_84, l9_85, l10_59, l10_78, l9_D1, l9_D2, l9_D3, l9_D4, l9_T1, l9_T2, l9_T3, l9_T4]; omega) | decide)) only [e120_0, e120_1, e120_3, e120_4, e120_7, e120_8, e120_11, e120_13, e120_14, e120_15, e120_16, e120_17, e120_18, e120_21, e120_24, e120_28, e120_29, e120_32, e120_33, e120_34, e120_35, e120_38, e120_40, e120_41, e120_42, e120_43, e120_44, e120_45, e120_46, e120_47, e120_51, e120_53, e120_56, e120_57, e120_60, e120_62, e120_63, e120_64, e120_66, e120_67, e120_68, e120_69, e120_72, e120_74, e120_75, e120_78, e120_80, e120_81, e120_82, e120_84, e120_85, e120_86, e120_89, e120_91, e120_92, e120_93, e120_95, e120_96, e120_97, e120_98, e120_99, e120_102, e120_104, e120_105, e120_106, e120_108, e120_109, e120_111, e120_112, e120_115, e120_118, e120_119, e120_123, e120_124, e120_127, e120_129, e120_130, e120_133, e120_134, e120_137, e120_138, e120_141, e120_143, e120_145, e120_146, e120_147, e120_148, e120_149, e120_151, e120_152, e120_156, e120_158, e120_161, e120_162, e120_165, e120_167, e120_169, e120_170, e120_172, e120_173, e120_174, e120_177, e120_179, e120_181, e120_182, e120_184, e120_185, e120_186, e120_188, e120_189, e120_192, e120_194, e120_195, e120_196, e120_198, e120_199, e120_200, e120_201, e120_202, e120_205, e120_206, e120_209, e120_212, e120_215, e120_218, e120_219, ↓reduceIte, Nat.reduceAdd, Nat.reduceMul, nI_add, pk_mul, n_lt_t, n_lt_f, n_le_t, n_le_f, n_eq_f, n_eq_t, n_z_f, n_z_t, n_lz, n_zl, not_true_eq_false, not_false_eq_true, gx_rd, h3]
      rw [ih]
      simp only [fnd, hf, h3, and_self, ↓reduceIte]
    · simp (disch := (first | omega | assumption | rfl | (simp (disch := assumption) only [l9_2, l9_4, l9_5, l9_6, l9_7, l9_9, l9_10, l9_11, l9_12, l9_14, l9_15, l9_16, l9_17, l9_51, l9_52, l9_53, l9_55, l9_56, l9_58, l9_61, l9_73, l9_74, l9_75, l9_76, l9_77, l9_79, l9_80, l9_81, l9_82, l9_83, l9_84, l9_85, l10_59, l10_78, l9_D1, l9_D2, l9_D3, l9_D4, l9_T1, l9_T2, l9_T3, l9_T4]; omega) | decide)) only [e120_0, e120_1, e120_3, e120_4, e120_7, e120_8, e120_11, e120_13, e120_14, e120_15, e120_16, e120_17, e120_18, e120_21, e120_24, e120_28, e120_29, e120_32, e120_33, e120_34, e120_35, e120_38, e120_40, e120_41, e120_42, e120_43, e120_44, e120_45, e120_46, e120_47, e120_51, e120_53, e120_56, e120_57, e120_60, e120_62, e120_63, e120_64, e120_66, e120_67, e120_68, e120_69, e120_72, e120_74, e120_75, e120_78, e120_80, e120_81, e120_82, e120_84, e120_85, e120_86, e120_89, e120_91, e120_92, e120_93, e120_95, e120_96, e120_97, e120_98, e120_99, e120_102, e120_104, e120_105, e120_106, e120_108, e120_109, e120_111, e120_112, e120_115, e120_118, e120_119, e120_123, e120_124, e120_127, e120_129, e120_130, e120_133, e120_134, e120_137, e120_138, e120_141, e120_143, e120_145, e120_146, e120_147, e120_148, e120_149, e120_151, e120_152, e120_156, e120_158, e120_161, e120_162, e120_165, e120_167, e120_169, e120_170, e120_172, e120_173, e120_174, e120_177, e120_179, e120_181, e120_182, e120_184, e120_185, e120_186, e120_188, e120_189, e120_192, e120_194, e120_195, e120_196, e120_198, e120_199, e120_200, e120_201, e120_202, e120_205, e120_206, e120_209, e120_212, e120_215, e120_218, e120_219, ↓reduceIte, Nat.reduceAdd, Nat.reduceMul, nI_add, pk_mul, n_lt_t, n_lt_f, n_le_t, n_le_f, n_eq_f, n_eq_t, n_z_f, n_z_t, n_lz, n_zl, not_true_eq_false, not_false_eq_true, gx_rd]
      simp only [fnd, h3, and_false, ↓reduceIte]
theorem s120_p {c f : Nat} {R : Nat → Nat} {h3 : Nat} (hc : c < 4) (hf : f < 4) (hcf : c ≤ f) (hR : ∀ x, x < 32 → R x < 31) (hh : h3 = R (8 * f + c)) (hh0 : h3 ≠ 0) : ∃ d : Value, q_ex X (120, 49, [.ref 72, .int (nI c), .int (nI f), .int (nI h3), .int (nI 0), .null, .null], [], q_w t u (gx 81 32 F R) J) = q_ex X (120, 49, [.ref 72, .int (nI c), .int (nI f), .int (nI h3), .int (nI 8), d, .null], [], q_w t u (gx 81 32 F (piv 8 R c f)) J) := by
  have hh31 : h3 < 31 := by rw [hh]; exact hR _ (by omega)
  have h := q_iter (X := X) (δ := Value) (fun k d => (120, 49, [.ref 72, .int (nI c), .int (nI f), .int (nI h3), .int (nI k), d, .null], [], q_w t u (gx 81 32 F (fun x => if 8 * c ≤ x ∧ x < 8 * c + k then R (8 * f + (x - 8 * c)) * ob h3 % 31 else if f ≠ c ∧ 8 * f ≤ x ∧ x < 8 * f + k then R (8 * c + (x - 8 * f)) else R x)) J)) 8 (fun k hk d => ?_) .null
  · obtain ⟨d, h⟩ := h
    refine ⟨d, Eq.trans ?_ (h.trans ?_)⟩
    · congr 6
      exact gx_eq (fun x hx => by rw [if_neg (by omega), if_neg (by omega)])
    · congr 6
      exact gx_eq (fun x hx => by simp only [piv, hh])
  · refine ⟨.int (nI (R (8 * f + k) * ob h3 % 31)), ?_⟩
    try dsimp only
    have hr := hR (8 * f + k) (by omega)
    rw [e120_49]
    have r1 : (if 8 * c ≤ 8 * c + k ∧ 8 * c + k < 8 * c + k then R (8 * f + (8 * c + k - 8 * c)) * ob h3 % 31 else if f ≠ c ∧ 8 * f ≤ 8 * c + k ∧ 8 * c + k < 8 * f + k then R (8 * c + (8 * c + k - 8 * f)) else R (8 * c + k)) = R (8 * c + k) := by
      rw [if_neg (by omega), if_neg (by omega)]
    have r2 : (if 8 * c ≤ 8 * f + k ∧ 8 * f + k < 8 * c + k then R (8 * f + (8 * f + k - 8 * c)) * ob h3 % 31 else if f ≠ c ∧ 8 * f ≤ 8 * f + k ∧ 8 * f + k < 8 * f + k then R (8 * c + (8 * f + k - 8 * f)) else R (8 * f + k)) = R (8 * f + k) := by
      rw [if_neg (by omega), if_neg (by omega)]
    simp (disch := (first | omega | assumption | rfl | (simp (disch := assumption) only [l9_2, l9_4, l9_5, l9_6, l9_7, l9_9, l9_10, l9_11, l9_12, l9_14, l9_15, l9_16, l9_17, l9_51, l9_52, l9_53, l9_55, l9_56, l9_58, l9_61, l9_73, l9_74, l9_75, l9_76, l9_77, l9_79, l9_80, l9_81, l9_82, l9_83, l9_84, l9_85, l10_59, l10_78, l9_D1, l9_D2, l9_D3, l9_D4, l9_T1, l9_T2, l9_T3, l9_T4]; omega) | decide)) only [e120_0, e120_1, e120_3, e120_4, e120_7, e120_8, e120_11, e120_13, e120_14, e120_15, e120_16, e120_17, e120_18, e120_21, e120_24, e120_28, e120_29, e120_32, e120_33, e120_34, e120_35, e120_38, e120_40, e120_41, e120_42, e120_43, e120_44, e120_45, e120_46, e120_47, e120_51, e120_53, e120_56, e120_57, e120_60, e120_62, e120_63, e120_64, e120_66, e120_67, e120_68, e120_69, e120_72, e120_74, e120_75, e120_78, e120_80, e120_81, e120_82, e120_84, e120_85, e120_86, e120_89, e120_91, e120_92, e120_93, e120_95, e120_96, e120_97, e120_98, e120_99, e120_102, e120_104, e120_105, e120_106, e120_108, e120_109, e120_111, e120_112, e120_115, e120_118, e120_119, e120_123, e120_124, e120_127, e120_129, e120_130, e120_133, e120_134, e120_137, e120_138, e120_141, e120_143, e120_145, e120_146, e120_147, e120_148, e120_149, e120_151, e120_152, e120_156, e120_158, e120_161, e120_162, e120_165, e120_167, e120_169, e120_170, e120_172, e120_173, e120_174, e120_177, e120_179, e120_181, e120_182, e120_184, e120_185, e120_186, e120_188, e120_189, e120_192, e120_194, e120_195, e120_196, e120_198, e120_199, e120_200, e120_201, e120_202, e120_205, e120_206, e120_209, e120_212, e120_215, e120_218, e120_219, ↓reduceIte, Nat.reduceAdd, Nat.reduceMul, nI_add, pk_mul, n_lt_t, n_lt_f, n_le_t, n_le_f, n_eq_f, n_eq_t, n_z_f, n_z_t, n_lz, n_zl, not_true_eq_false, not_false_eq_true, gx_rd, r1, r2, s93, Option.bind_some, Option.toList_some, Option.toList_none, List.cons_append, List.nil_append, gx_up]
    congr 6
    refine gx_eq (fun x hx => ?_)
    simp only [updN]
    by_cases hx2 : x = 8 * c + k
    · subst hx2
      rw [if_pos rfl, if_pos (by omega), show 8 * c + k - 8 * c = k by omega]
    · rw [if_neg hx2]
      by_cases hx3 : x = 8 * f + k
      · subst hx3
        rw [if_pos rfl, if_neg (by omega), if_pos (by omega), show 8 * f + k - 8 * f = k by omega]
      · have a1 : (8 * c ≤ x ∧ x < 8 * c + k) ↔ (8 * c ≤ x ∧ x < 8 * c + (k + 1)) := ⟨fun z => by omega, fun z => by omega⟩
        have a2 : (8 * f ≤ x ∧ x < 8 * f + k) ↔ (8 * f ≤ x ∧ x < 8 * f + (k + 1)) := ⟨fun z => by omega, fun z => by omega⟩
        simp only [hx3, if_false, a1, a2]
theorem times_ok : ∀ a, a < 31 → ∀ g, g < 31 → (30 * (a * g)) % 31 = ((31 - a) * g) % 31 := by decide +kernel
theorem s120_i {c j tm : Nat} {R : Nat → Nat} (hc : c < 4) (hj : j < 4) (hR : ∀ x, x < 32 → R x < 31) (hjc : j = c → tm = 0) (htm : tm < 31) {d2 d3 : Value} : q_ex X (120, 154, [.ref 72, .int (nI c), d2, d3, .int (nI j), .int (nI tm), .int (nI 0)], [], q_w t u (gx 81 32 F R) J) = q_ex X (120, 154, [.ref 72, .int (nI c), d2, d3, .int (nI j), .int (nI tm), .int (nI 8)], [], q_w t u (gx 81 32 F (fun x => if 8 * j ≤ x ∧ x < 8 * j + 8 then (R x + 30 * (tm * R (8 * c + (x - 8 * j)))) % 31 else R x)) J) := by
  have h := q_iter0 (X := X) (fun k => (120, 154, [.ref 72, .int (nI c), d2, d3, .int (nI j), .int (nI tm), .int (nI k)], [], q_w t u (gx 81 32 F (fun x => if 8 * j ≤ x ∧ x < 8 * j + k then (R x + 30 * (tm * R (8 * c + (x - 8 * j)))) % 31 else R x)) J)) 8 (fun k hk => ?_)
  · refine Eq.trans ?_ h
    congr 6
    exact gx_eq (fun x hx => by rw [if_neg (by omega)])
  · try dsimp only
    rw [e120_154]
    have h1 := hR (8 * j + k) (by omega)
    have h2 := hR (8 * c + k) (by omega)
    have hm : tm * R (8 * c + k) ≤ 30 * 30 := Nat.mul_le_mul (by omega) (by omega)
    have r1 : (if 8 * j ≤ 8 * j + k ∧ 8 * j + k < 8 * j + k then (R (8 * j + k) + 30 * (tm * R (8 * c + (8 * j + k - 8 * j)))) % 31 else R (8 * j + k)) = R (8 * j + k) := by rw [if_neg (by omega)]
    have r2 : (if 8 * j ≤ 8 * c + k ∧ 8 * c + k < 8 * j + k then (R (8 * c + k) + 30 * (tm * R (8 * c + (8 * c + k - 8 * j)))) % 31 else R (8 * c + k)) = R (8 * c + k) := by rw [if_neg (by omega)]
    simp (disch := (first | omega | assumption | rfl | (simp (disch := assumption) only [l9_2, l9_4, l9_5, l9_6, l9_7, l9_9, l9_10, l9_11, l9_12, l9_14, l9_15, l9_16, l9_17, l9_51, l9_52, l9_53, l9_55, l9_56, l9_58, l9_61, l9_73, l9_74, l9_75, l9_76, l9_77, l9_79, l9_80, l9_81, l9_82, l9_83, l9_84, l9_85, l10_59, l10_78, l9_D1, l9_D2, l9_D3, l9_D4, l9_T1, l9_T2, l9_T3, l9_T4]; omega) | decide)) only [e120_0, e120_1, e120_3, e120_4, e120_7, e120_8, e120_11, e120_13, e120_14, e120_15, e120_16, e120_17, e120_18, e120_21, e120_24, e120_28, e120_29, e120_32, e120_33, e120_34, e120_35, e120_38, e120_40, e120_41, e120_42, e120_43, e120_44, e120_45, e120_46, e120_47, e120_51, e120_53, e120_56, e120_57, e120_60, e120_62, e120_63, e120_64, e120_66, e120_67, e120_68, e120_69, e120_72, e120_74, e120_75, e120_78, e120_80, e120_81, e120_82, e120_84, e120_85, e120_86, e120_89, e120_91, e120_92, e120_93, e120_95, e120_96, e120_97, e120_98, e120_99, e120_102, e120_104, e120_105, e120_106, e120_108, e120_109, e120_111, e120_112, e120_115, e120_118, e120_119, e120_123, e120_124, e120_127, e120_129, e120_130, e120_133, e120_134, e120_137, e120_138, e120_141, e120_143, e120_145, e120_146, e120_147, e120_148, e120_149, e120_151, e120_152, e120_156, e120_158, e120_161, e120_162, e120_165, e120_167, e120_169, e120_170, e120_172, e120_173, e120_174, e120_177, e120_179, e120_181, e120_182, e120_184, e120_185, e120_186, e120_188, e120_189, e120_192, e120_194, e120_195, e120_196, e120_198, e120_199, e120_200, e120_201, e120_202, e120_205, e120_206, e120_209, e120_212, e120_215, e120_218, e120_219, ↓reduceIte, Nat.reduceAdd, Nat.reduceMul, nI_add, pk_mul, n_lt_t, n_lt_f, n_le_t, n_le_f, n_eq_f, n_eq_t, n_z_f, n_z_t, n_lz, n_zl, not_true_eq_false, not_false_eq_true, gx_rd, r1, r2, s92_n, Option.bind_some, Option.toList_some, Option.toList_none, List.cons_append, List.nil_append, gx_up]
    congr 6
    refine gx_eq (fun x hx => ?_)
    simp only [updN]
    by_cases hx2 : x = 8 * j + k
    · subst hx2
      rw [if_pos rfl, if_pos (by omega), show 8 * j + k - 8 * j = k by omega]
    · grind
theorem s120_c {c : Nat} {R : Nat → Nat} (hc : c < 4) (hR : ∀ x, x < 32 → R x < 31) {d2 d3 d5 d6 : Value} : ∃ d : Value × Value, q_ex X (120, 121, [.ref 72, .int (nI c), d2, d3, .int (nI 0), d5, d6], [], q_w t u (gx 81 32 F R) J) = q_ex X (120, 121, [.ref 72, .int (nI c), d2, d3, .int (nI 4), d.1, d.2], [], q_w t u (gx 81 32 F (clr 8 R c)) J) := by
  have h := q_iter (X := X) (δ := Value × Value) (fun k d => (120, 121, [.ref 72, .int (nI c), d2, d3, .int (nI k), d.1, d.2], [], q_w t u (gx 81 32 F (fun x => if x < 8 * k then clr 8 R c x else R x)) J)) 4 (fun k hk d => ?_) (d5, d6)
  · obtain ⟨d, h⟩ := h
    refine ⟨d, Eq.trans ?_ (h.trans ?_)⟩
    · rw [gx_eq (R := fun x => if x < 8 * 0 then clr 8 R c x else R x) (R' := R) (fun x hx => by rw [if_neg (by omega)])]
    · rw [gx_eq (R := fun x => if x < 8 * 4 then clr 8 R c x else R x) (R' := clr 8 R c) (fun x hx => by rw [if_pos (by omega)])]
  · have hb : ∀ x, x < 32 → (if x < 8 * k then clr 8 R c x else R x) < 31 := by
      intro x hx
      have := hR x hx
      simp only [clr]
      split
      · split
        · exact Nat.mod_lt _ (by decide)
        · omega
      · omega
    have hrk := hR (8 * k + c) (by omega)
    have r1 : (if 8 * k + c < 8 * k then clr 8 R c (8 * k + c) else R (8 * k + c)) = R (8 * k + c) := by rw [if_neg (by omega)]
    by_cases hkc : k = c
    · refine ⟨(.int (nI 0), .int (nI 8)), ?_⟩
      have hi := s120_i (X := X) (t := t) (u := u) (J := J) (F := F) (c := c) (j := k) (tm := 0) hc hk hb (fun _ => rfl) (by omega) (d2 := d2) (d3 := d3)
      subst hkc
      try dsimp only
      rw [e120_121]
      simp (disch := (first | omega | assumption | rfl | (simp (disch := assumption) only [l9_2, l9_4, l9_5, l9_6, l9_7, l9_9, l9_10, l9_11, l9_12, l9_14, l9_15, l9_16, l9_17, l9_51, l9_52, l9_53, l9_55, l9_56, l9_58, l9_61, l9_73, l9_74, l9_75, l9_76, l9_77, l9_79, l9_80, l9_81, l9_82, l9_83, l9_84, l9_85, l10_59, l10_78, l9_D1, l9_D2, l9_D3, l9_D4, l9_T1, l9_T2, l9_T3, l9_T4]; omega) | decide)) only [e120_0, e120_1, e120_3, e120_4, e120_7, e120_8, e120_11, e120_13, e120_14, e120_15, e120_16, e120_17, e120_18, e120_21, e120_24, e120_28, e120_29, e120_32, e120_33, e120_34, e120_35, e120_38, e120_40, e120_41, e120_42, e120_43, e120_44, e120_45, e120_46, e120_47, e120_51, e120_53, e120_56, e120_57, e120_60, e120_62, e120_63, e120_64, e120_66, e120_67, e120_68, e120_69, e120_72, e120_74, e120_75, e120_78, e120_80, e120_81, e120_82, e120_84, e120_85, e120_86, e120_89, e120_91, e120_92, e120_93, e120_95, e120_96, e120_97, e120_98, e120_99, e120_102, e120_104, e120_105, e120_106, e120_108, e120_109, e120_111, e120_112, e120_115, e120_118, e120_119, e120_123, e120_124, e120_127, e120_129, e120_130, e120_133, e120_134, e120_137, e120_138, e120_141, e120_143, e120_145, e120_146, e120_147, e120_148, e120_149, e120_151, e120_152, e120_156, e120_158, e120_161, e120_162, e120_165, e120_167, e120_169, e120_170, e120_172, e120_173, e120_174, e120_177, e120_179, e120_181, e120_182, e120_184, e120_185, e120_186, e120_188, e120_189, e120_192, e120_194, e120_195, e120_196, e120_198, e120_199, e120_200, e120_201, e120_202, e120_205, e120_206, e120_209, e120_212, e120_215, e120_218, e120_219, ↓reduceIte, Nat.reduceAdd, Nat.reduceMul, nI_add, pk_mul, n_lt_t, n_lt_f, n_le_t, n_le_f, n_eq_f, n_eq_t, n_z_f, n_z_t, n_lz, n_zl, not_true_eq_false, not_false_eq_true]
      rw [hi, e120_154]
      simp (disch := (first | omega | assumption | rfl | (simp (disch := assumption) only [l9_2, l9_4, l9_5, l9_6, l9_7, l9_9, l9_10, l9_11, l9_12, l9_14, l9_15, l9_16, l9_17, l9_51, l9_52, l9_53, l9_55, l9_56, l9_58, l9_61, l9_73, l9_74, l9_75, l9_76, l9_77, l9_79, l9_80, l9_81, l9_82, l9_83, l9_84, l9_85, l10_59, l10_78, l9_D1, l9_D2, l9_D3, l9_D4, l9_T1, l9_T2, l9_T3, l9_T4]; omega) | decide)) only [e120_0, e120_1, e120_3, e120_4, e120_7, e120_8, e120_11, e120_13, e120_14, e120_15, e120_16, e120_17, e120_18, e120_21, e120_24, e120_28, e120_29, e120_32, e120_33, e120_34, e120_35, e120_38, e120_40, e120_41, e120_42, e120_43, e120_44, e120_45, e120_46, e120_47, e120_51, e120_53, e120_56, e120_57, e120_60, e120_62, e120_63, e120_64, e120_66, e120_67, e120_68, e120_69, e120_72, e120_74, e120_75, e120_78, e120_80, e120_81, e120_82, e120_84, e120_85, e120_86, e120_89, e120_91, e120_92, e120_93, e120_95, e120_96, e120_97, e120_98, e120_99, e120_102, e120_104, e120_105, e120_106, e120_108, e120_109, e120_111, e120_112, e120_115, e120_118, e120_119, e120_123, e120_124, e120_127, e120_129, e120_130, e120_133, e120_134, e120_137, e120_138, e120_141, e120_143, e120_145, e120_146, e120_147, e120_148, e120_149, e120_151, e120_152, e120_156, e120_158, e120_161, e120_162, e120_165, e120_167, e120_169, e120_170, e120_172, e120_173, e120_174, e120_177, e120_179, e120_181, e120_182, e120_184, e120_185, e120_186, e120_188, e120_189, e120_192, e120_194, e120_195, e120_196, e120_198, e120_199, e120_200, e120_201, e120_202, e120_205, e120_206, e120_209, e120_212, e120_215, e120_218, e120_219, ↓reduceIte, Nat.reduceAdd, Nat.reduceMul, nI_add, pk_mul, n_lt_t, n_lt_f, n_le_t, n_le_f, n_eq_f, n_eq_t, n_z_f, n_z_t, n_lz, n_zl, not_true_eq_false, not_false_eq_true]
      congr 6
      refine gx_eq (fun x hx => ?_)
      by_cases hx2 : 8 * k ≤ x ∧ x < 8 * k + 8
      · have hq : x / 8 = k := by omega
        have hrx := hR x hx
        rw [if_pos hx2]
        simp only [Nat.zero_mul, Nat.mul_zero, Nat.add_zero]
        rw [if_neg (by omega), if_pos (by omega)]
        simp only [clr, hq]
        rw [if_neg (by omega), Nat.mod_eq_of_lt hrx]
      · grind
    · refine ⟨(.int (nI (R (8 * k + c))), .int (nI 8)), ?_⟩
      have hi := s120_i (X := X) (t := t) (u := u) (J := J) (F := F) (c := c) (j := k) (tm := R (8 * k + c)) hc hk hb (fun z => absurd z hkc) hrk (d2 := d2) (d3 := d3)
      try dsimp only
      rw [e120_121]
      simp (disch := (first | omega | assumption | rfl | (simp (disch := assumption) only [l9_2, l9_4, l9_5, l9_6, l9_7, l9_9, l9_10, l9_11, l9_12, l9_14, l9_15, l9_16, l9_17, l9_51, l9_52, l9_53, l9_55, l9_56, l9_58, l9_61, l9_73, l9_74, l9_75, l9_76, l9_77, l9_79, l9_80, l9_81, l9_82, l9_83, l9_84, l9_85, l10_59, l10_78, l9_D1, l9_D2, l9_D3, l9_D4, l9_T1, l9_T2, l9_T3, l9_T4]; omega) | decide)) only [e120_0, e120_1, e120_3, e120_4, e120_7, e120_8, e120_11, e120_13, e120_14, e120_15, e120_16, e120_17, e120_18, e120_21, e120_24, e120_28, e120_29, e120_32, e120_33, e120_34, e120_35, e120_38, e120_40, e120_41, e120_42, e120_43, e120_44, e120_45, e120_46, e120_47, e120_51, e120_53, e120_56, e120_57, e120_60, e120_62, e120_63, e120_64, e120_66, e120_67, e120_68, e120_69, e120_72, e120_74, e120_75, e120_78, e120_80, e120_81, e120_82, e120_84, e120_85, e120_86, e120_89, e120_91, e120_92, e120_93, e120_95, e120_96, e120_97, e120_98, e120_99, e120_102, e120_104, e120_105, e120_106, e120_108, e120_109, e120_111, e120_112, e120_115, e120_118, e120_119, e120_123, e120_124, e120_127, e120_129, e120_130, e120_133, e120_134, e120_137, e120_138, e120_141, e120_143, e120_145, e120_146, e120_147, e120_148, e120_149, e120_151, e120_152, e120_156, e120_158, e120_161, e120_162, e120_165, e120_167, e120_169, e120_170, e120_172, e120_173, e120_174, e120_177, e120_179, e120_181, e120_182, e120_184, e120_185, e120_186, e120_188, e120_189, e120_192, e120_194, e120_195, e120_196, e120_198, e120_199, e120_200, e120_201, e120_202, e120_205, e120_206, e120_209, e120_212, e120_215, e120_218, e120_219, ↓reduceIte, Nat.reduceAdd, Nat.reduceMul, nI_add, pk_mul, n_lt_t, n_lt_f, n_le_t, n_le_f, n_eq_f, n_eq_t, n_z_f, n_z_t, n_lz, n_zl, not_true_eq_false, not_false_eq_true, gx_rd, r1]
      rw [hi, e120_154]
      simp (disch := (first | omega | assumption | rfl | (simp (disch := assumption) only [l9_2, l9_4, l9_5, l9_6, l9_7, l9_9, l9_10, l9_11, l9_12, l9_14, l9_15, l9_16, l9_17, l9_51, l9_52, l9_53, l9_55, l9_56, l9_58, l9_61, l9_73, l9_74, l9_75, l9_76, l9_77, l9_79, l9_80, l9_81, l9_82, l9_83, l9_84, l9_85, l10_59, l10_78, l9_D1, l9_D2, l9_D3, l9_D4, l9_T1, l9_T2, l9_T3, l9_T4]; omega) | decide)) only [e120_0, e120_1, e120_3, e120_4, e120_7, e120_8, e120_11, e120_13, e120_14, e120_15, e120_16, e120_17, e120_18, e120_21, e120_24, e120_28, e120_29, e120_32, e120_33, e120_34, e120_35, e120_38, e120_40, e120_41, e120_42, e120_43, e120_44, e120_45, e120_46, e120_47, e120_51, e120_53, e120_56, e120_57, e120_60, e120_62, e120_63, e120_64, e120_66, e120_67, e120_68, e120_69, e120_72, e120_74, e120_75, e120_78, e120_80, e120_81, e120_82, e120_84, e120_85, e120_86, e120_89, e120_91, e120_92, e120_93, e120_95, e120_96, e120_97, e120_98, e120_99, e120_102, e120_104, e120_105, e120_106, e120_108, e120_109, e120_111, e120_112, e120_115, e120_118, e120_119, e120_123, e120_124, e120_127, e120_129, e120_130, e120_133, e120_134, e120_137, e120_138, e120_141, e120_143, e120_145, e120_146, e120_147, e120_148, e120_149, e120_151, e120_152, e120_156, e120_158, e120_161, e120_162, e120_165, e120_167, e120_169, e120_170, e120_172, e120_173, e120_174, e120_177, e120_179, e120_181, e120_182, e120_184, e120_185, e120_186, e120_188, e120_189, e120_192, e120_194, e120_195, e120_196, e120_198, e120_199, e120_200, e120_201, e120_202, e120_205, e120_206, e120_209, e120_212, e120_215, e120_218, e120_219, ↓reduceIte, Nat.reduceAdd, Nat.reduceMul, nI_add, pk_mul, n_lt_t, n_lt_f, n_le_t, n_le_f, n_eq_f, n_eq_t, n_z_f, n_z_t, n_lz, n_zl, not_true_eq_false, not_false_eq_true]
      congr 6
      refine gx_eq (fun x hx => ?_)
      by_cases hx2 : 8 * k ≤ x ∧ x < 8 * k + 8
      · have hq : x / 8 = k := by omega
        have hmm : x % 8 = x - 8 * k := by omega
        have hy : (if 8 * c + (x - 8 * k) < 8 * k then clr 8 R c (8 * c + (x - 8 * k)) else R (8 * c + (x - 8 * k))) = R (8 * c + (x - 8 * k)) := by
          split
          · simp only [clr]
            rw [if_neg (by omega)]
          · rfl
        have hg := hR (8 * c + (x - 8 * k)) (by omega)
        rw [if_pos hx2, hy, if_neg (by omega), if_pos (by omega)]
        simp only [clr, hq, hmm]
        rw [if_pos ⟨by omega, hkc⟩, Nat.add_mod, times_ok _ hrk _ hg, ← Nat.add_mod]
      · grind
theorem s120_t {c : Nat} {R : Nat → Nat} (hc : c < 4) (hR : ∀ x, x < 32 → R x < 31) (hf : ¬ fnd R 8 c 4 c = 4) : q_ex X (120, 0, [.ref 72, .int (nI c), .null, .null, .null, .null, .null], [], q_w t u (gx 81 32 F R) J) = some (some (.int (nI 1)), q_w t u (gx 81 32 F (clr 8 (piv 8 R c (fnd R 8 c 4 c)) c)) J) := by
  obtain ⟨f1, f2, f3⟩ := fnd_spec (R := R) (W := 8) (c := c) 4 c (by omega) (by omega)
  have f4 : fnd R 8 c 4 c < 4 := by omega
  obtain ⟨d, h⟩ := s120_p (X := X) (t := t) (u := u) (J := J) (F := F) (R := R) (c := c) (f := fnd R 8 c 4 c) hc f4 f1 hR rfl (f3 f4)
  obtain ⟨d', h'⟩ := s120_c (X := X) (t := t) (u := u) (J := J) (F := F) (R := piv 8 R c (fnd R 8 c 4 c)) (c := c) hc (piv_lt hR rfl hc f4) (d2 := .int (nI (fnd R 8 c 4 c))) (d3 := .int (nI (R (8 * fnd R 8 c 4 c + c)))) (d5 := d) (d6 := .null)
  simp (disch := (first | omega | assumption | rfl | (simp (disch := assumption) only [l9_2, l9_4, l9_5, l9_6, l9_7, l9_9, l9_10, l9_11, l9_12, l9_14, l9_15, l9_16, l9_17, l9_51, l9_52, l9_53, l9_55, l9_56, l9_58, l9_61, l9_73, l9_74, l9_75, l9_76, l9_77, l9_79, l9_80, l9_81, l9_82, l9_83, l9_84, l9_85, l10_59, l10_78, l9_D1, l9_D2, l9_D3, l9_D4, l9_T1, l9_T2, l9_T3, l9_T4]; omega) | decide)) only [e120_0, e120_1]
  rw [s120_f hc hR 4 c (by omega) (by omega)]
  simp (disch := (first | omega | assumption | rfl | (simp (disch := assumption) only [l9_2, l9_4, l9_5, l9_6, l9_7, l9_9, l9_10, l9_11, l9_12, l9_14, l9_15, l9_16, l9_17, l9_51, l9_52, l9_53, l9_55, l9_56, l9_58, l9_61, l9_73, l9_74, l9_75, l9_76, l9_77, l9_79, l9_80, l9_81, l9_82, l9_83, l9_84, l9_85, l10_59, l10_78, l9_D1, l9_D2, l9_D3, l9_D4, l9_T1, l9_T2, l9_T3, l9_T4]; omega) | decide)) only [e120_0, e120_1, e120_3, e120_4, e120_7, e120_8, e120_11, e120_13, e120_14, e120_15, e120_16, e120_17, e120_18, e120_21, e120_24, e120_27, e120_28, e120_29, e120_32, e120_33, e120_34, e120_35, e120_38, e120_40, e120_41, e120_42, e120_43, e120_44, e120_45, e120_46, e120_47, e120_51, e120_53, e120_56, e120_57, e120_60, e120_62, e120_63, e120_64, e120_66, e120_67, e120_68, e120_69, e120_72, e120_74, e120_75, e120_78, e120_80, e120_81, e120_82, e120_84, e120_85, e120_86, e120_89, e120_91, e120_92, e120_93, e120_95, e120_96, e120_97, e120_98, e120_99, e120_102, e120_104, e120_105, e120_106, e120_108, e120_109, e120_111, e120_112, e120_115, e120_118, e120_119, e120_123, e120_124, e120_127, e120_129, e120_130, e120_133, e120_134, e120_137, e120_138, e120_141, e120_143, e120_145, e120_146, e120_147, e120_148, e120_149, e120_151, e120_152, e120_156, e120_158, e120_161, e120_162, e120_165, e120_167, e120_169, e120_170, e120_172, e120_173, e120_174, e120_177, e120_179, e120_181, e120_182, e120_184, e120_185, e120_186, e120_188, e120_189, e120_192, e120_194, e120_195, e120_196, e120_198, e120_199, e120_200, e120_201, e120_202, e120_205, e120_206, e120_209, e120_212, e120_215, e120_218, e120_219, ↓reduceIte, Nat.reduceAdd, Nat.reduceMul, nI_add, pk_mul, n_lt_t, n_lt_f, n_le_t, n_le_f, n_eq_f, n_eq_t, n_z_f, n_z_t, n_lz, n_zl, not_true_eq_false, not_false_eq_true, gx_rd]
  rw [h, e120_49]
  simp (disch := (first | omega | assumption | rfl | (simp (disch := assumption) only [l9_2, l9_4, l9_5, l9_6, l9_7, l9_9, l9_10, l9_11, l9_12, l9_14, l9_15, l9_16, l9_17, l9_51, l9_52, l9_53, l9_55, l9_56, l9_58, l9_61, l9_73, l9_74, l9_75, l9_76, l9_77, l9_79, l9_80, l9_81, l9_82, l9_83, l9_84, l9_85, l10_59, l10_78, l9_D1, l9_D2, l9_D3, l9_D4, l9_T1, l9_T2, l9_T3, l9_T4]; omega) | decide)) only [e120_0, e120_1, e120_3, e120_4, e120_7, e120_8, e120_11, e120_13, e120_14, e120_15, e120_16, e120_17, e120_18, e120_21, e120_24, e120_27, e120_28, e120_29, e120_32, e120_33, e120_34, e120_35, e120_38, e120_40, e120_41, e120_42, e120_43, e120_44, e120_45, e120_46, e120_47, e120_51, e120_53, e120_56, e120_57, e120_60, e120_62, e120_63, e120_64, e120_66, e120_67, e120_68, e120_69, e120_72, e120_74, e120_75, e120_78, e120_80, e120_81, e120_82, e120_84, e120_85, e120_86, e120_89, e120_91, e120_92, e120_93, e120_95, e120_96, e120_97, e120_98, e120_99, e120_102, e120_104, e120_105, e120_106, e120_108, e120_109, e120_111, e120_112, e120_115, e120_118, e120_119, e120_123, e120_124, e120_127, e120_129, e120_130, e120_133, e120_134, e120_137, e120_138, e120_141, e120_143, e120_145, e120_146, e120_147, e120_148, e120_149, e120_151, e120_152, e120_156, e120_158, e120_161, e120_162, e120_165, e120_167, e120_169, e120_170, e120_172, e120_173, e120_174, e120_177, e120_179, e120_181, e120_182, e120_184, e120_185, e120_186, e120_188, e120_189, e120_192, e120_194, e120_195, e120_196, e120_198, e120_199, e120_200, e120_201, e120_202, e120_205, e120_206, e120_209, e120_212, e120_215, e120_218, e120_219, ↓reduceIte, Nat.reduceAdd, Nat.reduceMul, nI_add, pk_mul, n_lt_t, n_lt_f, n_le_t, n_le_f, n_eq_f, n_eq_t, n_z_f, n_z_t, n_lz, n_zl, not_true_eq_false, not_false_eq_true]
  rw [h', e120_121]
  simp (disch := (first | omega | assumption | rfl | (simp (disch := assumption) only [l9_2, l9_4, l9_5, l9_6, l9_7, l9_9, l9_10, l9_11, l9_12, l9_14, l9_15, l9_16, l9_17, l9_51, l9_52, l9_53, l9_55, l9_56, l9_58, l9_61, l9_73, l9_74, l9_75, l9_76, l9_77, l9_79, l9_80, l9_81, l9_82, l9_83, l9_84, l9_85, l10_59, l10_78, l9_D1, l9_D2, l9_D3, l9_D4, l9_T1, l9_T2, l9_T3, l9_T4]; omega) | decide)) only [e120_0, e120_1, e120_3, e120_4, e120_7, e120_8, e120_11, e120_13, e120_14, e120_15, e120_16, e120_17, e120_18, e120_21, e120_24, e120_27, e120_28, e120_29, e120_32, e120_33, e120_34, e120_35, e120_38, e120_40, e120_41, e120_42, e120_43, e120_44, e120_45, e120_46, e120_47, e120_51, e120_53, e120_56, e120_57, e120_60, e120_62, e120_63, e120_64, e120_66, e120_67, e120_68, e120_69, e120_72, e120_74, e120_75, e120_78, e120_80, e120_81, e120_82, e120_84, e120_85, e120_86, e120_89, e120_91, e120_92, e120_93, e120_95, e120_96, e120_97, e120_98, e120_99, e120_102, e120_104, e120_105, e120_106, e120_108, e120_109, e120_111, e120_112, e120_115, e120_118, e120_119, e120_123, e120_124, e120_127, e120_129, e120_130, e120_133, e120_134, e120_137, e120_138, e120_141, e120_143, e120_145, e120_146, e120_147, e120_148, e120_149, e120_151, e120_152, e120_156, e120_158, e120_161, e120_162, e120_165, e120_167, e120_169, e120_170, e120_172, e120_173, e120_174, e120_177, e120_179, e120_181, e120_182, e120_184, e120_185, e120_186, e120_188, e120_189, e120_192, e120_194, e120_195, e120_196, e120_198, e120_199, e120_200, e120_201, e120_202, e120_205, e120_206, e120_209, e120_212, e120_215, e120_218, e120_219, ↓reduceIte, Nat.reduceAdd, Nat.reduceMul, nI_add, pk_mul, n_lt_t, n_lt_f, n_le_t, n_le_f, n_eq_f, n_eq_t, n_z_f, n_z_t, n_lz, n_zl, not_true_eq_false, not_false_eq_true]
theorem s120_n {c : Nat} {R : Nat → Nat} (hc : c < 4) (hR : ∀ x, x < 32 → R x < 31) (hf : fnd R 8 c 4 c = 4) : q_ex X (120, 0, [.ref 72, .int (nI c), .null, .null, .null, .null, .null], [], q_w t u (gx 81 32 F R) J) = some (some (.int (nI 0)), q_w t u (gx 81 32 F R) J) := by
  simp (disch := (first | omega | assumption | rfl | (simp (disch := assumption) only [l9_2, l9_4, l9_5, l9_6, l9_7, l9_9, l9_10, l9_11, l9_12, l9_14, l9_15, l9_16, l9_17, l9_51, l9_52, l9_53, l9_55, l9_56, l9_58, l9_61, l9_73, l9_74, l9_75, l9_76, l9_77, l9_79, l9_80, l9_81, l9_82, l9_83, l9_84, l9_85, l10_59, l10_78, l9_D1, l9_D2, l9_D3, l9_D4, l9_T1, l9_T2, l9_T3, l9_T4]; omega) | decide)) only [e120_0, e120_1]
  rw [s120_f hc hR 4 c (by omega) (by omega), hf]
  simp (disch := (first | omega | assumption | rfl | (simp (disch := assumption) only [l9_2, l9_4, l9_5, l9_6, l9_7, l9_9, l9_10, l9_11, l9_12, l9_14, l9_15, l9_16, l9_17, l9_51, l9_52, l9_53, l9_55, l9_56, l9_58, l9_61, l9_73, l9_74, l9_75, l9_76, l9_77, l9_79, l9_80, l9_81, l9_82, l9_83, l9_84, l9_85, l10_59, l10_78, l9_D1, l9_D2, l9_D3, l9_D4, l9_T1, l9_T2, l9_T3, l9_T4]; omega) | decide)) only [e120_0, e120_1, e120_3, e120_4, e120_7, e120_8, e120_11, e120_13, e120_14, e120_15, e120_16, e120_17, e120_18, e120_21, e120_24, e120_27, e120_28, e120_29, e120_32, e120_33, e120_34, e120_35, e120_38, e120_40, e120_41, e120_42, e120_43, e120_44, e120_45, e120_46, e120_47, e120_51, e120_53, e120_56, e120_57, e120_60, e120_62, e120_63, e120_64, e120_66, e120_67, e120_68, e120_69, e120_72, e120_74, e120_75, e120_78, e120_80, e120_81, e120_82, e120_84, e120_85, e120_86, e120_89, e120_91, e120_92, e120_93, e120_95, e120_96, e120_97, e120_98, e120_99, e120_102, e120_104, e120_105, e120_106, e120_108, e120_109, e120_111, e120_112, e120_115, e120_118, e120_119, e120_123, e120_124, e120_127, e120_129, e120_130, e120_133, e120_134, e120_137, e120_138, e120_141, e120_143, e120_145, e120_146, e120_147, e120_148, e120_149, e120_151, e120_152, e120_156, e120_158, e120_161, e120_162, e120_165, e120_167, e120_169, e120_170, e120_172, e120_173, e120_174, e120_177, e120_179, e120_181, e120_182, e120_184, e120_185, e120_186, e120_188, e120_189, e120_192, e120_194, e120_195, e120_196, e120_198, e120_199, e120_200, e120_201, e120_202, e120_205, e120_206, e120_209, e120_212, e120_215, e120_218, e120_219, ↓reduceIte, Nat.reduceAdd, Nat.reduceMul, nI_add, pk_mul, n_lt_t, n_lt_f, n_le_t, n_le_f, n_eq_f, n_eq_t, n_z_f, n_z_t, n_lz, n_zl, not_true_eq_false, not_false_eq_true]
/-- canMake's columns -/
theorem s121_l2 {o : Nat} {R : Nat → Nat} : ∀ (n k : Nat) (Rk : Nat → Nat), n + k = 4 → elS 8 R k = some Rk → (∀ x, x < 32 → Rk x < 31) →
    (∃ R', elS 8 R 4 = none ∧ q_ex X (121, 54, [.ref 72, .int (nI o), .int (nI 1), .int (nI k)], [], q_w t u (gx 81 32 F Rk) J) = some (some (.int (nI 0)), q_w t u (gx 81 32 F R') J)) ∨
    (∃ R4, (∀ x, x < 32 → R4 x < 31) ∧ elS 8 R 4 = some R4 ∧ q_ex X (121, 54, [.ref 72, .int (nI o), .int (nI 1), .int (nI k)], [], q_w t u (gx 81 32 F Rk) J) = some (some (.int (nI 1)), q_w t u (gx 81 32 F R4) J))
  | 0, k, Rk, hk, he, hb => by
    obtain rfl : k = 4 := by omega
    refine Or.inr ⟨Rk, hb, he, ?_⟩
    rw [e121_54]
    simp (disch := (first | omega | assumption | rfl | (simp (disch := assumption) only [l9_2, l9_4, l9_5, l9_6, l9_7, l9_9, l9_10, l9_11, l9_12, l9_14, l9_15, l9_16, l9_17, l9_51, l9_52, l9_53, l9_55, l9_56, l9_58, l9_61, l9_73, l9_74, l9_75, l9_76, l9_77, l9_79, l9_80, l9_81, l9_82, l9_83, l9_84, l9_85, l10_59, l10_78, l9_D1, l9_D2, l9_D3, l9_D4, l9_T1, l9_T2, l9_T3, l9_T4]; omega) | decide)) only [e121_0, e121_1, e121_2, e121_5, e121_6, e121_7, e121_8, e121_10, e121_11, e121_14, e121_15, e121_18, e121_19, e121_20, e121_23, e121_26, e121_27, e121_30, e121_32, e121_33, e121_34, e121_35, e121_36, e121_37, e121_40, e121_41, e121_44, e121_45, e121_46, e121_49, e121_52, e121_53, e121_55, e121_56, e121_59, e121_60, e121_63, e121_64, e121_65, e121_68, e121_69, e121_72, e121_75, e121_76, ↓reduceIte, Nat.reduceAdd, Nat.reduceMul, nI_add, pk_mul, n_lt_t, n_lt_f, n_le_t, n_le_f, n_eq_f, n_eq_t, n_z_f, n_z_t, n_lz, n_zl, not_true_eq_false, not_false_eq_true]
  | n + 1, k, Rk, hk, he, hb => by
    have hk4 : k < 4 := by omega
    by_cases hf : fnd Rk 8 k 4 k = 4
    · refine Or.inl ⟨Rk, ?_, ?_⟩
      · have h1 : elS 8 R (k + 1) = none := by
          simp only [elS, he, hf, if_true]
        have h2 := elS_none h1 n
        rw [show k + 1 + n = 4 by omega] at h2
        exact h2
      · rw [e121_54]
        simp (disch := (first | omega | assumption | rfl | (simp (disch := assumption) only [l9_2, l9_4, l9_5, l9_6, l9_7, l9_9, l9_10, l9_11, l9_12, l9_14, l9_15, l9_16, l9_17, l9_51, l9_52, l9_53, l9_55, l9_56, l9_58, l9_61, l9_73, l9_74, l9_75, l9_76, l9_77, l9_79, l9_80, l9_81, l9_82, l9_83, l9_84, l9_85, l10_59, l10_78, l9_D1, l9_D2, l9_D3, l9_D4, l9_T1, l9_T2, l9_T3, l9_T4]; omega) | decide)) only [e121_0, e121_1, e121_2, e121_5, e121_6, e121_7, e121_8, e121_10, e121_11, e121_14, e121_15, e121_18, e121_19, e121_20, e121_23, e121_26, e121_27, e121_30, e121_32, e121_33, e121_34, e121_35, e121_36, e121_37, e121_40, e121_41, e121_44, e121_45, e121_46, e121_49, e121_52, e121_53, e121_55, e121_56, e121_59, e121_60, e121_63, e121_64, e121_65, e121_68, e121_69, e121_72, e121_75, e121_76, ↓reduceIte, Nat.reduceAdd, Nat.reduceMul, nI_add, pk_mul, n_lt_t, n_lt_f, n_le_t, n_le_f, n_eq_f, n_eq_t, n_z_f, n_z_t, n_lz, n_zl, not_true_eq_false, not_false_eq_true, s120_n hk4 hb hf, Option.bind_some, Option.toList_some, Option.toList_none, List.cons_append, List.nil_append]
        rw [e121_54]
        by_cases h3 : k + 1 < 4
        · simp (disch := (first | omega | assumption | rfl | (simp (disch := assumption) only [l9_2, l9_4, l9_5, l9_6, l9_7, l9_9, l9_10, l9_11, l9_12, l9_14, l9_15, l9_16, l9_17, l9_51, l9_52, l9_53, l9_55, l9_56, l9_58, l9_61, l9_73, l9_74, l9_75, l9_76, l9_77, l9_79, l9_80, l9_81, l9_82, l9_83, l9_84, l9_85, l10_59, l10_78, l9_D1, l9_D2, l9_D3, l9_D4, l9_T1, l9_T2, l9_T3, l9_T4]; omega) | decide)) only [e121_0, e121_1, e121_2, e121_5, e121_6, e121_7, e121_8, e121_10, e121_11, e121_14, e121_15, e121_18, e121_19, e121_20, e121_23, e121_26, e121_27, e121_30, e121_32, e121_33, e121_34, e121_35, e121_36, e121_37, e121_40, e121_41, e121_44, e121_45, e121_46, e121_49, e121_52, e121_53, e121_55, e121_56, e121_59, e121_60, e121_63, e121_64, e121_65, e121_68, e121_69, e121_72, e121_75, e121_76, ↓reduceIte, Nat.reduceAdd, Nat.reduceMul, nI_add, pk_mul, n_lt_t, n_lt_f, n_le_t, n_le_f, n_eq_f, n_eq_t, n_z_f, n_z_t, n_lz, n_zl, not_true_eq_false, not_false_eq_true]
        · simp (disch := (first | omega | assumption | rfl | (simp (disch := assumption) only [l9_2, l9_4, l9_5, l9_6, l9_7, l9_9, l9_10, l9_11, l9_12, l9_14, l9_15, l9_16, l9_17, l9_51, l9_52, l9_53, l9_55, l9_56, l9_58, l9_61, l9_73, l9_74, l9_75, l9_76, l9_77, l9_79, l9_80, l9_81, l9_82, l9_83, l9_84, l9_85, l10_59, l10_78, l9_D1, l9_D2, l9_D3, l9_D4, l9_T1, l9_T2, l9_T3, l9_T4]; omega) | decide)) only [e121_0, e121_1, e121_2, e121_5, e121_6, e121_7, e121_8, e121_10, e121_11, e121_14, e121_15, e121_18, e121_19, e121_20, e121_23, e121_26, e121_27, e121_30, e121_32, e121_33, e121_34, e121_35, e121_36, e121_37, e121_40, e121_41, e121_44, e121_45, e121_46, e121_49, e121_52, e121_53, e121_55, e121_56, e121_59, e121_60, e121_63, e121_64, e121_65, e121_68, e121_69, e121_72, e121_75, e121_76, ↓reduceIte, Nat.reduceAdd, Nat.reduceMul, nI_add, pk_mul, n_lt_t, n_lt_f, n_le_t, n_le_f, n_eq_f, n_eq_t, n_z_f, n_z_t, n_lz, n_zl, not_true_eq_false, not_false_eq_true]
    · obtain ⟨f1, f2, f3⟩ := fnd_spec (R := Rk) (W := 8) (c := k) 4 k (by omega) (by omega)
      have hp := piv_lt (W := 8) (c := k) (f := fnd Rk 8 k 4 k) hb rfl hk4 (by omega)
      have he2 : elS 8 R (k + 1) = some (clr 8 (piv 8 Rk k (fnd Rk 8 k 4 k)) k) := by
        simp only [elS, he, hf, if_false]
      have ih := s121_l2 (o := o) n (k + 1) _ (by omega) he2 (clr_lt hp)
      have hstep : q_ex X (121, 54, [.ref 72, .int (nI o), .int (nI 1), .int (nI k)], [], q_w t u (gx 81 32 F Rk) J) = q_ex X (121, 54, [.ref 72, .int (nI o), .int (nI 1), .int (nI (k + 1))], [], q_w t u (gx 81 32 F (clr 8 (piv 8 Rk k (fnd Rk 8 k 4 k)) k)) J) := by
        rw [e121_54]
        simp (disch := (first | omega | assumption | rfl | (simp (disch := assumption) only [l9_2, l9_4, l9_5, l9_6, l9_7, l9_9, l9_10, l9_11, l9_12, l9_14, l9_15, l9_16, l9_17, l9_51, l9_52, l9_53, l9_55, l9_56, l9_58, l9_61, l9_73, l9_74, l9_75, l9_76, l9_77, l9_79, l9_80, l9_81, l9_82, l9_83, l9_84, l9_85, l10_59, l10_78, l9_D1, l9_D2, l9_D3, l9_D4, l9_T1, l9_T2, l9_T3, l9_T4]; omega) | decide)) only [e121_0, e121_1, e121_2, e121_5, e121_6, e121_7, e121_8, e121_10, e121_11, e121_14, e121_15, e121_18, e121_19, e121_20, e121_23, e121_26, e121_27, e121_30, e121_32, e121_33, e121_34, e121_35, e121_36, e121_37, e121_40, e121_41, e121_44, e121_45, e121_46, e121_49, e121_52, e121_53, e121_55, e121_56, e121_59, e121_60, e121_63, e121_64, e121_65, e121_68, e121_69, e121_72, e121_75, e121_76, ↓reduceIte, Nat.reduceAdd, Nat.reduceMul, nI_add, pk_mul, n_lt_t, n_lt_f, n_le_t, n_le_f, n_eq_f, n_eq_t, n_z_f, n_z_t, n_lz, n_zl, not_true_eq_false, not_false_eq_true, s120_t hk4 hb hf, Option.bind_some, Option.toList_some, Option.toList_none, List.cons_append, List.nil_append]
      rw [hstep]
      exact ih
/-- whether what is LEARNT of its own is something, for the first k LINES -/
def cnS (L : Nat → Nat) (o : Nat) : Nat → Nat
  | 0 => 1
  | k + 1 => if cnS L o k = 1 ∧ ¬ (bt o k = 1 ∧ L (5 * k) = 0) then 1 else 0
theorem cnS_lt {L : Nat → Nat} {o : Nat} : ∀ k, cnS L o k < 2
  | 0 => by simp [cnS]
  | k + 1 => by simp only [cnS]; split <;> omega
theorem cnS_iff {L : Nat → Nat} {o : Nat} : ∀ k, cnS L o k = 1 ↔ ∀ j, j < k → ¬ (bt o j = 1 ∧ L (5 * j) = 0)
  | 0 => by simp [cnS]
  | k + 1 => by
    have ih := cnS_iff (L := L) (o := o) k
    simp only [cnS]
    constructor
    · intro h j hj
      by_cases hc : cnS L o k = 1 ∧ ¬ (bt o k = 1 ∧ L (5 * k) = 0)
      · by_cases hjk : j = k
        · subst hjk; exact hc.2
        · exact ih.mp hc.1 j (by omega)
      · rw [if_neg hc] at h; omega
    · intro h
      rw [if_pos ⟨ih.mpr (fun j hj => h j (by omega)), h k (by omega)⟩]
theorem s121_l1 {o : Nat} {L R : Nat → Nat} (ho : o < 16) (hL : ∀ i, i < 16 → F 75 (17 + i) = nI (L i) ∧ L i < 31) : q_ex X (121, 9, [.ref 72, .int (nI o), .int (nI 1), .int (nI 0)], [], q_w t u (gx 81 32 F R) J) = q_ex X (121, 9, [.ref 72, .int (nI o), .int (nI (cnS L o 4)), .int (nI 4)], [], q_w t u (gx 81 32 F R) J) := by
  refine q_iter0 (X := X) (fun k => (121, 9, [.ref 72, .int (nI o), .int (nI (cnS L o k)), .int (nI k)], [], q_w t u (gx 81 32 F R) J)) 4 (fun k hk => ?_)
  try dsimp only
  obtain ⟨hl1, hl2⟩ := hL (5 * k) (by omega)
  have hb := bt_lt o k
  have hcn := cnS_lt (L := L) (o := o) k
  rw [e121_9]
  by_cases h1 : cnS L o k = 1
  · by_cases h2 : bt o k = 1
    · by_cases h3 : L (5 * k) = 0
      · simp (disch := (first | omega | assumption | rfl | (simp (disch := assumption) only [l9_2, l9_4, l9_5, l9_6, l9_7, l9_9, l9_10, l9_11, l9_12, l9_14, l9_15, l9_16, l9_17, l9_51, l9_52, l9_53, l9_55, l9_56, l9_58, l9_61, l9_73, l9_74, l9_75, l9_76, l9_77, l9_79, l9_80, l9_81, l9_82, l9_83, l9_84, l9_85, l10_59, l10_78, l9_D1, l9_D2, l9_D3, l9_D4, l9_T1, l9_T2, l9_T3, l9_T4]; omega) | decide)) only [e121_0, e121_1, e121_2, e121_5, e121_6, e121_7, e121_8, e121_10, e121_11, e121_14, e121_15, e121_18, e121_19, e121_20, e121_23, e121_26, e121_27, e121_30, e121_32, e121_33, e121_34, e121_35, e121_36, e121_37, e121_40, e121_41, e121_44, e121_45, e121_46, e121_49, e121_52, e121_53, e121_55, e121_56, e121_59, e121_60, e121_63, e121_64, e121_65, e121_68, e121_69, e121_72, e121_75, e121_76, ↓reduceIte, Nat.reduceAdd, Nat.reduceMul, nI_add, pk_mul, n_lt_t, n_lt_f, n_le_t, n_le_f, n_eq_f, n_eq_t, n_z_f, n_z_t, n_lz, n_zl, not_true_eq_false, not_false_eq_true, h1, s86, Option.bind_some, Option.toList_some, Option.toList_none, List.cons_append, List.nil_append, h2, gx_n, hl1, h3]
        simp only [cnS, h1, h2, h3, and_self, not_true_eq_false, and_false, ↓reduceIte]
      · simp (disch := (first | omega | assumption | rfl | (simp (disch := assumption) only [l9_2, l9_4, l9_5, l9_6, l9_7, l9_9, l9_10, l9_11, l9_12, l9_14, l9_15, l9_16, l9_17, l9_51, l9_52, l9_53, l9_55, l9_56, l9_58, l9_61, l9_73, l9_74, l9_75, l9_76, l9_77, l9_79, l9_80, l9_81, l9_82, l9_83, l9_84, l9_85, l10_59, l10_78, l9_D1, l9_D2, l9_D3, l9_D4, l9_T1, l9_T2, l9_T3, l9_T4]; omega) | decide)) only [e121_0, e121_1, e121_2, e121_5, e121_6, e121_7, e121_8, e121_10, e121_11, e121_14, e121_15, e121_18, e121_19, e121_20, e121_23, e121_26, e121_27, e121_30, e121_32, e121_33, e121_34, e121_35, e121_36, e121_37, e121_40, e121_41, e121_44, e121_45, e121_46, e121_49, e121_52, e121_53, e121_55, e121_56, e121_59, e121_60, e121_63, e121_64, e121_65, e121_68, e121_69, e121_72, e121_75, e121_76, ↓reduceIte, Nat.reduceAdd, Nat.reduceMul, nI_add, pk_mul, n_lt_t, n_lt_f, n_le_t, n_le_f, n_eq_f, n_eq_t, n_z_f, n_z_t, n_lz, n_zl, not_true_eq_false, not_false_eq_true, h1, s86, Option.bind_some, Option.toList_some, Option.toList_none, List.cons_append, List.nil_append, h2, gx_n, hl1]
        simp only [cnS, h1, h2, h3, and_false, not_false_eq_true, and_self, ↓reduceIte]
    · have h0 : bt o k = 0 := by omega
      simp (disch := (first | omega | assumption | rfl | (simp (disch := assumption) only [l9_2, l9_4, l9_5, l9_6, l9_7, l9_9, l9_10, l9_11, l9_12, l9_14, l9_15, l9_16, l9_17, l9_51, l9_52, l9_53, l9_55, l9_56, l9_58, l9_61, l9_73, l9_74, l9_75, l9_76, l9_77, l9_79, l9_80, l9_81, l9_82, l9_83, l9_84, l9_85, l10_59, l10_78, l9_D1, l9_D2, l9_D3, l9_D4, l9_T1, l9_T2, l9_T3, l9_T4]; omega) | decide)) only [e121_0, e121_1, e121_2, e121_5, e121_6, e121_7, e121_8, e121_10, e121_11, e121_14, e121_15, e121_18, e121_19, e121_20, e121_23, e121_26, e121_27, e121_30, e121_32, e121_33, e121_34, e121_35, e121_36, e121_37, e121_40, e121_41, e121_44, e121_45, e121_46, e121_49, e121_52, e121_53, e121_55, e121_56, e121_59, e121_60, e121_63, e121_64, e121_65, e121_68, e121_69, e121_72, e121_75, e121_76, ↓reduceIte, Nat.reduceAdd, Nat.reduceMul, nI_add, pk_mul, n_lt_t, n_lt_f, n_le_t, n_le_f, n_eq_f, n_eq_t, n_z_f, n_z_t, n_lz, n_zl, not_true_eq_false, not_false_eq_true, h1, s86, Option.bind_some, Option.toList_some, Option.toList_none, List.cons_append, List.nil_append, h0]
      simp only [cnS, h1, h0, Nat.zero_ne_one, false_and, not_false_eq_true, and_self, ↓reduceIte]
  · have h10 : cnS L o k = 0 := by omega
    simp (disch := (first | omega | assumption | rfl | (simp (disch := assumption) only [l9_2, l9_4, l9_5, l9_6, l9_7, l9_9, l9_10, l9_11, l9_12, l9_14, l9_15, l9_16, l9_17, l9_51, l9_52, l9_53, l9_55, l9_56, l9_58, l9_61, l9_73, l9_74, l9_75, l9_76, l9_77, l9_79, l9_80, l9_81, l9_82, l9_83, l9_84, l9_85, l10_59, l10_78, l9_D1, l9_D2, l9_D3, l9_D4, l9_T1, l9_T2, l9_T3, l9_T4]; omega) | decide)) only [e121_0, e121_1, e121_2, e121_5, e121_6, e121_7, e121_8, e121_10, e121_11, e121_14, e121_15, e121_18, e121_19, e121_20, e121_23, e121_26, e121_27, e121_30, e121_32, e121_33, e121_34, e121_35, e121_36, e121_37, e121_40, e121_41, e121_44, e121_45, e121_46, e121_49, e121_52, e121_53, e121_55, e121_56, e121_59, e121_60, e121_63, e121_64, e121_65, e121_68, e121_69, e121_72, e121_75, e121_76, ↓reduceIte, Nat.reduceAdd, Nat.reduceMul, nI_add, pk_mul, n_lt_t, n_lt_f, n_le_t, n_le_f, n_eq_f, n_eq_t, n_z_f, n_z_t, n_lz, n_zl, not_true_eq_false, not_false_eq_true, h10]
    simp only [cnS, h10, Nat.zero_ne_one, false_and, ↓reduceIte]
theorem s121 {o : Nat} {L : Nat → Nat} (ho : o < 16) (hL : ∀ i, i < 16 → F 75 (17 + i) = nI (L i) ∧ L i < 31) :
    (∃ R', ((∃ j, j < 4 ∧ bt o j = 1 ∧ L (5 * j) = 0) ∨ ((∀ j, j < 4 → ¬ (bt o j = 1 ∧ L (5 * j) = 0)) ∧ elS 8 (grd L o) 4 = none)) ∧ q_ex X (121, 0, [.ref 72, .int (nI o), .null, .null], [], q_w t u F J) = some (some (.int (nI 0)), q_w t u (gx 81 32 F R') J)) ∨
    ((∀ j, j < 4 → ¬ (bt o j = 1 ∧ L (5 * j) = 0)) ∧ ∃ R4, (∀ x, x < 32 → R4 x < 31) ∧ elS 8 (grd L o) 4 = some R4 ∧ q_ex X (121, 0, [.ref 72, .int (nI o), .null, .null], [], q_w t u F J) = some (some (.int (nI 1)), q_w t u (gx 81 32 F R4) J)) := by
  have h0 : q_ex X (121, 0, [.ref 72, .int (nI o), .null, .null], [], q_w t u F J) = q_ex X (121, 54, [.ref 72, .int (nI o), .int (nI (cnS L o 4)), .int (nI 0)], [], q_w t u (gx 81 32 F (grd L o)) J) := by
    simp (disch := (first | omega | assumption | rfl | (simp (disch := assumption) only [l9_2, l9_4, l9_5, l9_6, l9_7, l9_9, l9_10, l9_11, l9_12, l9_14, l9_15, l9_16, l9_17, l9_51, l9_52, l9_53, l9_55, l9_56, l9_58, l9_61, l9_73, l9_74, l9_75, l9_76, l9_77, l9_79, l9_80, l9_81, l9_82, l9_83, l9_84, l9_85, l10_59, l10_78, l9_D1, l9_D2, l9_D3, l9_D4, l9_T1, l9_T2, l9_T3, l9_T4]; omega) | decide)) only [e121_0, e121_1, e121_2, e121_5, e121_6, e121_7, e121_8, s119 ho hL, Option.bind_some, Option.toList_some, Option.toList_none, List.cons_append, List.nil_append]
    rw [s121_l1 ho hL, e121_9]
    simp (disch := (first | omega | assumption | rfl | (simp (disch := assumption) only [l9_2, l9_4, l9_5, l9_6, l9_7, l9_9, l9_10, l9_11, l9_12, l9_14, l9_15, l9_16, l9_17, l9_51, l9_52, l9_53, l9_55, l9_56, l9_58, l9_61, l9_73, l9_74, l9_75, l9_76, l9_77, l9_79, l9_80, l9_81, l9_82, l9_83, l9_84, l9_85, l10_59, l10_78, l9_D1, l9_D2, l9_D3, l9_D4, l9_T1, l9_T2, l9_T3, l9_T4]; omega) | decide)) only [e121_0, e121_1, e121_2, e121_5, e121_6, e121_7, e121_8, e121_10, e121_11, e121_14, e121_15, e121_18, e121_19, e121_20, e121_23, e121_26, e121_27, e121_30, e121_32, e121_33, e121_34, e121_35, e121_36, e121_37, e121_40, e121_41, e121_44, e121_45, e121_46, e121_49, e121_52, e121_53, e121_55, e121_56, e121_59, e121_60, e121_63, e121_64, e121_65, e121_68, e121_69, e121_72, e121_75, e121_76, ↓reduceIte, Nat.reduceAdd, Nat.reduceMul, nI_add, pk_mul, n_lt_t, n_lt_f, n_le_t, n_le_f, n_eq_f, n_eq_t, n_z_f, n_z_t, n_lz, n_zl, not_true_eq_false, not_false_eq_true]
  rw [h0]
  by_cases hc : cnS L o 4 = 1
  · have hg := (cnS_iff 4).mp hc
    rw [hc]
    rcases s121_l2 (X := X) (t := t) (u := u) (J := J) (F := F) (o := o) (R := grd L o) 4 0 (grd L o) (by omega) rfl (grd_lt (fun i hi => (hL i hi).2)) with ⟨R', b1, b2⟩ | ⟨R4, b1, b2, b3⟩
    · exact Or.inl ⟨R', Or.inr ⟨hg, b1⟩, b2⟩
    · exact Or.inr ⟨hg, R4, b1, b2, b3⟩
  · have hc0 : cnS L o 4 = 0 := by have := cnS_lt (L := L) (o := o) 4; omega
    refine Or.inl ⟨grd L o, Or.inl ?_, ?_⟩
    · refine Classical.byContradiction (fun hn => hc ((cnS_iff 4).mpr (fun j hj hh => hn ⟨j, hj, hh⟩)))
    · rw [hc0, e121_54]
      simp (disch := (first | omega | assumption | rfl | (simp (disch := assumption) only [l9_2, l9_4, l9_5, l9_6, l9_7, l9_9, l9_10, l9_11, l9_12, l9_14, l9_15, l9_16, l9_17, l9_51, l9_52, l9_53, l9_55, l9_56, l9_58, l9_61, l9_73, l9_74, l9_75, l9_76, l9_77, l9_79, l9_80, l9_81, l9_82, l9_83, l9_84, l9_85, l10_59, l10_78, l9_D1, l9_D2, l9_D3, l9_D4, l9_T1, l9_T2, l9_T3, l9_T4]; omega) | decide)) only [e121_0, e121_1, e121_2, e121_5, e121_6, e121_7, e121_8, e121_10, e121_11, e121_14, e121_15, e121_18, e121_19, e121_20, e121_23, e121_26, e121_27, e121_30, e121_32, e121_33, e121_34, e121_35, e121_36, e121_37, e121_40, e121_41, e121_44, e121_45, e121_46, e121_49, e121_52, e121_53, e121_55, e121_56, e121_59, e121_60, e121_63, e121_64, e121_65, e121_68, e121_69, e121_72, e121_75, e121_76, ↓reduceIte, Nat.reduceAdd, Nat.reduceMul, nI_add, pk_mul, n_lt_t, n_lt_f, n_le_t, n_le_f, n_eq_f, n_eq_t, n_z_f, n_z_t, n_lz, n_zl, not_true_eq_false, not_false_eq_true]
end S53
