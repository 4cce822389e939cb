/-! ===== calls: send, maker, clean, hurt ===== -/
/-- whether something can be MADE -/
def cmk (L : Nat → Nat) (o : Nat) : Prop := (∀ j, j < 4 → ¬ (bt o j = 1 ∧ L (5 * j) = 0)) ∧ ∃ Q, elS 8 (grd L o) 4 = some Q
theorem gtS_cg {E M M' : Nat → Nat} {o c : Nat} : ∀ k, (∀ i, i < k → M i = M' i) → gtS E M o c k = gtS E M' o c k
  | 0, _ => rfl
  | k + 1, h => by
    simp only [gtS]
    rw [gtS_cg k (fun i hi => h i (by omega)), h k (by omega)]
theorem two0 {L S R : Nat → Nat} {o : Nat} (hS0 : ∀ j, j < 4 → bt o j ≠ 1 → S j = 0) (hR : ∀ x, x < 20 → R x = rwv L S o (x / 5) (x % 5)) : two R (grd L o) S := by
  intro j hj
  constructor
  · intro i hi
    rw [hR _ (by omega), grd_at (by omega), show (5 * j + i) / 5 = j by omega, show (5 * j + i) % 5 = i by omega]
    simp only [rwv, gr]
    rw [if_pos hi, if_pos hi]
    by_cases c1 : bt o j = 1
    · rw [if_pos c1]
      by_cases c2 : bt o i = 1
      · rw [if_pos c2, if_pos ⟨c1, c2⟩]
      · rw [if_neg c2, if_neg (fun z => c2 z.2), if_neg (show ¬ j = i from fun z => c2 (z ▸ c1))]
    · rw [if_neg c1, if_neg (show ¬ (bt o j = 1 ∧ bt o i = 1) from fun z => c1 z.1)]
      by_cases c3 : i = j
      · rw [if_pos c3, if_pos c3.symm]
      · rw [if_neg c3, if_neg (fun z => c3 z.symm)]
  · rw [hR _ (by omega), show (5 * j + 4) / 5 = j by omega, show (5 * j + 4) % 5 = 4 by omega]
    simp only [mdS]
    rw [grd_at (by omega), grd_at (by omega), grd_at (by omega), grd_at (by omega)]
    have h0 := hS0 j hj
    rcases (show j = 0 ∨ j = 1 ∨ j = 2 ∨ j = 3 by omega) with rfl | rfl | rfl | rfl
    · by_cases c1 : bt o 0 = 1
      · simp [rwv, gr, c1]
      · simp [rwv, gr, c1, h0 c1]
    · by_cases c1 : bt o 1 = 1
      · simp [rwv, gr, c1]
      · simp [rwv, gr, c1, h0 c1]
    · by_cases c1 : bt o 2 = 1
      · simp [rwv, gr, c1]
      · simp [rwv, gr, c1, h0 c1]
    · by_cases c1 : bt o 3 = 1
      · simp [rwv, gr, c1]
      · simp [rwv, gr, c1, h0 c1]
section S78
variable {X : Nat × (Nat → Int32)} {t u : Nat} {F F' G : Nat → Nat → Int32} {J : Nat → Int64} {w : q_M}
theorem mk2 {o : Nat} {L S R0 : Nat → Nat} (ho : o < 16) (hL : rowN (F 15) L 16 31) (hS : rowN (F 61) S 4 31) (hR0 : rowN (F 53) R0 20 31) (hS0 : ∀ j, j < 4 → bt o j ≠ 1 → S j = 0) :
    (¬ cmk L o ∧ ∃ R', (∀ x, x < 20 → R' x < 31) ∧ q_ex X (24, 0, [.ref 50, .ref 15, .int (nI o), .ref 61, .null], [], q_w t u F J) = some (some (.int (nI 0)), q_w t u (gx 53 20 F R') J)) ∨
    (cmk L o ∧ ∃ R4 Q4, (∀ x, x < 20 → R4 x < 31) ∧ elS 8 (grd L o) 4 = some Q4 ∧ (∀ x, x < 32 → Q4 x < 31) ∧ two R4 Q4 S ∧ q_ex X (24, 0, [.ref 50, .ref 15, .int (nI o), .ref 61, .null], [], q_w t u F J) = some (some (.int (nI 1)), q_w t u (gx 52 4 (gx 53 20 F R4) (fun i => R4 (5 * i + 4))) J)) := by
  have hg := grd_lt (o := o) (fun i hi => (hL i hi).2)
  rcases s24 (X := X) (t := t) (u := u) (J := J) ho hL hS hR0 with ⟨R', h1, h2, h3⟩ | ⟨h1, R1, R4, h2, h3, h4, h5⟩
  · refine Or.inl ⟨fun z => ?_, R', h1, h3⟩
    rcases h2 with ⟨j, hj, hh⟩ | ⟨hh, R1, hr, he⟩
    · exact z.1 j hj hh
    · obtain ⟨Q, hQ⟩ := z.2
      rcases el_two (two0 hS0 hr) hg 4 (by omega) with ⟨a1, a2⟩ | ⟨R2, Q2, a1, a2, a3, a4⟩
      · rw [a2] at hQ; cases hQ
      · rw [he] at a1; cases a1
  · rcases el_two (two0 hS0 h3) hg 4 (by omega) with ⟨a1, a2⟩ | ⟨R2, Q2, a1, a2, a3, a4⟩
    · rw [h4] at a1; cases a1
    · rw [h4] at a1
      cases a1
      exact Or.inr ⟨⟨h1, Q2, a2⟩, R4, Q2, h2, a2, a4, a3, h5⟩
theorem can_y {o : Nat} {L Q : Nat → Nat} (ho : o < 16) (hL : ∀ i, i < 16 → F 75 (17 + i) = nI (L i) ∧ L i < 31) (h : cmk L o) (hQ : elS 8 (grd L o) 4 = some Q) : q_ex X (121, 0, [.ref 72, .int (nI o), .null, .null], [], q_w t u F J) = some (some (.int (nI 1)), q_w t u (gx 81 32 F Q) J) := by
  rcases s121 (X := X) (t := t) (u := u) (J := J) ho hL with ⟨R', h2, h3⟩ | ⟨h1, R4, h2, h4, h5⟩
  · rcases h2 with ⟨j, hj, hh⟩ | ⟨hh, he⟩
    · exact absurd hh (h.1 j hj)
    · rw [he] at hQ; cases hQ
  · rw [hQ] at h4
    cases h4
    exact h5
theorem can_n {o : Nat} {L : Nat → Nat} (ho : o < 16) (hL : ∀ i, i < 16 → F 75 (17 + i) = nI (L i) ∧ L i < 31) (h : ¬ cmk L o) : ∃ R', q_ex X (121, 0, [.ref 72, .int (nI o), .null, .null], [], q_w t u F J) = some (some (.int (nI 0)), q_w t u (gx 81 32 F R') J) := by
  rcases s121 (X := X) (t := t) (u := u) (J := J) ho hL with ⟨R', h2, h3⟩ | ⟨h1, R4, h2, h4, h5⟩
  · exact ⟨R', h3⟩
  · exact absurd ⟨h1, R4, h4⟩ h
/-- cleanAmong -/
theorem s83 {o : Nat} {E L : Nat → Nat} (ho : o < 16) (hL : rowN (F 15) L 16 31) (hS : RS F) : ∃ F' c, q_ex X (83, 0, [.ref 0, .int (nI o), .null, .null], [], q_w t u F J) = some (some (.int (nI c)), q_w t u F' J) ∧ (∀ b, b ≠ 52 → b ≠ 53 → b ≠ 61 → F' b = F b) ∧ RS F' ∧ ((¬ cmk L o ∧ c = 0) ∨ (cmk L o ∧ c = stS (fun j => if bt o j = 1 ∧ oeS (F 14) (F 15) o (4 * j) 4 = 0 then 1 else 0) 4)) := by
  obtain ⟨R0, hR0⟩ := hS
  have hl := q_iter0 (X := X) (fun k => (83, 2, [.ref 0, .int (nI o), .int (nI k), .null], [], q_w t u (va_up F 61 (fun i => if i < k then nI 0 else F 61 i)) J)) 4 (fun k hk => ?_)
  · have hl' : q_ex X (83, 2, [.ref 0, .int (nI o), .int (nI 0), .null], [], q_w t u F J) = _ := Eq.trans (by congr 6; funext b i; simp only [va_app]; grind) hl
    generalize hF1 : va_up F 61 (fun i => if i < 4 then nI 0 else F 61 i) = F1 at hl'
    have e1 : ∀ b, b ≠ 61 → F1 b = F b := fun b z => by rw [← hF1, va_up_n z]
    have e61 : rowN (F1 61) (fun _ => 0) 4 31 := fun i hi => by rw [← hF1, va_up_s, if_pos hi]; exact ⟨rfl, by show 0 < 31; omega⟩
    have h0 : q_ex X (83, 0, [.ref 0, .int (nI o), .null, .null], [], q_w t u F J) = q_ex X (83, 20, [.ref 0, .int (nI o), .int (nI 4), .null], [], q_w t u F1 J) := by
      simp (disch := (first | omega | assumption | rfl | (simp (disch := assumption) only [l9_2, l9_4, l9_5, l9_6, l9_7, l9_9, l9_10, l9_11, l9_12, l9_14, l9_15, l9_16, l9_17, l9_51, l9_52, l9_53, l9_55, l9_56, l9_58, l9_61, l9_73, l9_74, l9_75, l9_76, l9_77, l9_79, l9_80, l9_81, l9_82, l9_83, l9_84, l9_85, l10_59, l10_78, l9_D1, l9_D2, l9_D3, l9_D4, l9_T1, l9_T2, l9_T3, l9_T4]; omega) | decide)) only [e83_0, e83_1]
      rw [hl', e83_2]
      simp (disch := (first | omega | assumption | rfl | (simp (disch := assumption) only [l9_2, l9_4, l9_5, l9_6, l9_7, l9_9, l9_10, l9_11, l9_12, l9_14, l9_15, l9_16, l9_17, l9_51, l9_52, l9_53, l9_55, l9_56, l9_58, l9_61, l9_73, l9_74, l9_75, l9_76, l9_77, l9_79, l9_80, l9_81, l9_82, l9_83, l9_84, l9_85, l10_59, l10_78, l9_D1, l9_D2, l9_D3, l9_D4, l9_T1, l9_T2, l9_T3, l9_T4]; omega) | decide)) only [e83_3, e83_4, ↓reduceIte, Nat.reduceAdd, Nat.reduceMul, nI_add, pk_mul, n_lt_t, n_lt_f, n_le_t, n_le_f, n_eq_f, n_eq_t, n_z_f, n_z_t, n_lz, n_zl, not_true_eq_false, not_false_eq_true]
    rw [h0]
    rcases mk2 (X := X) (t := t) (u := u) (J := J) (F := F1) ho (by rw [e1 15 (by omega)]; exact hL) e61 (by rw [e1 53 (by omega)]; exact hR0) (fun j _ _ => rfl) with ⟨h1, R', h2, h3⟩ | ⟨h1, R4, Q4, h2, h3, h4, h5, h6⟩
    · refine ⟨gx 53 20 F1 R', 0, ?_, fun b z1 z2 z3 => by rw [gx_n z2, e1 b z3], ⟨R', fun i hi => ⟨gx_rd hi, h2 i hi⟩⟩, Or.inl ⟨h1, rfl⟩⟩
      simp (disch := (first | omega | assumption | rfl | (simp (disch := assumption) only [l9_2, l9_4, l9_5, l9_6, l9_7, l9_9, l9_10, l9_11, l9_12, l9_14, l9_15, l9_16, l9_17, l9_51, l9_52, l9_53, l9_55, l9_56, l9_58, l9_61, l9_73, l9_74, l9_75, l9_76, l9_77, l9_79, l9_80, l9_81, l9_82, l9_83, l9_84, l9_85, l10_59, l10_78, l9_D1, l9_D2, l9_D3, l9_D4, l9_T1, l9_T2, l9_T3, l9_T4]; omega) | decide)) only [e83_7, e83_8, e83_11, e83_12, e83_13, e83_14, e83_17, e83_20, e83_21, e83_24, e83_25, e83_28, e83_31, e83_32, e83_33, e83_36, e83_39, e83_42, e83_43, e83_44, e83_45, e83_46, e83_47, e83_49, e83_50, e83_53, e83_54, e83_55, e83_56, e83_57, e83_58, e83_59, e83_62, e83_63, e83_66, e83_67, e83_68, e83_71, e83_74, e83_75, e83_76, e83_77, e83_78, e83_79, e83_80, e83_83, e83_86, e83_87, ↓reduceIte, Nat.reduceAdd, Nat.reduceMul, nI_add, pk_mul, n_lt_t, n_lt_f, n_le_t, n_le_f, n_eq_f, n_eq_t, n_z_f, n_z_t, n_lz, n_zl, not_true_eq_false, not_false_eq_true, isD_13, h3, Option.bind_some, Option.toList_some, Option.toList_none, List.cons_append, List.nil_append]
    · refine ⟨gx 52 4 (gx 53 20 F1 R4) (fun i => R4 (5 * i + 4)), _, ?_, fun b z1 z2 z3 => by rw [gx_n z1, gx_n z2, e1 b z3], ⟨R4, fun i hi => ⟨by rw [gx_n (by omega)]; exact gx_rd hi, h2 i hi⟩⟩, Or.inr ⟨h1, rfl⟩⟩
      have hs := s83_l (X := X) (t := t) (u := u) (J := J) (F := gx 52 4 (gx 53 20 F1 R4) (fun i => R4 (5 * i + 4))) (v2 := .int (nI 4)) ho
      rw [gx_n (by omega), gx_n (by omega), gx_n (by omega), gx_n (by omega), e1 14 (by omega), e1 15 (by omega)] at hs
      simp (disch := (first | omega | assumption | rfl | (simp (disch := assumption) only [l9_2, l9_4, l9_5, l9_6, l9_7, l9_9, l9_10, l9_11, l9_12, l9_14, l9_15, l9_16, l9_17, l9_51, l9_52, l9_53, l9_55, l9_56, l9_58, l9_61, l9_73, l9_74, l9_75, l9_76, l9_77, l9_79, l9_80, l9_81, l9_82, l9_83, l9_84, l9_85, l10_59, l10_78, l9_D1, l9_D2, l9_D3, l9_D4, l9_T1, l9_T2, l9_T3, l9_T4]; omega) | decide)) only [e83_20, e83_21, e83_24, e83_25, e83_28, e83_31, e83_32, e83_33, e83_36, e83_39, ↓reduceIte, Nat.reduceAdd, Nat.reduceMul, nI_add, pk_mul, n_lt_t, n_lt_f, n_le_t, n_le_f, n_eq_f, n_eq_t, n_z_f, n_z_t, n_lz, n_zl, not_true_eq_false, not_false_eq_true, isD_13, h6, Option.bind_some, Option.toList_some, Option.toList_none, List.cons_append, List.nil_append]
      exact hs
  · try dsimp only
    rw [e83_2]
    simp (disch := (first | omega | assumption | rfl | (simp (disch := assumption) only [l9_2, l9_4, l9_5, l9_6, l9_7, l9_9, l9_10, l9_11, l9_12, l9_14, l9_15, l9_16, l9_17, l9_51, l9_52, l9_53, l9_55, l9_56, l9_58, l9_61, l9_73, l9_74, l9_75, l9_76, l9_77, l9_79, l9_80, l9_81, l9_82, l9_83, l9_84, l9_85, l10_59, l10_78, l9_D1, l9_D2, l9_D3, l9_D4, l9_T1, l9_T2, l9_T3, l9_T4]; omega) | decide)) only [e83_3, e83_4, e83_7, e83_8, e83_11, e83_12, e83_13, e83_14, e83_17, ↓reduceIte, Nat.reduceAdd, Nat.reduceMul, nI_add, pk_mul, n_lt_t, n_lt_f, n_le_t, n_le_f, n_eq_f, n_eq_t, n_z_f, n_z_t, n_lz, n_zl, not_true_eq_false, not_false_eq_true]
    congr 6
    funext b i
    simp only [q_app, va_app]
    grind
/-- cleanBy -/
theorem s127 {o : Nat} {f g : Nat → Int32} {E L : Nat → Nat} (ho : o < 16) (hE : ∀ i, i < 16 → F 75 (1 + i) = nI (E i) ∧ E i < 31) (hL : ∀ i, i < 16 → F 75 (17 + i) = nI (L i) ∧ L i < 31) (hf : rowN f E 16 31) (hg : rowN g L 16 31) : ∃ R' c, q_ex X (127, 0, [.ref 72, .int (nI o), .null, .null, .null, .null], [], q_w t u F J) = some (some (.int (nI c)), q_w t u (gx 81 32 F R') J) ∧ ((¬ cmk L o ∧ c = 0) ∨ (cmk L o ∧ c = stS (fun j => if bt o j = 1 ∧ oeS f g o (4 * j) 4 = 0 then 1 else 0) 4)) := by
  by_cases h : cmk L o
  · obtain ⟨Q, hQ⟩ := h.2
    have hQ31 := (el_end (v := fun _ => 0) (grd_lt (o := o) (fun i hi => (hL i hi).2)) 4 (by omega) Q hQ).1
    have c1 := can_y (X := X) (t := t) (u := u) (J := J) ho hL h hQ
    have c2 := s127_l (X := X) (t := t) (u := u) (J := J) (F := F) (v4 := .null) (v5 := .null) ho hQ31 hE hL h.1
    refine ⟨Q, _, ?_, Or.inr ⟨h, rfl⟩⟩
    rw [cl_eq hf hg h.1 hQ]
    simp (disch := (first | omega | assumption | rfl | (simp (disch := assumption) only [l9_2, l9_4, l9_5, l9_6, l9_7, l9_9, l9_10, l9_11, l9_12, l9_14, l9_15, l9_16, l9_17, l9_51, l9_52, l9_53, l9_55, l9_56, l9_58, l9_61, l9_73, l9_74, l9_75, l9_76, l9_77, l9_79, l9_80, l9_81, l9_82, l9_83, l9_84, l9_85, l10_59, l10_78, l9_D1, l9_D2, l9_D3, l9_D4, l9_T1, l9_T2, l9_T3, l9_T4]; omega) | decide)) only [e127_0, e127_1, e127_2, e127_5, ↓reduceIte, Nat.reduceAdd, Nat.reduceMul, nI_add, pk_mul, n_lt_t, n_lt_f, n_le_t, n_le_f, n_eq_f, n_eq_t, n_z_f, n_z_t, n_lz, n_zl, not_true_eq_false, not_false_eq_true, c1, Option.bind_some, Option.toList_some, Option.toList_none, List.cons_append, List.nil_append]
    exact c2
  · obtain ⟨R', c1⟩ := can_n (X := X) (t := t) (u := u) (J := J) ho hL h
    refine ⟨R', 0, ?_, Or.inl ⟨h, rfl⟩⟩
    simp (disch := (first | omega | assumption | rfl | (simp (disch := assumption) only [l9_2, l9_4, l9_5, l9_6, l9_7, l9_9, l9_10, l9_11, l9_12, l9_14, l9_15, l9_16, l9_17, l9_51, l9_52, l9_53, l9_55, l9_56, l9_58, l9_61, l9_73, l9_74, l9_75, l9_76, l9_77, l9_79, l9_80, l9_81, l9_82, l9_83, l9_84, l9_85, l10_59, l10_78, l9_D1, l9_D2, l9_D3, l9_D4, l9_T1, l9_T2, l9_T3, l9_T4]; omega) | decide)) only [e127_0, e127_1, e127_2, e127_5, e127_8, e127_9, ↓reduceIte, Nat.reduceAdd, Nat.reduceMul, nI_add, pk_mul, n_lt_t, n_lt_f, n_le_t, n_le_f, n_eq_f, n_eq_t, n_z_f, n_z_t, n_lz, n_zl, not_true_eq_false, not_false_eq_true, c1, Option.bind_some, Option.toList_some, Option.toList_none, List.cons_append, List.nil_append]
theorem cl_one {c c' : Nat} {L : Nat → Nat} {o s : Nat} (h1 : (¬ cmk L o ∧ c = 0) ∨ (cmk L o ∧ c = s)) (h2 : (¬ cmk L o ∧ c' = 0) ∨ (cmk L o ∧ c' = s)) : c = c' := by
  rcases h1 with ⟨a, b⟩ | ⟨a, b⟩ <;> rcases h2 with ⟨a', b'⟩ | ⟨a', b'⟩
  · rw [b, b']
  · exact absurd a' a
  · exact absurd a a'
  · rw [b, b']
theorem op15 (h : Rel t u F) : OK X t u F J 66 [.ref 0] 128 [.ref 72] := by
  have hh := h
  obtain ⟨htu, hT, ⟨N, hD, hM, hok⟩, hP, hI, hY, hX, hS⟩ := h
  have hO := hD.1
  have ho := hok.1
  have hE : rowN (F 14) (fun i => N (1 + i)) 16 31 := fun i hi => ⟨(hD.2 i hi).1, (hok.2 i hi).1⟩
  have hL : rowN (F 15) (fun i => N (17 + i)) 16 31 := fun i hi => ⟨(hD.2 i hi).2.1, (hok.2 i hi).2.1⟩
  obtain ⟨F1, c, k1, k2, k3, k4⟩ := s83 (X := X) (t := t) (u := u) (J := J) (E := fun i => N (1 + i)) ho hL hS
  have e75 : F1 75 = F 75 := k2 75 (by omega) (by omega) (by omega)
  have hO2 : F1 75 0 = nI (N 0) := by rw [e75]; exact hM 0 (by omega)
  obtain ⟨R', c', m1, m2⟩ := s127 (X := X) (t := t) (u := u) (J := J) (F := F1) (f := F 14) (g := F 15) (E := fun i => N (1 + i)) (L := fun i => N (17 + i)) ho (fun i hi => by rw [e75]; exact ⟨mR_at hM (by omega), (hok.2 i hi).1⟩) (fun i hi => by rw [e75]; exact ⟨mR_at hM (by omega), (hok.2 i hi).2.1⟩) hE hL
  obtain rfl := cl_one k4 m2
  refine ⟨nI c, t, u, F1, J, gx 81 32 F1 R', J, ?_, ?_, ?_⟩
  · simp (disch := (first | omega | assumption | rfl | (simp (disch := assumption) only [l9_2, l9_4, l9_5, l9_6, l9_7, l9_9, l9_10, l9_11, l9_12, l9_14, l9_15, l9_16, l9_17, l9_51, l9_52, l9_53, l9_55, l9_56, l9_58, l9_61, l9_73, l9_74, l9_75, l9_76, l9_77, l9_79, l9_80, l9_81, l9_82, l9_83, l9_84, l9_85, l10_59, l10_78, l9_D1, l9_D2, l9_D3, l9_D4, l9_T1, l9_T2, l9_T3, l9_T4]; omega) | decide)) only [e66_0, e66_1, e66_2, e66_5, e66_8, e66_11, isD_13, hO, k1, Option.bind_some, Option.toList_some, Option.toList_none, List.cons_append, List.nil_append]
  · simp (disch := (first | omega | assumption | rfl | (simp (disch := assumption) only [l9_2, l9_4, l9_5, l9_6, l9_7, l9_9, l9_10, l9_11, l9_12, l9_14, l9_15, l9_16, l9_17, l9_51, l9_52, l9_53, l9_55, l9_56, l9_58, l9_61, l9_73, l9_74, l9_75, l9_76, l9_77, l9_79, l9_80, l9_81, l9_82, l9_83, l9_84, l9_85, l10_59, l10_78, l9_D1, l9_D2, l9_D3, l9_D4, l9_T1, l9_T2, l9_T3, l9_T4]; omega) | decide)) only [e128_0, e128_1, e128_2, e128_5, e128_6, e128_7, e128_10, hO2, m1, Option.bind_some, Option.toList_some, Option.toList_none, List.cons_append, List.nil_append]
  · exact Rel_same hh (RS_n (fun i => by rw [gx_n (by omega)]) k3) (fun b i hb => by rw [gx_n (by omega), k2 b (by omega) (by omega) (by omega)])
theorem op16 {y : Int32} (h : Rel t u F) : OK X t u F J 67 [.ref 0, .int y] 129 [.ref 72, .int y] := by
  have hh := h
  obtain ⟨htu, hT, ⟨N, hD, hM, hok⟩, hP, hI, hY, hX, hS⟩ := h
  have hO := hD.1
  have hO2 : F 75 0 = nI (N 0) := hM 0 (by omega)
  have ho := hok.1
  rcases i_cases y (k := 4) (by decide) with hb | ⟨j, hj, rfl⟩
  · refine OK_q (r := -1) hh ?_ ?_
    · simp (disch := (first | omega | assumption | rfl | (simp (disch := assumption) only [l9_2, l9_4, l9_5, l9_6, l9_7, l9_9, l9_10, l9_11, l9_12, l9_14, l9_15, l9_16, l9_17, l9_51, l9_52, l9_53, l9_55, l9_56, l9_58, l9_61, l9_73, l9_74, l9_75, l9_76, l9_77, l9_79, l9_80, l9_81, l9_82, l9_83, l9_84, l9_85, l10_59, l10_78, l9_D1, l9_D2, l9_D3, l9_D4, l9_T1, l9_T2, l9_T3, l9_T4]; omega) | decide)) only [e67_0, e67_1, e67_4, e67_7, e67_8, e67_9, e67_10, e67_13, e67_14, e67_17, e67_20, e67_22, e67_23, e67_24, e67_25, e67_28, e67_31, e67_34, e67_35, e67_36, e67_39, e67_42, e67_43, e67_44, e67_45, e67_46, e67_49, e67_50, e67_51, e67_52, ↓reduceIte, Nat.reduceAdd, Nat.reduceMul, nI_add, pk_mul, n_lt_t, n_lt_f, n_le_t, n_le_f, n_eq_f, n_eq_t, n_z_f, n_z_t, n_lz, n_zl, not_true_eq_false, not_false_eq_true, s76_f hb, Option.bind_some, Option.toList_some, Option.toList_none, List.cons_append, List.nil_append]
    · simp (disch := (first | omega | assumption | rfl | (simp (disch := assumption) only [l9_2, l9_4, l9_5, l9_6, l9_7, l9_9, l9_10, l9_11, l9_12, l9_14, l9_15, l9_16, l9_17, l9_51, l9_52, l9_53, l9_55, l9_56, l9_58, l9_61, l9_73, l9_74, l9_75, l9_76, l9_77, l9_79, l9_80, l9_81, l9_82, l9_83, l9_84, l9_85, l10_59, l10_78, l9_D1, l9_D2, l9_D3, l9_D4, l9_T1, l9_T2, l9_T3, l9_T4]; omega) | decide)) only [e129_0, e129_1, e129_4, e129_7, e129_8, e129_9, e129_10, e129_11, e129_14, e129_17, e129_19, e129_20, e129_21, e129_22, e129_25, e129_26, e129_27, e129_30, e129_31, e129_32, e129_35, e129_36, e129_37, e129_38, e129_39, e129_40, e129_41, e129_44, e129_45, e129_46, e129_47, ↓reduceIte, Nat.reduceAdd, Nat.reduceMul, nI_add, pk_mul, n_lt_t, n_lt_f, n_le_t, n_le_f, n_eq_f, n_eq_t, n_z_f, n_z_t, n_lz, n_zl, not_true_eq_false, not_false_eq_true, s87_f hb, Option.bind_some, Option.toList_some, Option.toList_none, List.cons_append, List.nil_append]
  have hbt := bt_lt (N 0) j
  by_cases hbj : bt (N 0) j = 1
  · refine OK_q (r := -2) hh ?_ ?_
    · simp (disch := (first | omega | assumption | rfl | (simp (disch := assumption) only [l9_2, l9_4, l9_5, l9_6, l9_7, l9_9, l9_10, l9_11, l9_12, l9_14, l9_15, l9_16, l9_17, l9_51, l9_52, l9_53, l9_55, l9_56, l9_58, l9_61, l9_73, l9_74, l9_75, l9_76, l9_77, l9_79, l9_80, l9_81, l9_82, l9_83, l9_84, l9_85, l10_59, l10_78, l9_D1, l9_D2, l9_D3, l9_D4, l9_T1, l9_T2, l9_T3, l9_T4]; omega) | decide)) only [e67_0, e67_1, e67_4, e67_7, e67_8, e67_9, e67_10, e67_13, e67_14, e67_17, e67_20, e67_22, e67_23, e67_24, e67_25, e67_28, e67_31, e67_34, e67_35, e67_36, e67_39, e67_42, e67_43, e67_44, e67_45, e67_46, e67_49, e67_50, e67_51, e67_52, ↓reduceIte, Nat.reduceAdd, Nat.reduceMul, nI_add, pk_mul, n_lt_t, n_lt_f, n_le_t, n_le_f, n_eq_f, n_eq_t, n_z_f, n_z_t, n_lz, n_zl, not_true_eq_false, not_false_eq_true, s76_t, s4 hO ho hj, hbj, Option.bind_some, Option.toList_some, Option.toList_none, List.cons_append, List.nil_append]
    · simp (disch := (first | omega | assumption | rfl | (simp (disch := assumption) only [l9_2, l9_4, l9_5, l9_6, l9_7, l9_9, l9_10, l9_11, l9_12, l9_14, l9_15, l9_16, l9_17, l9_51, l9_52, l9_53, l9_55, l9_56, l9_58, l9_61, l9_73, l9_74, l9_75, l9_76, l9_77, l9_79, l9_80, l9_81, l9_82, l9_83, l9_84, l9_85, l10_59, l10_78, l9_D1, l9_D2, l9_D3, l9_D4, l9_T1, l9_T2, l9_T3, l9_T4]; omega) | decide)) only [e129_0, e129_1, e129_4, e129_7, e129_8, e129_9, e129_10, e129_11, e129_14, e129_17, e129_19, e129_20, e129_21, e129_22, e129_25, e129_26, e129_27, e129_30, e129_31, e129_32, e129_35, e129_36, e129_37, e129_38, e129_39, e129_40, e129_41, e129_44, e129_45, e129_46, e129_47, ↓reduceIte, Nat.reduceAdd, Nat.reduceMul, nI_add, pk_mul, n_lt_t, n_lt_f, n_le_t, n_le_f, n_eq_f, n_eq_t, n_z_f, n_z_t, n_lz, n_zl, not_true_eq_false, not_false_eq_true, s87_t, s88_t hO2 ho hj, hbj, Option.bind_some, Option.toList_some, Option.toList_none, List.cons_append, List.nil_append]
  have hb0 : bt (N 0) j = 0 := by omega
  have hor := or_lt (N 0) ho j hj
  have h2k : 1 * 2 ^ j < 2 ^ 32 := by
    have : 2 ^ j ≤ 2 ^ 4 := Nat.pow_le_pow_right (by decide) (by omega)
    omega
  have hE : rowN (F 14) (fun i => N (1 + i)) 16 31 := fun i hi => ⟨(hD.2 i hi).1, (hok.2 i hi).1⟩
  have hL : rowN (F 15) (fun i => N (17 + i)) 16 31 := fun i hi => ⟨(hD.2 i hi).2.1, (hok.2 i hi).2.1⟩
  obtain ⟨F1, c1, k1, k2, k3, k4⟩ := s83 (X := X) (t := t) (u := u) (J := J) (E := fun i => N (1 + i)) ho hL hS
  have e13 : F1 13 0 = nI (N 0) := by rw [k2 13 (by omega) (by omega) (by omega), hO]
  have e14 : F1 14 = F 14 := k2 14 (by omega) (by omega) (by omega)
  have e15 : F1 15 = F 15 := k2 15 (by omega) (by omega) (by omega)
  obtain ⟨F2, c2, l1, l2, l3, l4⟩ := s83 (X := X) (t := t) (u := u) (J := J) (F := F1) (o := N 0 ||| 1 * 2 ^ j) (E := fun i => N (1 + i)) hor (by rw [e15]; exact hL) k3
  rw [e14, e15] at l4
  have e75 : F2 75 = F 75 := by rw [l2 75 (by omega) (by omega) (by omega), k2 75 (by omega) (by omega) (by omega)]
  have o2 : F2 75 0 = nI (N 0) := by rw [e75]; exact hO2
  obtain ⟨R1, d1, m1, m2⟩ := s127 (X := X) (t := t) (u := u) (J := J) (F := F2) (f := F 14) (g := F 15) (E := fun i => N (1 + i)) (L := fun i => N (17 + i)) ho (fun i hi => by rw [e75]; exact ⟨mR_at hM (by omega), (hok.2 i hi).1⟩) (fun i hi => by rw [e75]; exact ⟨mR_at hM (by omega), (hok.2 i hi).2.1⟩) hE hL
  have e75' : gx 81 32 F2 R1 75 = F 75 := by rw [gx_n (by omega), e75]
  have o3 : gx 81 32 F2 R1 75 0 = nI (N 0) := by rw [e75']; exact hO2
  obtain ⟨R2, d2, n1, n2⟩ := s127 (X := X) (t := t) (u := u) (J := J) (F := gx 81 32 F2 R1) (o := N 0 ||| 1 * 2 ^ j) (f := F 14) (g := F 15) (E := fun i => N (1 + i)) (L := fun i => N (17 + i)) hor (fun i hi => by rw [e75']; exact ⟨mR_at hM (by omega), (hok.2 i hi).1⟩) (fun i hi => by rw [e75']; exact ⟨mR_at hM (by omega), (hok.2 i hi).2.1⟩) hE hL
  obtain rfl := cl_one k4 m2
  obtain rfl := cl_one l4 n2
  refine ⟨nI (c1 &&& (c2 ^^^ 4294967295)), t, u, F2, J, gx 81 32 (gx 81 32 F2 R1) R2, J, ?_, ?_, ?_⟩
  · simp (disch := (first | omega | assumption | rfl | (simp (disch := assumption) only [l9_2, l9_4, l9_5, l9_6, l9_7, l9_9, l9_10, l9_11, l9_12, l9_14, l9_15, l9_16, l9_17, l9_51, l9_52, l9_53, l9_55, l9_56, l9_58, l9_61, l9_73, l9_74, l9_75, l9_76, l9_77, l9_79, l9_80, l9_81, l9_82, l9_83, l9_84, l9_85, l10_59, l10_78, l9_D1, l9_D2, l9_D3, l9_D4, l9_T1, l9_T2, l9_T3, l9_T4]; omega) | decide)) only [e67_0, e67_1, e67_4, e67_7, e67_8, e67_9, e67_10, e67_13, e67_14, e67_17, e67_20, e67_22, e67_23, e67_24, e67_25, e67_28, e67_31, e67_34, e67_35, e67_36, e67_39, e67_42, e67_43, e67_44, e67_45, e67_46, e67_49, e67_50, e67_51, e67_52, ↓reduceIte, Nat.reduceAdd, Nat.reduceMul, nI_add, pk_mul, n_lt_t, n_lt_f, n_le_t, n_le_f, n_eq_f, n_eq_t, n_z_f, n_z_t, n_lz, n_zl, not_true_eq_false, not_false_eq_true, s76_t, s4 hO ho hj, hb0, Option.bind_some, Option.toList_some, Option.toList_none, List.cons_append, List.nil_append, isD_13, hO, k1, e13, n_shl, n_or, l1, n_not, n_and]
  · simp (disch := (first | omega | assumption | rfl | (simp (disch := assumption) only [l9_2, l9_4, l9_5, l9_6, l9_7, l9_9, l9_10, l9_11, l9_12, l9_14, l9_15, l9_16, l9_17, l9_51, l9_52, l9_53, l9_55, l9_56, l9_58, l9_61, l9_73, l9_74, l9_75, l9_76, l9_77, l9_79, l9_80, l9_81, l9_82, l9_83, l9_84, l9_85, l10_59, l10_78, l9_D1, l9_D2, l9_D3, l9_D4, l9_T1, l9_T2, l9_T3, l9_T4]; omega) | decide)) only [e129_0, e129_1, e129_4, e129_7, e129_8, e129_9, e129_10, e129_11, e129_14, e129_17, e129_19, e129_20, e129_21, e129_22, e129_25, e129_26, e129_27, e129_30, e129_31, e129_32, e129_35, e129_36, e129_37, e129_38, e129_39, e129_40, e129_41, e129_44, e129_45, e129_46, e129_47, ↓reduceIte, Nat.reduceAdd, Nat.reduceMul, nI_add, pk_mul, n_lt_t, n_lt_f, n_le_t, n_le_f, n_eq_f, n_eq_t, n_z_f, n_z_t, n_lz, n_zl, not_true_eq_false, not_false_eq_true, s87_t, s88_t o2 ho hj, hb0, Option.bind_some, Option.toList_some, Option.toList_none, List.cons_append, List.nil_append, o2, m1, o3, n_shl, n_or, n1, n_not, n_and]
  · exact Rel_same hh (RS_n (fun i => by rw [gx_n (by omega), gx_n (by omega)]) l3) (fun b i hb => by rw [gx_n (by omega), gx_n (by omega), l2 b (by omega) (by omega) (by omega), k2 b (by omega) (by omega) (by omega)])
theorem op14 {y1 y2 : Int32} (h : Rel t u F) : OK X t u F J 65 [.ref 0, .int y1, .int y2, .null] 126 [.ref 72, .int y1, .int y2] := by
  have hh := h
  obtain ⟨htu, hT, ⟨N, hD, hM, hok⟩, hP, hI, hY, hX, hS⟩ := h
  have hO := hD.1
  have hO2 : F 75 0 = nI (N 0) := hM 0 (by omega)
  have ho := hok.1
  rcases i_cases y1 (k := 4) (by decide) with hb | ⟨i, hi, rfl⟩
  · refine OK_q (r := -1) hh ?_ ?_
    · simp (disch := (first | omega | assumption | rfl | (simp (disch := assumption) only [l9_2, l9_4, l9_5, l9_6, l9_7, l9_9, l9_10, l9_11, l9_12, l9_14, l9_15, l9_16, l9_17, l9_51, l9_52, l9_53, l9_55, l9_56, l9_58, l9_61, l9_73, l9_74, l9_75, l9_76, l9_77, l9_79, l9_80, l9_81, l9_82, l9_83, l9_84, l9_85, l10_59, l10_78, l9_D1, l9_D2, l9_D3, l9_D4, l9_T1, l9_T2, l9_T3, l9_T4]; omega) | decide)) only [e65_0, e65_1, e65_2, e65_5, e65_8, e65_9, e65_10, e65_13, e65_16, e65_17, e65_18, e65_19, e65_21, e65_22, e65_25, e65_26, e65_29, e65_30, e65_31, e65_32, e65_35, e65_36, e65_39, e65_40, e65_41, e65_44, e65_47, e65_48, e65_51, e65_52, e65_55, e65_58, e65_59, e65_62, e65_65, e65_66, e65_69, e65_72, e65_75, e65_76, e65_79, e65_82, e65_83, e65_84, e65_87, e65_89, ↓reduceIte, Nat.reduceAdd, Nat.reduceMul, nI_add, pk_mul, n_lt_t, n_lt_f, n_le_t, n_le_f, n_eq_f, n_eq_t, n_z_f, n_z_t, n_lz, n_zl, not_true_eq_false, not_false_eq_true, s78_f hb, Option.bind_some, Option.toList_some, Option.toList_none, List.cons_append, List.nil_append]
    · simp (disch := (first | omega | assumption | rfl | (simp (disch := assumption) only [l9_2, l9_4, l9_5, l9_6, l9_7, l9_9, l9_10, l9_11, l9_12, l9_14, l9_15, l9_16, l9_17, l9_51, l9_52, l9_53, l9_55, l9_56, l9_58, l9_61, l9_73, l9_74, l9_75, l9_76, l9_77, l9_79, l9_80, l9_81, l9_82, l9_83, l9_84, l9_85, l10_59, l10_78, l9_D1, l9_D2, l9_D3, l9_D4, l9_T1, l9_T2, l9_T3, l9_T4]; omega) | decide)) only [e126_0, e126_1, e126_2, e126_5, e126_8, e126_9, e126_10, e126_13, e126_16, e126_17, e126_18, e126_19, e126_20, e126_23, e126_24, e126_25, e126_28, e126_31, e126_32, e126_35, e126_37, e126_38, e126_39, e126_40, e126_41, e126_42, e126_43, e126_44, e126_47, e126_49, ↓reduceIte, Nat.reduceAdd, Nat.reduceMul, nI_add, pk_mul, n_lt_t, n_lt_f, n_le_t, n_le_f, n_eq_f, n_eq_t, n_z_f, n_z_t, n_lz, n_zl, not_true_eq_false, not_false_eq_true, s88_f hb, Option.bind_some, Option.toList_some, Option.toList_none, List.cons_append, List.nil_append]
  have hbt := bt_lt (N 0) i
  rcases (show bt (N 0) i = 0 ∨ bt (N 0) i = 1 by omega) with hb0 | hbi
  · refine OK_q (r := -1) hh ?_ ?_
    · simp (disch := (first | omega | assumption | rfl | (simp (disch := assumption) only [l9_2, l9_4, l9_5, l9_6, l9_7, l9_9, l9_10, l9_11, l9_12, l9_14, l9_15, l9_16, l9_17, l9_51, l9_52, l9_53, l9_55, l9_56, l9_58, l9_61, l9_73, l9_74, l9_75, l9_76, l9_77, l9_79, l9_80, l9_81, l9_82, l9_83, l9_84, l9_85, l10_59, l10_78, l9_D1, l9_D2, l9_D3, l9_D4, l9_T1, l9_T2, l9_T3, l9_T4]; omega) | decide)) only [e65_0, e65_1, e65_2, e65_5, e65_8, e65_9, e65_10, e65_13, e65_16, e65_17, e65_18, e65_19, e65_21, e65_22, e65_25, e65_26, e65_29, e65_30, e65_31, e65_32, e65_35, e65_36, e65_39, e65_40, e65_41, e65_44, e65_47, e65_48, e65_51, e65_52, e65_55, e65_58, e65_59, e65_62, e65_65, e65_66, e65_69, e65_72, e65_75, e65_76, e65_79, e65_82, e65_83, e65_84, e65_87, e65_89, ↓reduceIte, Nat.reduceAdd, Nat.reduceMul, nI_add, pk_mul, n_lt_t, n_lt_f, n_le_t, n_le_f, n_eq_f, n_eq_t, n_z_f, n_z_t, n_lz, n_zl, not_true_eq_false, not_false_eq_true, s78_t hO ho hi, hb0, Option.bind_some, Option.toList_some, Option.toList_none, List.cons_append, List.nil_append]
    · simp (disch := (first | omega | assumption | rfl | (simp (disch := assumption) only [l9_2, l9_4, l9_5, l9_6, l9_7, l9_9, l9_10, l9_11, l9_12, l9_14, l9_15, l9_16, l9_17, l9_51, l9_52, l9_53, l9_55, l9_56, l9_58, l9_61, l9_73, l9_74, l9_75, l9_76, l9_77, l9_79, l9_80, l9_81, l9_82, l9_83, l9_84, l9_85, l10_59, l10_78, l9_D1, l9_D2, l9_D3, l9_D4, l9_T1, l9_T2, l9_T3, l9_T4]; omega) | decide)) only [e126_0, e126_1, e126_2, e126_5, e126_8, e126_9, e126_10, e126_13, e126_16, e126_17, e126_18, e126_19, e126_20, e126_23, e126_24, e126_25, e126_28, e126_31, e126_32, e126_35, e126_37, e126_38, e126_39, e126_40, e126_41, e126_42, e126_43, e126_44, e126_47, e126_49, ↓reduceIte, Nat.reduceAdd, Nat.reduceMul, nI_add, pk_mul, n_lt_t, n_lt_f, n_le_t, n_le_f, n_eq_f, n_eq_t, n_z_f, n_z_t, n_lz, n_zl, not_true_eq_false, not_false_eq_true, s88_t hO2 ho hi, hb0, Option.bind_some, Option.toList_some, Option.toList_none, List.cons_append, List.nil_append]
  rcases i_cases y2 (k := 4) (by decide) with hb | ⟨j, hj, rfl⟩
  · refine OK_q (r := -1) hh ?_ ?_
    · simp (disch := (first | omega | assumption | rfl | (simp (disch := assumption) only [l9_2, l9_4, l9_5, l9_6, l9_7, l9_9, l9_10, l9_11, l9_12, l9_14, l9_15, l9_16, l9_17, l9_51, l9_52, l9_53, l9_55, l9_56, l9_58, l9_61, l9_73, l9_74, l9_75, l9_76, l9_77, l9_79, l9_80, l9_81, l9_82, l9_83, l9_84, l9_85, l10_59, l10_78, l9_D1, l9_D2, l9_D3, l9_D4, l9_T1, l9_T2, l9_T3, l9_T4]; omega) | decide)) only [e65_0, e65_1, e65_2, e65_5, e65_8, e65_9, e65_10, e65_13, e65_16, e65_17, e65_18, e65_19, e65_21, e65_22, e65_25, e65_26, e65_29, e65_30, e65_31, e65_32, e65_35, e65_36, e65_39, e65_40, e65_41, e65_44, e65_47, e65_48, e65_51, e65_52, e65_55, e65_58, e65_59, e65_62, e65_65, e65_66, e65_69, e65_72, e65_75, e65_76, e65_79, e65_82, e65_83, e65_84, e65_87, e65_89, ↓reduceIte, Nat.reduceAdd, Nat.reduceMul, nI_add, pk_mul, n_lt_t, n_lt_f, n_le_t, n_le_f, n_eq_f, n_eq_t, n_z_f, n_z_t, n_lz, n_zl, not_true_eq_false, not_false_eq_true, s78_t hO ho hi, hbi, s78_f hb, Option.bind_some, Option.toList_some, Option.toList_none, List.cons_append, List.nil_append]
    · simp (disch := (first | omega | assumption | rfl | (simp (disch := assumption) only [l9_2, l9_4, l9_5, l9_6, l9_7, l9_9, l9_10, l9_11, l9_12, l9_14, l9_15, l9_16, l9_17, l9_51, l9_52, l9_53, l9_55, l9_56, l9_58, l9_61, l9_73, l9_74, l9_75, l9_76, l9_77, l9_79, l9_80, l9_81, l9_82, l9_83, l9_84, l9_85, l10_59, l10_78, l9_D1, l9_D2, l9_D3, l9_D4, l9_T1, l9_T2, l9_T3, l9_T4]; omega) | decide)) only [e126_0, e126_1, e126_2, e126_5, e126_8, e126_9, e126_10, e126_13, e126_16, e126_17, e126_18, e126_19, e126_20, e126_23, e126_24, e126_25, e126_28, e126_31, e126_32, e126_35, e126_37, e126_38, e126_39, e126_40, e126_41, e126_42, e126_43, e126_44, e126_47, e126_49, ↓reduceIte, Nat.reduceAdd, Nat.reduceMul, nI_add, pk_mul, n_lt_t, n_lt_f, n_le_t, n_le_f, n_eq_f, n_eq_t, n_z_f, n_z_t, n_lz, n_zl, not_true_eq_false, not_false_eq_true, s88_t hO2 ho hi, hbi, s88_f hb, Option.bind_some, Option.toList_some, Option.toList_none, List.cons_append, List.nil_append]
  have hbt2 := bt_lt (N 0) j
  rcases (show bt (N 0) j = 0 ∨ bt (N 0) j = 1 by omega) with hb0 | hbj
  · refine OK_q (r := -1) hh ?_ ?_
    · simp (disch := (first | omega | assumption | rfl | (simp (disch := assumption) only [l9_2, l9_4, l9_5, l9_6, l9_7, l9_9, l9_10, l9_11, l9_12, l9_14, l9_15, l9_16, l9_17, l9_51, l9_52, l9_53, l9_55, l9_56, l9_58, l9_61, l9_73, l9_74, l9_75, l9_76, l9_77, l9_79, l9_80, l9_81, l9_82, l9_83, l9_84, l9_85, l10_59, l10_78, l9_D1, l9_D2, l9_D3, l9_D4, l9_T1, l9_T2, l9_T3, l9_T4]; omega) | decide)) only [e65_0, e65_1, e65_2, e65_5, e65_8, e65_9, e65_10, e65_13, e65_16, e65_17, e65_18, e65_19, e65_21, e65_22, e65_25, e65_26, e65_29, e65_30, e65_31, e65_32, e65_35, e65_36, e65_39, e65_40, e65_41, e65_44, e65_47, e65_48, e65_51, e65_52, e65_55, e65_58, e65_59, e65_62, e65_65, e65_66, e65_69, e65_72, e65_75, e65_76, e65_79, e65_82, e65_83, e65_84, e65_87, e65_89, ↓reduceIte, Nat.reduceAdd, Nat.reduceMul, nI_add, pk_mul, n_lt_t, n_lt_f, n_le_t, n_le_f, n_eq_f, n_eq_t, n_z_f, n_z_t, n_lz, n_zl, not_true_eq_false, not_false_eq_true, s78_t hO ho hi, hbi, s78_t hO ho hj, hb0, Option.bind_some, Option.toList_some, Option.toList_none, List.cons_append, List.nil_append]
    · simp (disch := (first | omega | assumption | rfl | (simp (disch := assumption) only [l9_2, l9_4, l9_5, l9_6, l9_7, l9_9, l9_10, l9_11, l9_12, l9_14, l9_15, l9_16, l9_17, l9_51, l9_52, l9_53, l9_55, l9_56, l9_58, l9_61, l9_73, l9_74, l9_75, l9_76, l9_77, l9_79, l9_80, l9_81, l9_82, l9_83, l9_84, l9_85, l10_59, l10_78, l9_D1, l9_D2, l9_D3, l9_D4, l9_T1, l9_T2, l9_T3, l9_T4]; omega) | decide)) only [e126_0, e126_1, e126_2, e126_5, e126_8, e126_9, e126_10, e126_13, e126_16, e126_17, e126_18, e126_19, e126_20, e126_23, e126_24, e126_25, e126_28, e126_31, e126_32, e126_35, e126_37, e126_38, e126_39, e126_40, e126_41, e126_42, e126_43, e126_44, e126_47, e126_49, ↓reduceIte, Nat.reduceAdd, Nat.reduceMul, nI_add, pk_mul, n_lt_t, n_lt_f, n_le_t, n_le_f, n_eq_f, n_eq_t, n_z_f, n_z_t, n_lz, n_zl, not_true_eq_false, not_false_eq_true, s88_t hO2 ho hi, hbi, s88_t hO2 ho hj, hb0, Option.bind_some, Option.toList_some, Option.toList_none, List.cons_append, List.nil_append]
  have hL : rowN (F 15) (fun i => N (17 + i)) 16 31 := fun i hi => ⟨(hD.2 i hi).2.1, (hok.2 i hi).2.1⟩
  obtain ⟨R0, hR0⟩ := id hS
  have hl := q_iter0 (X := X) (fun k => (65, 20, [.ref 0, .int (nI i), .int (nI j), .int (nI k)], [], q_w t u (va_up F 61 (fun m => if m < k then nI (if m = j then 1 else 0) else F 61 m)) J)) 4 (fun k hk => ?_)
  · have hl' : q_ex X (65, 20, [.ref 0, .int (nI i), .int (nI j), .int (nI 0)], [], q_w t u F J) = _ := Eq.trans (by congr 6; funext b m; simp only [va_app]; grind) hl
    generalize hF1 : va_up F 61 (fun m => if m < 4 then nI (if m = j then 1 else 0) else F 61 m) = F1 at hl'
    have e1 : ∀ b, b ≠ 61 → F1 b = F b := fun b z => by rw [← hF1, va_up_n z]
    have e61 : rowN (F1 61) (fun m => if m = j then 1 else 0) 4 31 := fun m hm => by rw [← hF1, va_up_s, if_pos hm]; exact ⟨rfl, by dsimp only; split <;> omega⟩
    have e13 : F1 13 0 = nI (N 0) := by rw [e1 13 (by omega), hO]
    have h0 : q_ex X (65, 0, [.ref 0, .int (nI i), .int (nI j), .null], [], q_w t u F J) = q_ex X (65, 47, [.ref 0, .int (nI i), .int (nI j), .int (nI 4)], [], q_w t u F1 J) := by
      simp (disch := (first | omega | assumption | rfl | (simp (disch := assumption) only [l9_2, l9_4, l9_5, l9_6, l9_7, l9_9, l9_10, l9_11, l9_12, l9_14, l9_15, l9_16, l9_17, l9_51, l9_52, l9_53, l9_55, l9_56, l9_58, l9_61, l9_73, l9_74, l9_75, l9_76, l9_77, l9_79, l9_80, l9_81, l9_82, l9_83, l9_84, l9_85, l10_59, l10_78, l9_D1, l9_D2, l9_D3, l9_D4, l9_T1, l9_T2, l9_T3, l9_T4]; omega) | decide)) only [e65_0, e65_1, e65_2, e65_5, e65_8, e65_9, e65_10, e65_13, e65_16, e65_17, e65_18, e65_19, e65_21, e65_22, e65_25, e65_26, e65_29, e65_30, e65_31, e65_32, e65_35, e65_36, e65_39, e65_40, e65_41, e65_44, e65_48, e65_51, e65_52, e65_55, e65_58, e65_59, e65_62, e65_65, e65_66, e65_69, e65_72, e65_75, e65_76, e65_79, e65_82, e65_83, e65_84, e65_87, e65_89, ↓reduceIte, Nat.reduceAdd, Nat.reduceMul, nI_add, pk_mul, n_lt_t, n_lt_f, n_le_t, n_le_f, n_eq_f, n_eq_t, n_z_f, n_z_t, n_lz, n_zl, not_true_eq_false, not_false_eq_true, s78_t hO ho hi, hbi, s78_t hO ho hj, hbj, Option.bind_some, Option.toList_some, Option.toList_none, List.cons_append, List.nil_append]
      rw [hl', e65_20]
      simp (disch := (first | omega | assumption | rfl | (simp (disch := assumption) only [l9_2, l9_4, l9_5, l9_6, l9_7, l9_9, l9_10, l9_11, l9_12, l9_14, l9_15, l9_16, l9_17, l9_51, l9_52, l9_53, l9_55, l9_56, l9_58, l9_61, l9_73, l9_74, l9_75, l9_76, l9_77, l9_79, l9_80, l9_81, l9_82, l9_83, l9_84, l9_85, l10_59, l10_78, l9_D1, l9_D2, l9_D3, l9_D4, l9_T1, l9_T2, l9_T3, l9_T4]; omega) | decide)) only [e65_21, e65_22, ↓reduceIte, Nat.reduceAdd, Nat.reduceMul, nI_add, pk_mul, n_lt_t, n_lt_f, n_le_t, n_le_f, n_eq_f, n_eq_t, n_z_f, n_z_t, n_lz, n_zl, not_true_eq_false, not_false_eq_true]
    rcases mk2 (X := X) (t := t) (u := u) (J := J) (F := F1) ho (by rw [e1 15 (by omega)]; exact hL) e61 (by rw [e1 53 (by omega)]; exact hR0) (fun k _ hk => if_neg (show ¬ k = j from fun z => hk (z ▸ hbj))) with ⟨h1, R', h2, h3⟩ | ⟨h1, R4, Q4, h2, h3, h4, h5, h6⟩
    · have e75 : gx 53 20 F1 R' 75 = F 75 := by rw [gx_n (by omega), e1 75 (by omega)]
      have o2 : gx 53 20 F1 R' 75 0 = nI (N 0) := by rw [e75]; exact hO2
      obtain ⟨R2, m1⟩ := can_n (X := X) (t := t) (u := u) (J := J) (F := gx 53 20 F1 R') ho (fun k hk => by rw [e75]; exact ⟨mR_at hM (by omega), (hok.2 k hk).2.1⟩) h1
      refine ⟨-9, t, u, gx 53 20 F1 R', J, gx 81 32 (gx 53 20 F1 R') R2, J, ?_, ?_, ?_⟩
      · rw [h0]
        simp (disch := (first | omega | assumption | rfl | (simp (disch := assumption) only [l9_2, l9_4, l9_5, l9_6, l9_7, l9_9, l9_10, l9_11, l9_12, l9_14, l9_15, l9_16, l9_17, l9_51, l9_52, l9_53, l9_55, l9_56, l9_58, l9_61, l9_73, l9_74, l9_75, l9_76, l9_77, l9_79, l9_80, l9_81, l9_82, l9_83, l9_84, l9_85, l10_59, l10_78, l9_D1, l9_D2, l9_D3, l9_D4, l9_T1, l9_T2, l9_T3, l9_T4]; omega) | decide)) only [e65_0, e65_1, e65_2, e65_5, e65_8, e65_9, e65_10, e65_13, e65_16, e65_17, e65_18, e65_19, e65_21, e65_22, e65_25, e65_26, e65_29, e65_30, e65_31, e65_32, e65_35, e65_36, e65_39, e65_40, e65_41, e65_44, e65_47, e65_48, e65_51, e65_52, e65_55, e65_58, e65_59, e65_62, e65_65, e65_66, e65_69, e65_72, e65_75, e65_76, e65_79, e65_82, e65_83, e65_84, e65_87, e65_89, ↓reduceIte, Nat.reduceAdd, Nat.reduceMul, nI_add, pk_mul, n_lt_t, n_lt_f, n_le_t, n_le_f, n_eq_f, n_eq_t, n_z_f, n_z_t, n_lz, n_zl, not_true_eq_false, not_false_eq_true, isD_13, e13, h3, Option.bind_some, Option.toList_some, Option.toList_none, List.cons_append, List.nil_append]
      · simp (disch := (first | omega | assumption | rfl | (simp (disch := assumption) only [l9_2, l9_4, l9_5, l9_6, l9_7, l9_9, l9_10, l9_11, l9_12, l9_14, l9_15, l9_16, l9_17, l9_51, l9_52, l9_53, l9_55, l9_56, l9_58, l9_61, l9_73, l9_74, l9_75, l9_76, l9_77, l9_79, l9_80, l9_81, l9_82, l9_83, l9_84, l9_85, l10_59, l10_78, l9_D1, l9_D2, l9_D3, l9_D4, l9_T1, l9_T2, l9_T3, l9_T4]; omega) | decide)) only [e126_0, e126_1, e126_2, e126_5, e126_8, e126_9, e126_10, e126_13, e126_16, e126_17, e126_18, e126_19, e126_20, e126_23, e126_24, e126_25, e126_28, e126_31, e126_32, e126_35, e126_37, e126_38, e126_39, e126_40, e126_41, e126_42, e126_43, e126_44, e126_47, e126_49, ↓reduceIte, Nat.reduceAdd, Nat.reduceMul, nI_add, pk_mul, n_lt_t, n_lt_f, n_le_t, n_le_f, n_eq_f, n_eq_t, n_z_f, n_z_t, n_lz, n_zl, not_true_eq_false, not_false_eq_true, s88_t o2 ho hi, s88_t o2 ho hj, hbi, hbj, o2, m1, Option.bind_some, Option.toList_some, Option.toList_none, List.cons_append, List.nil_append]
      · exact Rel_same hh ⟨R', fun k hk => ⟨by rw [gx_n (by omega)]; exact gx_rd hk, h2 k hk⟩⟩ (fun b k hb => by rw [gx_n (by omega), gx_n (by omega), e1 b (by omega)])
    · generalize hF2 : gx 52 4 (gx 53 20 F1 R4) (fun i => R4 (5 * i + 4)) = F2 at h6
      have e2 : ∀ b, b ≠ 52 → b ≠ 53 → b ≠ 61 → F2 b = F b := fun b z1 z2 z3 => by rw [← hF2, gx_n z1, gx_n z2, e1 b z3]
      have e75 : F2 75 = F 75 := e2 75 (by omega) (by omega) (by omega)
      have o2 : F2 75 0 = nI (N 0) := by rw [e75]; exact hO2
      have r52 : F2 52 i = nI (R4 (5 * i + 4)) := by rw [← hF2]; exact gx_rd hi
      have m1 := can_y (X := X) (t := t) (u := u) (J := J) (F := F2) ho (fun k hk => by rw [e75]; exact ⟨mR_at hM (by omega), (hok.2 k hk).2.1⟩) h1 h3
      have r81 : gx 81 32 F2 Q4 81 (8 * i + 4 + j) = nI (Q4 (8 * i + 4 + j)) := gx_rd (by omega)
      have hq := h4 (8 * i + 4 + j) (by omega)
      have hv : R4 (5 * i + 4) = Q4 (8 * i + 4 + j) := by
        rw [(h5 i hi).2]
        simp only [mdS]
        rcases (show j = 0 ∨ j = 1 ∨ j = 2 ∨ j = 3 by omega) with rfl | rfl | rfl | rfl
        · simp only [if_true, Nat.one_ne_zero, if_false, show ¬ (2 = 0) by omega, show ¬ (3 = 0) by omega, Nat.mul_one, Nat.mul_zero, Nat.add_zero]; exact Nat.mod_eq_of_lt hq
        · simp only [if_true, Nat.zero_ne_one, if_false, show ¬ (2 = 1) by omega, show ¬ (3 = 1) by omega, Nat.mul_one, Nat.mul_zero, Nat.add_zero, Nat.zero_add]; exact Nat.mod_eq_of_lt hq
        · simp only [if_true, if_false, show ¬ (0 = 2) by omega, show ¬ (1 = 2) by omega, show ¬ (3 = 2) by omega, Nat.mul_one, Nat.mul_zero, Nat.add_zero, Nat.zero_add]; exact Nat.mod_eq_of_lt hq
        · simp only [if_true, if_false, show ¬ (0 = 3) by omega, show ¬ (1 = 3) by omega, show ¬ (2 = 3) by omega, Nat.mul_one, Nat.mul_zero, Nat.add_zero, Nat.zero_add]; exact Nat.mod_eq_of_lt hq
      refine ⟨nI (Q4 (8 * i + 4 + j)), t, u, F2, J, gx 81 32 F2 Q4, J, ?_, ?_, ?_⟩
      · rw [h0]
        simp (disch := (first | omega | assumption | rfl | (simp (disch := assumption) only [l9_2, l9_4, l9_5, l9_6, l9_7, l9_9, l9_10, l9_11, l9_12, l9_14, l9_15, l9_16, l9_17, l9_51, l9_52, l9_53, l9_55, l9_56, l9_58, l9_61, l9_73, l9_74, l9_75, l9_76, l9_77, l9_79, l9_80, l9_81, l9_82, l9_83, l9_84, l9_85, l10_59, l10_78, l9_D1, l9_D2, l9_D3, l9_D4, l9_T1, l9_T2, l9_T3, l9_T4]; omega) | decide)) only [e65_0, e65_1, e65_2, e65_5, e65_8, e65_9, e65_10, e65_13, e65_16, e65_17, e65_18, e65_19, e65_21, e65_22, e65_25, e65_26, e65_29, e65_30, e65_31, e65_32, e65_35, e65_36, e65_39, e65_40, e65_41, e65_44, e65_47, e65_48, e65_51, e65_52, e65_55, e65_58, e65_59, e65_62, e65_65, e65_66, e65_69, e65_72, e65_75, e65_76, e65_79, e65_82, e65_83, e65_84, e65_87, e65_89, ↓reduceIte, Nat.reduceAdd, Nat.reduceMul, nI_add, pk_mul, n_lt_t, n_lt_f, n_le_t, n_le_f, n_eq_f, n_eq_t, n_z_f, n_z_t, n_lz, n_zl, not_true_eq_false, not_false_eq_true, isD_13, e13, h6, Option.bind_some, Option.toList_some, Option.toList_none, List.cons_append, List.nil_append, r52, hv]
      · simp (disch := (first | omega | assumption | rfl | (simp (disch := assumption) only [l9_2, l9_4, l9_5, l9_6, l9_7, l9_9, l9_10, l9_11, l9_12, l9_14, l9_15, l9_16, l9_17, l9_51, l9_52, l9_53, l9_55, l9_56, l9_58, l9_61, l9_73, l9_74, l9_75, l9_76, l9_77, l9_79, l9_80, l9_81, l9_82, l9_83, l9_84, l9_85, l10_59, l10_78, l9_D1, l9_D2, l9_D3, l9_D4, l9_T1, l9_T2, l9_T3, l9_T4]; omega) | decide)) only [e126_0, e126_1, e126_2, e126_5, e126_8, e126_9, e126_10, e126_13, e126_16, e126_17, e126_18, e126_19, e126_20, e126_23, e126_24, e126_25, e126_28, e126_31, e126_32, e126_35, e126_37, e126_38, e126_39, e126_40, e126_41, e126_42, e126_43, e126_44, e126_47, e126_49, ↓reduceIte, Nat.reduceAdd, Nat.reduceMul, nI_add, pk_mul, n_lt_t, n_lt_f, n_le_t, n_le_f, n_eq_f, n_eq_t, n_z_f, n_z_t, n_lz, n_zl, not_true_eq_false, not_false_eq_true, s88_t o2 ho hi, s88_t o2 ho hj, hbi, hbj, o2, m1, Option.bind_some, Option.toList_some, Option.toList_none, List.cons_append, List.nil_append, r81]
      · refine Rel_same hh ⟨R4, fun k hk => ⟨?_, h2 k hk⟩⟩ (fun b k hb => by rw [gx_n (by omega), e2 b (by omega) (by omega) (by omega)])
        rw [gx_n (by omega), ← hF2, gx_n (by omega)]; exact gx_rd hk
  · try dsimp only
    rw [e65_20]
    by_cases hkj : k = j
    · simp (disch := (first | omega | assumption | rfl | (simp (disch := assumption) only [l9_2, l9_4, l9_5, l9_6, l9_7, l9_9, l9_10, l9_11, l9_12, l9_14, l9_15, l9_16, l9_17, l9_51, l9_52, l9_53, l9_55, l9_56, l9_58, l9_61, l9_73, l9_74, l9_75, l9_76, l9_77, l9_79, l9_80, l9_81, l9_82, l9_83, l9_84, l9_85, l10_59, l10_78, l9_D1, l9_D2, l9_D3, l9_D4, l9_T1, l9_T2, l9_T3, l9_T4]; omega) | decide)) only [e65_0, e65_1, e65_2, e65_5, e65_8, e65_9, e65_10, e65_13, e65_16, e65_17, e65_18, e65_19, e65_21, e65_22, e65_25, e65_26, e65_29, e65_30, e65_31, e65_32, e65_35, e65_36, e65_39, e65_40, e65_41, e65_44, e65_48, e65_51, e65_52, e65_55, e65_58, e65_59, e65_62, e65_65, e65_66, e65_69, e65_72, e65_75, e65_76, e65_79, e65_82, e65_83, e65_84, e65_87, e65_89, ↓reduceIte, Nat.reduceAdd, Nat.reduceMul, nI_add, pk_mul, n_lt_t, n_lt_f, n_le_t, n_le_f, n_eq_f, n_eq_t, n_z_f, n_z_t, n_lz, n_zl, not_true_eq_false, not_false_eq_true]
      congr 6
      funext b m
      simp only [q_app, va_app]
      grind
    · simp (disch := (first | omega | assumption | rfl | (simp (disch := assumption) only [l9_2, l9_4, l9_5, l9_6, l9_7, l9_9, l9_10, l9_11, l9_12, l9_14, l9_15, l9_16, l9_17, l9_51, l9_52, l9_53, l9_55, l9_56, l9_58, l9_61, l9_73, l9_74, l9_75, l9_76, l9_77, l9_79, l9_80, l9_81, l9_82, l9_83, l9_84, l9_85, l10_59, l10_78, l9_D1, l9_D2, l9_D3, l9_D4, l9_T1, l9_T2, l9_T3, l9_T4]; omega) | decide)) only [e65_0, e65_1, e65_2, e65_5, e65_8, e65_9, e65_10, e65_13, e65_16, e65_17, e65_18, e65_19, e65_21, e65_22, e65_25, e65_26, e65_29, e65_30, e65_31, e65_32, e65_35, e65_36, e65_39, e65_40, e65_41, e65_44, e65_48, e65_51, e65_52, e65_55, e65_58, e65_59, e65_62, e65_65, e65_66, e65_69, e65_72, e65_75, e65_76, e65_79, e65_82, e65_83, e65_84, e65_87, e65_89, ↓reduceIte, Nat.reduceAdd, Nat.reduceMul, nI_add, pk_mul, n_lt_t, n_lt_f, n_le_t, n_le_f, n_eq_f, n_eq_t, n_z_f, n_z_t, n_lz, n_zl, not_true_eq_false, not_false_eq_true]
      congr 6
      funext b m
      simp only [q_app, va_app]
      grind
end S78
