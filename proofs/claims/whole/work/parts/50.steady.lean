/-! ===== the model: settled ===== -/
/-- what the model is told of POWER -/
def tol (F : Nat → Nat → Int32) (o : Nat) (N L : Nat → Int32) (m : Int32) (B : Nat → Nat) : Prop := F 75 0 = nI o ∧ (fun i => F 73 (16 + i)) = N ∧ (fun i => F 73 (28 + i)) = L ∧ F 73 48 = m ∧ ∀ j, j < 4 → B j < 100 ∧ F 73 (44 + j) = nI (B j)
theorem tol_n {F : Nat → Nat → Int32} {o : Nat} {N L : Nat → Int32} {m : Int32} {B : Nat → Nat} {a : Nat} {f : Nat → Int32} (ha : a = 79 ∨ a = 80) (h : tol F o N L m B) : tol (va_up F a f) o N L m B := by
  have h73 : va_up F a f 73 = F 73 := va_up_ne _ _ (by omega)
  have h75 : va_up F a f 75 = F 75 := va_up_ne _ _ (by omega)
  unfold tol at *
  rw [h73, h75]
  exact h
section S50
variable {X : Nat × (Nat → Int32)} {t u : Nat} {F : Nat → Nat → Int32} {J : Nat → Int64} {w : q_M} {o : Nat} {N L : Nat → Int32} {m : Int32} {B : Nat → Nat} {P : Nat → Int32}
theorem s105t (ho : o < 16) (h : tol F o N L m B) : q_ex X (105, 0, [.ref 72, .null], [], q_w t u (setP F P) J) = some (none, q_w t u (setP F (rdS N L o B m 4 P)) J) := by
  obtain ⟨h1, h2, h3, h4, h5⟩ := h
  rw [s105 h1 ho h5, h2, h3, h4]
theorem s109t (ho : o < 16) (h : tol F o N L m B) : q_ex X (109, 0, [.ref 72, .null], [], q_w t u (setP F P) J) = some (some (.int (bI (eqS (rdS N L o B m 4 P) P 12))), q_w t u (setP (va_up F 80 (cp 12 P (F 80))) P) J) := by
  obtain ⟨h1, h2, h3, h4, h5⟩ := h
  rw [s109 h1 ho h5, h2, h3, h4]
theorem va_up_up {α : Type} {f : Nat → α} {k : Nat} {v v' : α} : va_up (va_up f k v) k v' = va_up f k v' := by
  funext b
  unfold va_up
  by_cases h : b = k <;> simp [h]
theorem s111_l (ho : o < 16) (h : tol F o N L m B) : ∀ (n k : Nat) (f : Nat → Int32), n + k = 61 → ∃ f' Q, q_ex X (111, 2, [.ref 72, .int (nI k)], [], q_w t u (setP (va_up F 80 f) (rdN N L o B m k P)) J) = some (some (.int (fi (fun i => !eqS (rdN N L o B m (i + 1) P) (rdN N L o B m i P) 12) n k)), q_w t u (setP (va_up F 80 f') Q) J)
  | 0, k, f, hk => by
    obtain rfl : k = 61 := by omega
    refine ⟨f, rdN N L o B m 61 P, ?_⟩
    rw [e111_2]
    simp (disch := (first | omega | assumption | rfl | (simp (disch := assumption) only [l9_2, l9_4, l9_5, l9_6, l9_7, l9_9, l9_10, l9_11, l9_12, l9_14, l9_15, l9_16, l9_17, l9_51, l9_52, l9_53, l9_55, l9_56, l9_58, l9_61, l9_73, l9_74, l9_75, l9_76, l9_77, l9_79, l9_80, l9_81, l9_82, l9_83, l9_84, l9_85, l10_59, l10_78, l9_D1, l9_D2, l9_D3, l9_D4, l9_T1, l9_T2, l9_T3, l9_T4]; omega) | decide)) only [e111_0, e111_1, e111_3, e111_5, e111_8, e111_9, e111_12, e111_15, e111_16, e111_19, e111_22, e111_25, e111_26, e111_28, e111_31, e111_32, e111_35, e111_37, ↓reduceIte, Nat.reduceAdd, Nat.reduceMul, nI_add, pk_mul, n_lt_t, n_lt_f, n_le_t, n_le_f, n_eq_f, n_eq_t, n_z_f, n_z_t, n_lz, n_zl, not_true_eq_false, not_false_eq_true, fi]
  | n + 1, k, f, hk => by
    have ht := tol_n (a := 80) (f := f) (Or.inr rfl) h
    have h9 := s109t (X := X) (t := t) (u := u) (J := J) (P := rdN N L o B m k P) ho ht
    rw [va_up_up, va_up_s] at h9
    cases he : eqS (rdN N L o B m (k + 1) P) (rdN N L o B m k P) 12 with
    | true =>
      have he2 := he
      rw [rdN] at he2
      refine ⟨cp 12 (rdN N L o B m k P) f, rdN N L o B m k P, ?_⟩
      rw [e111_2]
      simp (disch := (first | omega | assumption | rfl | (simp (disch := assumption) only [l9_2, l9_4, l9_5, l9_6, l9_7, l9_9, l9_10, l9_11, l9_12, l9_14, l9_15, l9_16, l9_17, l9_51, l9_52, l9_53, l9_55, l9_56, l9_58, l9_61, l9_73, l9_74, l9_75, l9_76, l9_77, l9_79, l9_80, l9_81, l9_82, l9_83, l9_84, l9_85, l10_59, l10_78, l9_D1, l9_D2, l9_D3, l9_D4, l9_T1, l9_T2, l9_T3, l9_T4]; omega) | decide)) only [e111_0, e111_1, e111_3, e111_5, e111_8, e111_9, e111_12, e111_15, e111_16, e111_19, e111_22, e111_25, e111_26, e111_28, e111_31, e111_32, e111_35, e111_37, ↓reduceIte, Nat.reduceAdd, Nat.reduceMul, nI_add, pk_mul, n_lt_t, n_lt_f, n_le_t, n_le_f, n_eq_f, n_eq_t, n_z_f, n_z_t, n_lz, n_zl, not_true_eq_false, not_false_eq_true, h9, he2, bI_t, Option.bind_some, Option.toList_some, Option.toList_none, List.cons_append, List.nil_append]
      simp only [fi, he, Bool.not_true, Bool.false_eq_true, ↓reduceIte]
    | false =>
      have he2 := he
      rw [rdN] at he2
      obtain ⟨f', Q, ih⟩ := s111_l ho h n (k + 1) (cp 12 (rdN N L o B m k P) f) (by omega)
      refine ⟨f', Q, ?_⟩
      rw [e111_2]
      simp (disch := (first | omega | assumption | rfl | (simp (disch := assumption) only [l9_2, l9_4, l9_5, l9_6, l9_7, l9_9, l9_10, l9_11, l9_12, l9_14, l9_15, l9_16, l9_17, l9_51, l9_52, l9_53, l9_55, l9_56, l9_58, l9_61, l9_73, l9_74, l9_75, l9_76, l9_77, l9_79, l9_80, l9_81, l9_82, l9_83, l9_84, l9_85, l10_59, l10_78, l9_D1, l9_D2, l9_D3, l9_D4, l9_T1, l9_T2, l9_T3, l9_T4]; omega) | decide)) only [e111_0, e111_1, e111_3, e111_5, e111_8, e111_9, e111_12, e111_15, e111_16, e111_19, e111_22, e111_25, e111_26, e111_28, e111_31, e111_32, e111_35, e111_37, ↓reduceIte, Nat.reduceAdd, Nat.reduceMul, nI_add, pk_mul, n_lt_t, n_lt_f, n_le_t, n_le_f, n_eq_f, n_eq_t, n_z_f, n_z_t, n_lz, n_zl, not_true_eq_false, not_false_eq_true, h9, he2, bI_f, Option.bind_some, Option.toList_some, Option.toList_none, List.cons_append, List.nil_append, s105t ho (tol_n (a := 80) (Or.inr rfl) h)]
      simp only [fi, he, Bool.not_false, ↓reduceIte]
      rw [← ih, rdN]
theorem s111 (ho : o < 16) (h : tol F o N L m B) : ∃ f' Q, q_ex X (111, 0, [.ref 72, .null], [], q_w t u (setP F P) J) = some (some (.int (fi (fun i => !eqS (rdN N L o B m (i + 1) P) (rdN N L o B m i P) 12) 61 0)), q_w t u (setP (va_up F 80 f') Q) J) := by
  obtain ⟨f', Q, h1⟩ := s111_l (X := X) (t := t) (u := u) (J := J) (P := P) ho h 61 0 (F 80) rfl
  refine ⟨f', Q, ?_⟩
  simp only [e111_0, e111_1]
  rw [← h1]
  congr 6
  funext b i
  simp only [setP, va_app, rdN]
  grind
theorem s112_l (ho : o < 16) (h : tol F o N L m B) (h80 : ∀ i, i < 12 → F 80 i = rdN N L o B m 60 P i) : ∀ (n k : Nat), n + k = 61 → 1 ≤ k → ∃ Q, q_ex X (112, 28, [.ref 72, .int (nI k)], [], q_w t u (setP F (rdN N L o B m (59 + k) P)) J) = some (some (.int (pe (fun p => eqS (rdN N L o B m (60 + p) P) (rdN N L o B m 60 P) 12) n k)), q_w t u (setP F Q) J)
  | 0, k, hk, h0 => by
    obtain rfl : k = 61 := by omega
    refine ⟨rdN N L o B m (59 + 61) P, ?_⟩
    rw [e112_28]
    simp (disch := (first | omega | assumption | rfl | (simp (disch := assumption) only [l9_2, l9_4, l9_5, l9_6, l9_7, l9_9, l9_10, l9_11, l9_12, l9_14, l9_15, l9_16, l9_17, l9_51, l9_52, l9_53, l9_55, l9_56, l9_58, l9_61, l9_73, l9_74, l9_75, l9_76, l9_77, l9_79, l9_80, l9_81, l9_82, l9_83, l9_84, l9_85, l10_59, l10_78, l9_D1, l9_D2, l9_D3, l9_D4, l9_T1, l9_T2, l9_T3, l9_T4]; omega) | decide)) only [e112_0, e112_1, e112_3, e112_5, e112_8, e112_9, e112_12, e112_15, e112_18, e112_19, e112_20, e112_23, e112_26, e112_27, e112_29, e112_31, e112_34, e112_35, e112_38, e112_39, e112_40, e112_43, e112_46, e112_49, e112_50, e112_51, e112_54, e112_57, e112_59, ↓reduceIte, Nat.reduceAdd, Nat.reduceMul, nI_add, pk_mul, n_lt_t, n_lt_f, n_le_t, n_le_f, n_eq_f, n_eq_t, n_z_f, n_z_t, n_lz, n_zl, not_true_eq_false, not_false_eq_true, pe]
  | n + 1, k, hk, h0 => by
    have h5 := s105t (X := X) (t := t) (u := u) (J := J) (P := rdN N L o B m (59 + k) P) ho h
    have h5' : rdS N L o B m 4 (rdN N L o B m (59 + k) P) = rdN N L o B m (60 + k) P := by
      rw [show 60 + k = 59 + k + 1 by omega]; rfl
    rw [h5'] at h5
    have h8 := s108 (X := X) (t := t) (u := u) (J := J) (P := rdN N L o B m (60 + k) P) (Or.inr rfl) h80
    cases he : eqS (rdN N L o B m (60 + k) P) (rdN N L o B m 60 P) 12 with
    | true =>
      refine ⟨rdN N L o B m (60 + k) P, ?_⟩
      rw [e112_28]
      simp (disch := (first | omega | assumption | rfl | (simp (disch := assumption) only [l9_2, l9_4, l9_5, l9_6, l9_7, l9_9, l9_10, l9_11, l9_12, l9_14, l9_15, l9_16, l9_17, l9_51, l9_52, l9_53, l9_55, l9_56, l9_58, l9_61, l9_73, l9_74, l9_75, l9_76, l9_77, l9_79, l9_80, l9_81, l9_82, l9_83, l9_84, l9_85, l10_59, l10_78, l9_D1, l9_D2, l9_D3, l9_D4, l9_T1, l9_T2, l9_T3, l9_T4]; omega) | decide)) only [e112_0, e112_1, e112_3, e112_5, e112_8, e112_9, e112_12, e112_15, e112_18, e112_19, e112_20, e112_23, e112_26, e112_27, e112_29, e112_31, e112_34, e112_35, e112_38, e112_39, e112_40, e112_43, e112_46, e112_49, e112_50, e112_51, e112_54, e112_57, e112_59, ↓reduceIte, Nat.reduceAdd, Nat.reduceMul, nI_add, pk_mul, n_lt_t, n_lt_f, n_le_t, n_le_f, n_eq_f, n_eq_t, n_z_f, n_z_t, n_lz, n_zl, not_true_eq_false, not_false_eq_true, h5, h8, he, bI_t, Option.bind_some, Option.toList_some, Option.toList_none, List.cons_append, List.nil_append]
      simp only [pe, he, ↓reduceIte]
    | false =>
      obtain ⟨Q, ih⟩ := s112_l ho h h80 n (k + 1) (by omega) (by omega)
      refine ⟨Q, ?_⟩
      rw [e112_28]
      simp (disch := (first | omega | assumption | rfl | (simp (disch := assumption) only [l9_2, l9_4, l9_5, l9_6, l9_7, l9_9, l9_10, l9_11, l9_12, l9_14, l9_15, l9_16, l9_17, l9_51, l9_52, l9_53, l9_55, l9_56, l9_58, l9_61, l9_73, l9_74, l9_75, l9_76, l9_77, l9_79, l9_80, l9_81, l9_82, l9_83, l9_84, l9_85, l10_59, l10_78, l9_D1, l9_D2, l9_D3, l9_D4, l9_T1, l9_T2, l9_T3, l9_T4]; omega) | decide)) only [e112_0, e112_1, e112_3, e112_5, e112_8, e112_9, e112_12, e112_15, e112_18, e112_19, e112_20, e112_23, e112_26, e112_27, e112_29, e112_31, e112_34, e112_35, e112_38, e112_39, e112_40, e112_43, e112_46, e112_49, e112_50, e112_51, e112_54, e112_57, e112_59, ↓reduceIte, Nat.reduceAdd, Nat.reduceMul, nI_add, pk_mul, n_lt_t, n_lt_f, n_le_t, n_le_f, n_eq_f, n_eq_t, n_z_f, n_z_t, n_lz, n_zl, not_true_eq_false, not_false_eq_true, h5, h8, he, bI_f, Option.bind_some, Option.toList_some, Option.toList_none, List.cons_append, List.nil_append]
      simp only [pe, he, Bool.false_eq_true, ↓reduceIte]
      rw [← ih, show 59 + (k + 1) = 60 + k by omega]
theorem s112 (ho : o < 16) (h : tol F o N L m B) : ∃ f' Q, q_ex X (112, 0, [.ref 72, .null], [], q_w t u (setP F P) J) = some (some (.int (pe (fun p => eqS (rdN N L o B m (60 + p) P) (rdN N L o B m 60 P) 12) 60 1)), q_w t u (setP (va_up F 80 f') Q) J) := by
  have hl := q_iter0 (X := X) (fun k => (112, 2, [.ref 72, .int (nI k)], [], q_w t u (setP F (rdN N L o B m k P)) J)) 60 (fun k hk => ?_)
  · have ht := tol_n (a := 80) (f := cp 12 (rdN N L o B m 60 P) (F 80)) (Or.inr rfl) h
    obtain ⟨Q, h1⟩ := s112_l (X := X) (t := t) (u := u) (J := J) (P := P) ho ht (fun i hi => by rw [va_up_s]; simp only [cp, if_pos hi]) 60 1 (by omega) (by omega)
    refine ⟨cp 12 (rdN N L o B m 60 P) (F 80), Q, ?_⟩
    simp only [e112_0, e112_1]
    have hl' : q_ex X (112, 2, [.ref 72, .int (nI 0)], [], q_w t u (setP F P) J) = _ := hl
    rw [hl', e112_2]
    simp (disch := (first | omega | assumption | rfl | (simp (disch := assumption) only [l9_2, l9_4, l9_5, l9_6, l9_7, l9_9, l9_10, l9_11, l9_12, l9_14, l9_15, l9_16, l9_17, l9_51, l9_52, l9_53, l9_55, l9_56, l9_58, l9_61, l9_73, l9_74, l9_75, l9_76, l9_77, l9_79, l9_80, l9_81, l9_82, l9_83, l9_84, l9_85, l10_59, l10_78, l9_D1, l9_D2, l9_D3, l9_D4, l9_T1, l9_T2, l9_T3, l9_T4]; omega) | decide)) only [e112_0, e112_1, e112_3, e112_5, e112_8, e112_9, e112_12, e112_15, e112_18, e112_19, e112_20, e112_23, e112_26, e112_27, e112_29, e112_31, e112_34, e112_35, e112_38, e112_39, e112_40, e112_43, e112_46, e112_49, e112_50, e112_51, e112_54, e112_57, e112_59, ↓reduceIte, Nat.reduceAdd, Nat.reduceMul, nI_add, pk_mul, n_lt_t, n_lt_f, n_le_t, n_le_f, n_eq_f, n_eq_t, n_z_f, n_z_t, n_lz, n_zl, not_true_eq_false, not_false_eq_true, s106 (Or.inr rfl), Option.bind_some, Option.toList_some, Option.toList_none, List.cons_append, List.nil_append]
    rw [← h1]
  · try dsimp only
    rw [e112_2]
    simp (disch := (first | omega | assumption | rfl | (simp (disch := assumption) only [l9_2, l9_4, l9_5, l9_6, l9_7, l9_9, l9_10, l9_11, l9_12, l9_14, l9_15, l9_16, l9_17, l9_51, l9_52, l9_53, l9_55, l9_56, l9_58, l9_61, l9_73, l9_74, l9_75, l9_76, l9_77, l9_79, l9_80, l9_81, l9_82, l9_83, l9_84, l9_85, l10_59, l10_78, l9_D1, l9_D2, l9_D3, l9_D4, l9_T1, l9_T2, l9_T3, l9_T4]; omega) | decide)) only [e112_0, e112_1, e112_3, e112_5, e112_8, e112_9, e112_12, e112_15, e112_18, e112_19, e112_20, e112_23, e112_26, e112_27, e112_29, e112_31, e112_34, e112_35, e112_38, e112_39, e112_40, e112_43, e112_46, e112_49, e112_50, e112_51, e112_54, e112_57, e112_59, ↓reduceIte, Nat.reduceAdd, Nat.reduceMul, nI_add, pk_mul, n_lt_t, n_lt_f, n_le_t, n_le_f, n_eq_f, n_eq_t, n_z_f, n_z_t, n_lz, n_zl, not_true_eq_false, not_false_eq_true, s105t ho h, Option.bind_some, Option.toList_some, Option.toList_none, List.cons_append, List.nil_append]
    rfl
/-- settled of the model: what it answers; POWER stays -/
theorem s113 {x : Nat} (hx : x < 2) (ho : o < 16) (h : tol F o N L m B) : ∃ f f', q_ex X (113, 0, [.ref 72, .int (nI x), .null, .null], [], q_w t u (setP F P) J) = some (some (.int (if x = 0 then fi (fun i => !eqS (rdN N L o B m (i + 1) P) (rdN N L o B m i P) 12) 61 0 else if fi (fun i => !eqS (rdN N L o B m (i + 1) P) (rdN N L o B m i P) 12) 61 0 = -9 then pe (fun p => eqS (rdN N L o B m (60 + p) P) (rdN N L o B m 60 P) 12) 60 1 else -9)), q_w t u (setP (va_up (va_up F 79 f) 80 f') P) J) := by
  have ht := tol_n (a := 79) (f := cp 12 P (F 79)) (Or.inl rfl) h
  have hQ : ∀ (f' : Nat → Int32) i, i < 12 → va_up (va_up F 79 (cp 12 P (F 79))) 80 f' 79 i = P i := fun f' i hi => by rw [va_up_n (by omega), va_up_s]; simp only [cp, if_pos hi]
  obtain ⟨f1, Q1, h1⟩ := s111 (X := X) (t := t) (u := u) (J := J) (P := P) ho ht
  by_cases hx0 : x = 0
  · subst hx0
    refine ⟨cp 12 P (F 79), f1, ?_⟩
    simp (disch := (first | omega | assumption | rfl | (simp (disch := assumption) only [l9_2, l9_4, l9_5, l9_6, l9_7, l9_9, l9_10, l9_11, l9_12, l9_14, l9_15, l9_16, l9_17, l9_51, l9_52, l9_53, l9_55, l9_56, l9_58, l9_61, l9_73, l9_74, l9_75, l9_76, l9_77, l9_79, l9_80, l9_81, l9_82, l9_83, l9_84, l9_85, l10_59, l10_78, l9_D1, l9_D2, l9_D3, l9_D4, l9_T1, l9_T2, l9_T3, l9_T4]; omega) | decide)) only [e113_0, e113_1, e113_2, e113_3, e113_6, e113_9, e113_10, e113_11, e113_12, e113_13, e113_16, e113_19, e113_20, e113_23, e113_24, e113_25, e113_26, e113_29, e113_32, e113_33, e113_36, e113_37, e113_38, e113_39, e113_41, e113_44, e113_46, e113_47, e113_48, e113_51, e113_52, e113_53, e113_54, e113_57, e113_60, e113_61, ↓reduceIte, Nat.reduceAdd, Nat.reduceMul, nI_add, pk_mul, n_lt_t, n_lt_f, n_le_t, n_le_f, n_eq_f, n_eq_t, n_z_f, n_z_t, n_lz, n_zl, not_true_eq_false, not_false_eq_true, s85_t, Option.bind_some, Option.toList_some, Option.toList_none, List.cons_append, List.nil_append, s106 (Or.inl rfl), h1, s107 (Or.inl rfl) (hQ f1)]
  · obtain rfl : x = 1 := by omega
    rw [if_neg (by decide)]
    by_cases hf : fi (fun i => !eqS (rdN N L o B m (i + 1) P) (rdN N L o B m i P) 12) 61 0 = -9
    · obtain ⟨f2, Q2, h2⟩ := s112 (X := X) (t := t) (u := u) (J := J) (P := P) ho (tol_n (a := 80) (f := f1) (Or.inr rfl) ht)
      rw [va_up_up] at h2
      rw [if_pos hf]
      refine ⟨cp 12 P (F 79), f2, ?_⟩
      rw [hf] at h1
      simp (disch := (first | omega | assumption | rfl | (simp (disch := assumption) only [l9_2, l9_4, l9_5, l9_6, l9_7, l9_9, l9_10, l9_11, l9_12, l9_14, l9_15, l9_16, l9_17, l9_51, l9_52, l9_53, l9_55, l9_56, l9_58, l9_61, l9_73, l9_74, l9_75, l9_76, l9_77, l9_79, l9_80, l9_81, l9_82, l9_83, l9_84, l9_85, l10_59, l10_78, l9_D1, l9_D2, l9_D3, l9_D4, l9_T1, l9_T2, l9_T3, l9_T4]; omega) | decide)) only [e113_0, e113_1, e113_2, e113_3, e113_6, e113_9, e113_10, e113_11, e113_12, e113_13, e113_16, e113_19, e113_20, e113_23, e113_24, e113_25, e113_26, e113_29, e113_32, e113_33, e113_36, e113_37, e113_38, e113_39, e113_41, e113_44, e113_46, e113_47, e113_48, e113_51, e113_52, e113_53, e113_54, e113_57, e113_60, e113_61, ↓reduceIte, Nat.reduceAdd, Nat.reduceMul, nI_add, pk_mul, n_lt_t, n_lt_f, n_le_t, n_le_f, n_eq_f, n_eq_t, n_z_f, n_z_t, n_lz, n_zl, not_true_eq_false, not_false_eq_true, s85_t, Option.bind_some, Option.toList_some, Option.toList_none, List.cons_append, List.nil_append, s106 (Or.inl rfl), h1, s107 (Or.inl rfl) (hQ f1), h2, s107 (Or.inl rfl) (hQ f2)]
    · rw [if_neg hf]
      refine ⟨cp 12 P (F 79), f1, ?_⟩
      simp (disch := (first | omega | assumption | rfl | (simp (disch := assumption) only [l9_2, l9_4, l9_5, l9_6, l9_7, l9_9, l9_10, l9_11, l9_12, l9_14, l9_15, l9_16, l9_17, l9_51, l9_52, l9_53, l9_55, l9_56, l9_58, l9_61, l9_73, l9_74, l9_75, l9_76, l9_77, l9_79, l9_80, l9_81, l9_82, l9_83, l9_84, l9_85, l10_59, l10_78, l9_D1, l9_D2, l9_D3, l9_D4, l9_T1, l9_T2, l9_T3, l9_T4]; omega) | decide)) only [e113_0, e113_1, e113_2, e113_3, e113_6, e113_9, e113_10, e113_11, e113_12, e113_13, e113_16, e113_19, e113_20, e113_23, e113_24, e113_25, e113_26, e113_29, e113_32, e113_33, e113_36, e113_37, e113_38, e113_39, e113_41, e113_44, e113_46, e113_47, e113_48, e113_51, e113_52, e113_53, e113_54, e113_57, e113_60, e113_61, ↓reduceIte, Nat.reduceAdd, Nat.reduceMul, nI_add, pk_mul, n_lt_t, n_lt_f, n_le_t, n_le_f, n_eq_f, n_eq_t, n_z_f, n_z_t, n_lz, n_zl, not_true_eq_false, not_false_eq_true, s85_t, Option.bind_some, Option.toList_some, Option.toList_none, List.cons_append, List.nil_append, s106 (Or.inl rfl), h1, s107 (Or.inl rfl) (hQ f1), hf]
end S50
