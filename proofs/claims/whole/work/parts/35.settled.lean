/-! ===== SETTLED, PERIOD of the class ===== -/
/-- n ROUNDS -/
def rnN (N L : Nat → Int32) (o : Nat) (B : Nat → Nat) (m : Int32) : Nat → (Nat → Int32) × (Nat → Int32) → (Nat → Int32) × (Nat → Int32)
  | 0, s => s
  | n + 1, s => rnS N L o B m 4 (rnN N L o B m n s)
/-- the first from k on, n of them looked at, at which nothing changes -/
def fi (ch : Nat → Bool) : Nat → Nat → Int32
  | 0, _ => -9
  | n + 1, k => if ch k = true then fi ch n (k + 1) else nI k
section S35
variable {X : Nat × (Nat → Int32)} {t u : Nat} {F : Nat → Nat → Int32} {J : Nat → Int64} {w : q_M}
theorem s14 {a o : Nat} {B : Nat → Nat} (ha : q_isT a = true) (ho : o < 16) (hO : F 13 0 = nI o) (hB : ∀ j, j < 4 → B j < 100 ∧ F (a + 4) j = nI (B j)) : q_ex X (14, 0, [.ref 54, .ref a, .ref 13], [], q_w t u F J) = some (some (.int (bI (decide (pkS (rnS (F (a + 3)) (F (a + 2)) o B (F a 4) 4 (cp 12 (F 17) (F 56), F 55)).1 12 = pkS (cp 12 (F 17) (F 56)) 12)))), q_w t u (va_up (va_up (va_up F 56 (cp 12 (F 17) (F 56))) 56 (rnS (F (a + 3)) (F (a + 2)) o B (F a 4) 4 (cp 12 (F 17) (F 56), F 55)).1) 55 (rnS (F (a + 3)) (F (a + 2)) o B (F a 4) 4 (cp 12 (F 17) (F 56), F 55)).2) (va_up J 54 (pkS (cp 12 (F 17) (F 56)) 12))) := by
  have ha2 := isT_cases ha
  have hB2 : ∀ j, j < 4 → B j < 100 ∧ (va_up F 56 (cp 12 (F 17) (F 56))) (a + 4) j = nI (B j) := fun j hj => by rw [va_up_n (by omega)]; exact hB j hj
  simp (disch := (first | omega | assumption | rfl | (simp (disch := assumption) only [l9_2, l9_4, l9_5, l9_6, l9_7, l9_9, l9_10, l9_11, l9_12, l9_14, l9_15, l9_16, l9_17, l9_51, l9_52, l9_53, l9_55, l9_56, l9_58, l9_61, l9_73, l9_74, l9_75, l9_76, l9_77, l9_79, l9_80, l9_81, l9_82, l9_83, l9_84, l9_85, l10_59, l10_78, l9_D1, l9_D2, l9_D3, l9_D4, l9_T1, l9_T2, l9_T3, l9_T4]; omega) | decide)) only [e14_0, e14_1, e14_2, e14_5, e14_8, e14_9, e14_10, e14_11, e14_14, e14_17, e14_20, e14_21, e14_24, e14_25, isD_13, s17, Option.bind_some, Option.toList_some, Option.toList_none, List.cons_append, List.nil_append, va_up_n, hO]
  rw [s18 ha ho hB2]
  by_cases hc : pkS (rnS (F (a + 3)) (F (a + 2)) o B (F a 4) 4 (cp 12 (F 17) (F 56), F 55)).1 12 = pkS (cp 12 (F 17) (F 56)) 12
  · simp (disch := (first | omega | assumption | rfl | (simp (disch := assumption) only [l9_2, l9_4, l9_5, l9_6, l9_7, l9_9, l9_10, l9_11, l9_12, l9_14, l9_15, l9_16, l9_17, l9_51, l9_52, l9_53, l9_55, l9_56, l9_58, l9_61, l9_73, l9_74, l9_75, l9_76, l9_77, l9_79, l9_80, l9_81, l9_82, l9_83, l9_84, l9_85, l10_59, l10_78, l9_D1, l9_D2, l9_D3, l9_D4, l9_T1, l9_T2, l9_T3, l9_T4]; omega) | decide)) only [e14_0, e14_1, e14_2, e14_5, e14_8, e14_9, e14_10, e14_11, e14_14, e14_17, e14_20, e14_21, e14_24, e14_25, Option.bind_some, Option.toList_some, Option.toList_none, List.cons_append, List.nil_append, ↓reduceIte, nI_add, pk_mul, n_lt_t, n_lt_f, n_le_t, n_le_f, n_eq_f, n_eq_t, n_z_f, n_z_t, n_lz, n_zl, not_true_eq_false, not_false_eq_true, va_up_n, va_up_s, hc, decide_false, decide_true, bI_f, bI_t]
  · simp (disch := (first | omega | assumption | rfl | (simp (disch := assumption) only [l9_2, l9_4, l9_5, l9_6, l9_7, l9_9, l9_10, l9_11, l9_12, l9_14, l9_15, l9_16, l9_17, l9_51, l9_52, l9_53, l9_55, l9_56, l9_58, l9_61, l9_73, l9_74, l9_75, l9_76, l9_77, l9_79, l9_80, l9_81, l9_82, l9_83, l9_84, l9_85, l10_59, l10_78, l9_D1, l9_D2, l9_D3, l9_D4, l9_T1, l9_T2, l9_T3, l9_T4]; omega) | decide)) only [e14_0, e14_1, e14_2, e14_5, e14_8, e14_9, e14_10, e14_11, e14_14, e14_17, e14_20, e14_21, e14_24, e14_25, Option.bind_some, Option.toList_some, Option.toList_none, List.cons_append, List.nil_append, ↓reduceIte, nI_add, pk_mul, n_lt_t, n_lt_f, n_le_t, n_le_f, n_eq_f, n_eq_t, n_z_f, n_z_t, n_lz, n_zl, not_true_eq_false, not_false_eq_true, va_up_n, va_up_s, hc, decide_false, decide_true, bI_f, bI_t]
/-- settledAfter's loop: at its head with k ROUNDS of the spare POWER done -/
theorem s15_l {a o : Nat} {B : Nat → Nat} {s : (Nat → Int32) × (Nat → Int32)} (ha : q_isT a = true) (ho : o < 16) (hO : F 13 0 = nI o) (hB : ∀ j, j < 4 → B j < 100 ∧ F (a + 4) j = nI (B j)) : ∀ (n k : Nat) (J : Nat → Int64), n + k = 61 → (k = 0 ∨ J 54 = pkS (rnN (F (a + 3)) (F (a + 2)) o B (F a 4) (k - 1) s).1 12) →
    ∃ (x : (Nat → Int32) × (Nat → Int32)) (J' : Nat → Int64), q_ex X (15, 10, [.ref 54, .ref a, .ref 13, .int (nI k)], [], q_w t u (va_up (va_up F 56 (rnN (F (a + 3)) (F (a + 2)) o B (F a 4) k s).1) 55 (rnN (F (a + 3)) (F (a + 2)) o B (F a 4) k s).2) J) = some (some (.int (fi (fun i => decide (¬ pkS (rnN (F (a + 3)) (F (a + 2)) o B (F a 4) (i + 1) s).1 12 = pkS (rnN (F (a + 3)) (F (a + 2)) o B (F a 4) i s).1 12)) n k)), q_w t u (va_up (va_up F 56 x.1) 55 x.2) J') ∧ (fi (fun i => decide (¬ pkS (rnN (F (a + 3)) (F (a + 2)) o B (F a 4) (i + 1) s).1 12 = pkS (rnN (F (a + 3)) (F (a + 2)) o B (F a 4) i s).1 12)) n k = -9 → x = rnN (F (a + 3)) (F (a + 2)) o B (F a 4) 61 s ∧ J' 54 = pkS (rnN (F (a + 3)) (F (a + 2)) o B (F a 4) 60 s).1 12)
  | 0, k, J, hk, hJ => by
    obtain rfl : k = 61 := by omega
    refine ⟨rnN (F (a + 3)) (F (a + 2)) o B (F a 4) 61 s, J, ?_, fun _ => ⟨rfl, ?_⟩⟩
    · rw [e15_10]
      simp (disch := (first | omega | assumption | rfl | (simp (disch := assumption) only [l9_2, l9_4, l9_5, l9_6, l9_7, l9_9, l9_10, l9_11, l9_12, l9_14, l9_15, l9_16, l9_17, l9_51, l9_52, l9_53, l9_55, l9_56, l9_58, l9_61, l9_73, l9_74, l9_75, l9_76, l9_77, l9_79, l9_80, l9_81, l9_82, l9_83, l9_84, l9_85, l10_59, l10_78, l9_D1, l9_D2, l9_D3, l9_D4, l9_T1, l9_T2, l9_T3, l9_T4]; omega) | decide)) only [e15_0, e15_1, e15_2, e15_5, e15_8, e15_9, e15_11, e15_13, e15_16, e15_17, e15_18, e15_19, e15_22, e15_25, e15_28, e15_29, e15_30, e15_33, e15_36, e15_38, ↓reduceIte, nI_add, pk_mul, n_lt_t, n_lt_f, n_le_t, n_le_f, n_eq_f, n_eq_t, n_z_f, n_z_t, n_lz, n_zl, not_true_eq_false, not_false_eq_true, fi]
    · rcases hJ with h | h
      · omega
      · exact h
  | n + 1, k, J, hk, hJ => by
    have ha2 := isT_cases ha
    have hB2 : ∀ j, j < 4 → B j < 100 ∧ (va_up (va_up F 56 (rnN (F (a + 3)) (F (a + 2)) o B (F a 4) k s).1) 55 (rnN (F (a + 3)) (F (a + 2)) o B (F a 4) k s).2) (a + 4) j = nI (B j) := fun j hj => by rw [va_up_n (by omega), va_up_n (by omega)]; exact hB j hj
    have hs := s18 (X := X) (t := t) (u := u) (J := J) ha ho hB2
    simp (disch := (first | omega | assumption | rfl | (simp (disch := assumption) only [l9_2, l9_4, l9_5, l9_6, l9_7, l9_9, l9_10, l9_11, l9_12, l9_14, l9_15, l9_16, l9_17, l9_51, l9_52, l9_53, l9_55, l9_56, l9_58, l9_61, l9_73, l9_74, l9_75, l9_76, l9_77, l9_79, l9_80, l9_81, l9_82, l9_83, l9_84, l9_85, l10_59, l10_78, l9_D1, l9_D2, l9_D3, l9_D4, l9_T1, l9_T2, l9_T3, l9_T4]; omega) | decide)) only [va_up_n, va_up_s] at hs
    by_cases hc : pkS (rnN (F (a + 3)) (F (a + 2)) o B (F a 4) (k + 1) s).1 12 = pkS (rnN (F (a + 3)) (F (a + 2)) o B (F a 4) k s).1 12
    · have hc2 := hc
      rw [rnN] at hc2
      refine ⟨rnN (F (a + 3)) (F (a + 2)) o B (F a 4) (k + 1) s, va_up J 54 (pkS (rnN (F (a + 3)) (F (a + 2)) o B (F a 4) k s).1 12), ?_, fun h => ?_⟩
      · rw [e15_10]
        simp (disch := (first | omega | assumption | rfl | (simp (disch := assumption) only [l9_2, l9_4, l9_5, l9_6, l9_7, l9_9, l9_10, l9_11, l9_12, l9_14, l9_15, l9_16, l9_17, l9_51, l9_52, l9_53, l9_55, l9_56, l9_58, l9_61, l9_73, l9_74, l9_75, l9_76, l9_77, l9_79, l9_80, l9_81, l9_82, l9_83, l9_84, l9_85, l10_59, l10_78, l9_D1, l9_D2, l9_D3, l9_D4, l9_T1, l9_T2, l9_T3, l9_T4]; omega) | decide)) only [e15_0, e15_1, e15_2, e15_5, e15_8, e15_9, e15_11, e15_13, e15_16, e15_17, e15_18, e15_19, e15_22, e15_25, e15_28, e15_29, e15_30, e15_33, e15_36, e15_38, ↓reduceIte, nI_add, pk_mul, n_lt_t, n_lt_f, n_le_t, n_le_f, n_eq_f, n_eq_t, n_z_f, n_z_t, n_lz, n_zl, not_true_eq_false, not_false_eq_true, isD_13, va_up_n, hO, hs, Option.bind_some, Option.toList_some, Option.toList_none, List.cons_append, List.nil_append, hc2, decide_false, bI_f]
        simp only [fi, hc, not_true_eq_false, decide_false, Bool.false_eq_true, ↓reduceIte]
        congr 3
        funext b i
        simp only [va_app, rnN]
        grind
      · simp only [fi, hc, not_true_eq_false, decide_false, Bool.false_eq_true, ↓reduceIte] at h
        rw [n_m9 (by omega)] at h
        exact h.elim
    · have hc2 := hc
      rw [rnN] at hc2
      obtain ⟨x, J', h1, h2⟩ := s15_l ha ho hO hB n (k + 1) (va_up J 54 (pkS (rnN (F (a + 3)) (F (a + 2)) o B (F a 4) k s).1 12)) (by omega) (Or.inr (va_up_self _ _ _))
      refine ⟨x, J', ?_, ?_⟩
      · rw [e15_10]
        simp (disch := (first | omega | assumption | rfl | (simp (disch := assumption) only [l9_2, l9_4, l9_5, l9_6, l9_7, l9_9, l9_10, l9_11, l9_12, l9_14, l9_15, l9_16, l9_17, l9_51, l9_52, l9_53, l9_55, l9_56, l9_58, l9_61, l9_73, l9_74, l9_75, l9_76, l9_77, l9_79, l9_80, l9_81, l9_82, l9_83, l9_84, l9_85, l10_59, l10_78, l9_D1, l9_D2, l9_D3, l9_D4, l9_T1, l9_T2, l9_T3, l9_T4]; omega) | decide)) only [e15_0, e15_1, e15_2, e15_5, e15_8, e15_9, e15_11, e15_13, e15_16, e15_17, e15_18, e15_19, e15_22, e15_25, e15_28, e15_29, e15_30, e15_33, e15_36, e15_38, ↓reduceIte, nI_add, pk_mul, n_lt_t, n_lt_f, n_le_t, n_le_f, n_eq_f, n_eq_t, n_z_f, n_z_t, n_lz, n_zl, not_true_eq_false, not_false_eq_true, isD_13, va_up_n, hO, hs, Option.bind_some, Option.toList_some, Option.toList_none, List.cons_append, List.nil_append, hc2, decide_true, bI_t]
        simp only [fi, hc, not_false_eq_true, decide_true, ↓reduceIte]
        rw [← h1]
        congr 6
        funext b i
        simp only [va_app, rnN]
        grind
      · simp only [fi, hc, not_false_eq_true, decide_true, ↓reduceIte]
        exact h2
theorem s15 {a o : Nat} {B : Nat → Nat} {s : (Nat → Int32) × (Nat → Int32)} (ha : q_isT a = true) (ho : o < 16) (hO : F 13 0 = nI o) (hB : ∀ j, j < 4 → B j < 100 ∧ F (a + 4) j = nI (B j)) (hs : s = (cp 12 (F 17) (F 56), F 55)) :
    ∃ (x : (Nat → Int32) × (Nat → Int32)) (J' : Nat → Int64), q_ex X (15, 0, [.ref 54, .ref a, .ref 13, .null], [], q_w t u F J) = some (some (.int (fi (fun i => decide (¬ pkS (rnN (F (a + 3)) (F (a + 2)) o B (F a 4) (i + 1) s).1 12 = pkS (rnN (F (a + 3)) (F (a + 2)) o B (F a 4) i s).1 12)) 61 0)), q_w t u (va_up (va_up F 56 x.1) 55 x.2) J') ∧ (fi (fun i => decide (¬ pkS (rnN (F (a + 3)) (F (a + 2)) o B (F a 4) (i + 1) s).1 12 = pkS (rnN (F (a + 3)) (F (a + 2)) o B (F a 4) i s).1 12)) 61 0 = -9 → x = rnN (F (a + 3)) (F (a + 2)) o B (F a 4) 61 s ∧ J' 54 = pkS (rnN (F (a + 3)) (F (a + 2)) o B (F a 4) 60 s).1 12) := by
  obtain ⟨x, J', h1, h2⟩ := s15_l (X := X) (t := t) (u := u) (s := s) ha ho hO hB 61 0 J (by omega) (Or.inl rfl)
  refine ⟨x, J', ?_, h2⟩
  rw [← h1]
  simp (disch := (first | omega | assumption | rfl | (simp (disch := assumption) only [l9_2, l9_4, l9_5, l9_6, l9_7, l9_9, l9_10, l9_11, l9_12, l9_14, l9_15, l9_16, l9_17, l9_51, l9_52, l9_53, l9_55, l9_56, l9_58, l9_61, l9_73, l9_74, l9_75, l9_76, l9_77, l9_79, l9_80, l9_81, l9_82, l9_83, l9_84, l9_85, l10_59, l10_78, l9_D1, l9_D2, l9_D3, l9_D4, l9_T1, l9_T2, l9_T3, l9_T4]; omega) | decide)) only [e15_0, e15_1, e15_2, e15_5, e15_8, e15_9, isD_13, s17, Option.bind_some, Option.toList_some, Option.toList_none, List.cons_append, List.nil_append]
  congr 6
  funext b i
  simp only [va_app, rnN, hs]
  grind
/-- from p on, n of them looked at, the first that is as it was -/
def pe (c : Nat → Bool) : Nat → Nat → Int32
  | 0, _ => -9
  | n + 1, p => if c p = true then nI p else pe c n (p + 1)
theorem s16_l {a o : Nat} {B : Nat → Nat} {s : (Nat → Int32) × (Nat → Int32)} (ha : q_isT a = true) (ho : o < 16) (hO : F 13 0 = nI o) (hB : ∀ j, j < 4 → B j < 100 ∧ F (a + 4) j = nI (B j)) (hJ : J 54 = pkS (rnN (F (a + 3)) (F (a + 2)) o B (F a 4) 60 s).1 12) : ∀ (n k : Nat), n + k = 61 → 1 ≤ k →
    ∃ (x : (Nat → Int32) × (Nat → Int32)), q_ex X (16, 16, [.ref 54, .ref a, .ref 13, .int (nI k)], [], q_w t u (va_up (va_up F 56 (rnN (F (a + 3)) (F (a + 2)) o B (F a 4) (59 + k) s).1) 55 (rnN (F (a + 3)) (F (a + 2)) o B (F a 4) (59 + k) s).2) J) = some (some (.int (pe (fun p => decide (pkS (rnN (F (a + 3)) (F (a + 2)) o B (F a 4) (60 + p) s).1 12 = pkS (rnN (F (a + 3)) (F (a + 2)) o B (F a 4) 60 s).1 12)) n k)), q_w t u (va_up (va_up F 56 x.1) 55 x.2) J)
  | 0, k, hk, h0 => by
    obtain rfl : k = 61 := by omega
    refine ⟨rnN (F (a + 3)) (F (a + 2)) o B (F a 4) (59 + 61) s, ?_⟩
    rw [e16_16]
    simp (disch := (first | omega | assumption | rfl | (simp (disch := assumption) only [l9_2, l9_4, l9_5, l9_6, l9_7, l9_9, l9_10, l9_11, l9_12, l9_14, l9_15, l9_16, l9_17, l9_51, l9_52, l9_53, l9_55, l9_56, l9_58, l9_61, l9_73, l9_74, l9_75, l9_76, l9_77, l9_79, l9_80, l9_81, l9_82, l9_83, l9_84, l9_85, l10_59, l10_78, l9_D1, l9_D2, l9_D3, l9_D4, l9_T1, l9_T2, l9_T3, l9_T4]; omega) | decide)) only [e16_0, e16_1, e16_2, e16_3, e16_6, e16_8, e16_11, e16_13, e16_14, e16_15, e16_17, e16_19, e16_22, e16_23, e16_24, e16_25, e16_28, e16_29, e16_32, e16_35, e16_36, e16_39, e16_42, e16_43, e16_46, e16_47, e16_50, e16_51, e16_52, e16_55, e16_58, e16_60, ↓reduceIte, nI_add, pk_mul, n_lt_t, n_lt_f, n_le_t, n_le_f, n_eq_f, n_eq_t, n_z_f, n_z_t, n_lz, n_zl, not_true_eq_false, not_false_eq_true, pe]
  | n + 1, k, hk, h0 => by
    have ha2 := isT_cases ha
    have hB2 : ∀ j, j < 4 → B j < 100 ∧ (va_up (va_up F 56 (rnN (F (a + 3)) (F (a + 2)) o B (F a 4) (59 + k) s).1) 55 (rnN (F (a + 3)) (F (a + 2)) o B (F a 4) (59 + k) s).2) (a + 4) j = nI (B j) := fun j hj => by rw [va_up_n (by omega), va_up_n (by omega)]; exact hB j hj
    have hs := s11 (X := X) (t := t) (u := u) (J := J) ha (p := 56) (Or.inr rfl) ho hB2
    simp (disch := (first | omega | assumption | rfl | (simp (disch := assumption) only [l9_2, l9_4, l9_5, l9_6, l9_7, l9_9, l9_10, l9_11, l9_12, l9_14, l9_15, l9_16, l9_17, l9_51, l9_52, l9_53, l9_55, l9_56, l9_58, l9_61, l9_73, l9_74, l9_75, l9_76, l9_77, l9_79, l9_80, l9_81, l9_82, l9_83, l9_84, l9_85, l10_59, l10_78, l9_D1, l9_D2, l9_D3, l9_D4, l9_T1, l9_T2, l9_T3, l9_T4]; omega) | decide)) only [va_up_n, va_up_s] at hs
    have hr : rnS (F (a + 3)) (F (a + 2)) o B (F a 4) 4 (rnN (F (a + 3)) (F (a + 2)) o B (F a 4) (59 + k) s) = rnN (F (a + 3)) (F (a + 2)) o B (F a 4) (60 + k) s := by
      rw [show 60 + k = 59 + k + 1 by omega]; rfl
    have hr2 : rnS (F (a + 3)) (F (a + 2)) o B (F a 4) 4 ((rnN (F (a + 3)) (F (a + 2)) o B (F a 4) (59 + k) s).1, (rnN (F (a + 3)) (F (a + 2)) o B (F a 4) (59 + k) s).2) = rnN (F (a + 3)) (F (a + 2)) o B (F a 4) (60 + k) s := hr
    rw [hr2] at hs
    by_cases hc : pkS (rnN (F (a + 3)) (F (a + 2)) o B (F a 4) (60 + k) s).1 12 = pkS (rnN (F (a + 3)) (F (a + 2)) o B (F a 4) 60 s).1 12
    · refine ⟨rnN (F (a + 3)) (F (a + 2)) o B (F a 4) (60 + k) s, ?_⟩
      rw [e16_16]
      simp (disch := (first | omega | assumption | rfl | (simp (disch := assumption) only [l9_2, l9_4, l9_5, l9_6, l9_7, l9_9, l9_10, l9_11, l9_12, l9_14, l9_15, l9_16, l9_17, l9_51, l9_52, l9_53, l9_55, l9_56, l9_58, l9_61, l9_73, l9_74, l9_75, l9_76, l9_77, l9_79, l9_80, l9_81, l9_82, l9_83, l9_84, l9_85, l10_59, l10_78, l9_D1, l9_D2, l9_D3, l9_D4, l9_T1, l9_T2, l9_T3, l9_T4]; omega) | decide)) only [e16_0, e16_1, e16_2, e16_3, e16_6, e16_8, e16_11, e16_13, e16_14, e16_15, e16_17, e16_19, e16_22, e16_23, e16_24, e16_25, e16_28, e16_29, e16_32, e16_35, e16_36, e16_39, e16_42, e16_43, e16_46, e16_47, e16_50, e16_51, e16_52, e16_55, e16_58, e16_60, ↓reduceIte, nI_add, pk_mul, n_lt_t, n_lt_f, n_le_t, n_le_f, n_eq_f, n_eq_t, n_z_f, n_z_t, n_lz, n_zl, not_true_eq_false, not_false_eq_true, isD_13, va_up_n, va_up_s, hO, hs, Option.bind_some, Option.toList_some, Option.toList_none, List.cons_append, List.nil_append, s19, lg_cmp_0, hJ, hc]
      simp only [pe, hc, decide_true, ↓reduceIte]
      congr 3
      funext b i
      simp only [va_app]
      grind
    · obtain ⟨x, h1⟩ := s16_l ha ho hO hB hJ n (k + 1) (by omega) (by omega)
      refine ⟨x, ?_⟩
      rw [e16_16]
      simp (disch := (first | omega | assumption | rfl | (simp (disch := assumption) only [l9_2, l9_4, l9_5, l9_6, l9_7, l9_9, l9_10, l9_11, l9_12, l9_14, l9_15, l9_16, l9_17, l9_51, l9_52, l9_53, l9_55, l9_56, l9_58, l9_61, l9_73, l9_74, l9_75, l9_76, l9_77, l9_79, l9_80, l9_81, l9_82, l9_83, l9_84, l9_85, l10_59, l10_78, l9_D1, l9_D2, l9_D3, l9_D4, l9_T1, l9_T2, l9_T3, l9_T4]; omega) | decide)) only [e16_0, e16_1, e16_2, e16_3, e16_6, e16_8, e16_11, e16_13, e16_14, e16_15, e16_17, e16_19, e16_22, e16_23, e16_24, e16_25, e16_28, e16_29, e16_32, e16_35, e16_36, e16_39, e16_42, e16_43, e16_46, e16_47, e16_50, e16_51, e16_52, e16_55, e16_58, e16_60, ↓reduceIte, nI_add, pk_mul, n_lt_t, n_lt_f, n_le_t, n_le_f, n_eq_f, n_eq_t, n_z_f, n_z_t, n_lz, n_zl, not_true_eq_false, not_false_eq_true, isD_13, va_up_n, va_up_s, hO, hs, Option.bind_some, Option.toList_some, Option.toList_none, List.cons_append, List.nil_append, s19, lg_cmp_0, hJ, hc]
      simp only [pe, hc, decide_false, Bool.false_eq_true, ↓reduceIte]
      rw [← h1, show 59 + (k + 1) = 60 + k by omega]
      congr 6
      funext b i
      simp only [va_app]
      grind
theorem s16 {a o : Nat} {B : Nat → Nat} {s : (Nat → Int32) × (Nat → Int32)} (ha : q_isT a = true) (ho : o < 16) (hO : F 13 0 = nI o) (hB : ∀ j, j < 4 → B j < 100 ∧ F (a + 4) j = nI (B j)) (hs : s = (cp 12 (F 17) (F 56), F 55)) :
    ∃ (x : (Nat → Int32) × (Nat → Int32)) (J' : Nat → Int64), q_ex X (16, 0, [.ref 54, .ref a, .ref 13, .null], [], q_w t u F J) = some (some (.int (if fi (fun i => decide (¬ pkS (rnN (F (a + 3)) (F (a + 2)) o B (F a 4) (i + 1) s).1 12 = pkS (rnN (F (a + 3)) (F (a + 2)) o B (F a 4) i s).1 12)) 61 0 = -9 then pe (fun p => decide (pkS (rnN (F (a + 3)) (F (a + 2)) o B (F a 4) (60 + p) s).1 12 = pkS (rnN (F (a + 3)) (F (a + 2)) o B (F a 4) 60 s).1 12)) 59 2 else -9)), q_w t u (va_up (va_up F 56 x.1) 55 x.2) J') := by
  have ha2 := isT_cases ha
  obtain ⟨x, J', h1, h2⟩ := s15 (X := X) (t := t) (u := u) (J := J) ha ho hO hB hs
  by_cases hc : fi (fun i => decide (¬ pkS (rnN (F (a + 3)) (F (a + 2)) o B (F a 4) (i + 1) s).1 12 = pkS (rnN (F (a + 3)) (F (a + 2)) o B (F a 4) i s).1 12)) 61 0 = -9
  · obtain ⟨hx, hJ⟩ := h2 hc
    obtain ⟨y, h3⟩ := s16_l (X := X) (t := t) (u := u) (J := J') (s := s) ha ho hO hB hJ 59 2 (by omega) (by omega)
    refine ⟨y, J', ?_⟩
    rw [if_pos hc, ← h3]
    simp (disch := (first | omega | assumption | rfl | (simp (disch := assumption) only [l9_2, l9_4, l9_5, l9_6, l9_7, l9_9, l9_10, l9_11, l9_12, l9_14, l9_15, l9_16, l9_17, l9_51, l9_52, l9_53, l9_55, l9_56, l9_58, l9_61, l9_73, l9_74, l9_75, l9_76, l9_77, l9_79, l9_80, l9_81, l9_82, l9_83, l9_84, l9_85, l10_59, l10_78, l9_D1, l9_D2, l9_D3, l9_D4, l9_T1, l9_T2, l9_T3, l9_T4]; omega) | decide)) only [e16_0, e16_1, e16_2, e16_3, e16_6, e16_8, e16_11, e16_13, e16_14, e16_15, e16_17, e16_19, e16_22, e16_23, e16_24, e16_25, e16_28, e16_29, e16_32, e16_35, e16_36, e16_39, e16_42, e16_43, e16_46, e16_47, e16_50, e16_51, e16_52, e16_55, e16_58, e16_60, h1, Option.bind_some, Option.toList_some, Option.toList_none, List.cons_append, List.nil_append, hc, ↓reduceIte, nI_add, pk_mul, n_lt_t, n_lt_f, n_le_t, n_le_f, n_eq_f, n_eq_t, n_z_f, n_z_t, n_lz, n_zl, not_true_eq_false, not_false_eq_true]
    rw [hx]
  · refine ⟨x, J', ?_⟩
    rw [if_neg hc]
    simp (disch := (first | omega | assumption | rfl | (simp (disch := assumption) only [l9_2, l9_4, l9_5, l9_6, l9_7, l9_9, l9_10, l9_11, l9_12, l9_14, l9_15, l9_16, l9_17, l9_51, l9_52, l9_53, l9_55, l9_56, l9_58, l9_61, l9_73, l9_74, l9_75, l9_76, l9_77, l9_79, l9_80, l9_81, l9_82, l9_83, l9_84, l9_85, l10_59, l10_78, l9_D1, l9_D2, l9_D3, l9_D4, l9_T1, l9_T2, l9_T3, l9_T4]; omega) | decide)) only [e16_0, e16_1, e16_2, e16_3, e16_6, e16_8, e16_11, e16_13, e16_14, e16_15, e16_17, e16_19, e16_22, e16_23, e16_24, e16_25, e16_28, e16_29, e16_32, e16_35, e16_36, e16_39, e16_42, e16_43, e16_46, e16_47, e16_50, e16_51, e16_52, e16_55, e16_58, e16_60, h1, Option.bind_some, Option.toList_some, Option.toList_none, List.cons_append, List.nil_append, hc, ↓reduceIte, nI_add, pk_mul, n_lt_t, n_lt_f, n_le_t, n_le_f, n_eq_f, n_eq_t, n_z_f, n_z_t, n_lz, n_zl, not_true_eq_false, not_false_eq_true]
end S35
