/-! ===== calls: fills, settled, count ===== -/
theorem dn_b (b : Bool) : decide (¬ b = true) = !b := by cases b <;> rfl
theorem db_b (b : Bool) : decide (b = true) = b := by cases b <;> rfl
theorem fi_all {ch : Nat → Bool} : ∀ n k, n + k < 1000 → fi ch n k = -9 → ∀ i, k ≤ i → i < k + n → ch i = true
  | 0, k, _, _, i, h1, h2 => by omega
  | n + 1, k, hk, h, i, h1, h2 => by
    simp only [fi] at h
    by_cases hc : ch k = true
    · rw [if_pos hc] at h
      by_cases hi : i = k
      · rw [hi]; exact hc
      · exact fi_all n (k + 1) (by omega) h i (by omega) (by omega)
    · rw [if_neg hc, n_m9 (by omega)] at h
      exact absurd h (by simp)
def ulS (f g : Nat → Int32) (o : Nat) : Nat → Nat
  | 0 => 0
  | k + 1 => if bt o (k / 4) = 1 ∧ bt o (k % 4) = 1 ∧ ¬ f k = g k then ulS f g o k + 1 else ulS f g o k
theorem ulS_le {f g : Nat → Int32} {o : Nat} : ∀ k, ulS f g o k ≤ k
  | 0 => Nat.le_refl _
  | k + 1 => by
    have := ulS_le (f := f) (g := g) (o := o) k
    simp only [ulS]
    split <;> omega
theorem ul_oe {f g : Nat → Int32} {o j : Nat} : ∀ k, k ≤ 4 → ulS f g o (4 * j + k) = ulS f g o (4 * j) + if bt o j = 1 then oeS f g o (4 * j) k else 0
  | 0, _ => by simp only [oeS, ite_self, Nat.add_zero]
  | k + 1, hk => by
    have ih := ul_oe (f := f) (g := g) (o := o) (j := j) k (by omega)
    rw [← Nat.add_assoc]
    simp only [ulS, oeS]
    rw [ih, show (4 * j + k) / 4 = j by omega, show (4 * j + k) % 4 = k by omega]
    by_cases c1 : bt o j = 1
    · by_cases c2 : bt o k = 1 ∧ ¬ f (4 * j + k) = g (4 * j + k)
      · rw [if_pos ⟨c1, c2⟩, if_pos c1, if_pos c1, if_pos c2]; omega
      · rw [if_neg (fun z => c2 z.2), if_pos c1, if_pos c1, if_neg c2]
    · rw [if_neg (fun z => c1 z.1), if_neg c1, if_neg c1]
theorem ul_so {f g : Nat → Int32} {o : Nat} : ∀ k, ulS f g o (4 * k) = soS (fun j => oeS f g o (4 * j) 4) o k
  | 0 => rfl
  | k + 1 => by
    rw [show 4 * (k + 1) = 4 * k + 4 by omega, ul_oe 4 (by omega), ul_so k]
    simp only [soS]
    by_cases c1 : bt o k = 1
    · rw [if_pos c1, if_pos c1]
    · rw [if_neg c1, if_neg c1]; rfl
theorem ulS_cg {f g f' g' : Nat → Int32} {o : Nat} : ∀ k, (∀ i, i < k → f i = f' i ∧ g i = g' i) → ulS f g o k = ulS f' g' o k
  | 0, _ => rfl
  | k + 1, h => by
    simp only [ulS]
    rw [ulS_cg k (fun i hi => h i (by omega)), (h k (by omega)).1, (h k (by omega)).2]
section S75
variable {X : Nat × (Nat → Int32)} {t u : Nat} {F F' G : Nat → Nat → Int32} {J : Nat → Int64} {w : q_M}
theorem Rel_same (h : Rel t u F) (hS : RS G) (hG : ∀ b i, (b ≤ 50 ∨ (57 ≤ b ∧ b ≤ 60) ∨ (62 ≤ b ∧ b ≤ 71) ∨ (b = 72 ∧ i < 16) ∨ b = 73 ∨ (75 ≤ b ∧ b ≤ 78) ∨ 82 ≤ b) → G b i = F b i) : Rel t u G := by
  obtain ⟨htu, hT, hN, hP, hI, hY, hX, _⟩ := h
  have ht2 := htu
  unfold Rtu at ht2
  exact ⟨htu, RT_n (fun b i hb => hG b i (by omega)) hT, RN_n (fun b i hb => hG b i (by omega)) hN, RP_n (fun b i hb => hG b i (by omega)) hP, RI_n (fun b i hb => hG b i (by omega)) hI, RY_n (fun b i hb => hG b i (by omega)) hY, RX_n (fun b i hb => hG b i (by omega)) hX, hS⟩
theorem tol_of {T N : Nat → Nat} {F1 : Nat → Nat → Int32} (hTc : tR F t T) (hTm : ∀ i, i < 49 → F 73 i = nI (T i)) (hTo : okT T) (hM : mR F 75 0 N) (e73 : F1 73 = F 73) (e75 : F1 75 0 = F 75 0) : tol F1 (N 0) (fun i => F 73 (16 + i)) (fun i => F 73 (28 + i)) (F t 4) (fun j => T (44 + j)) := by
  refine ⟨by rw [e75]; exact hM 0 (by omega), by rw [e73], by rw [e73], by rw [e73, hTc.2.2.2.2, hTm 48 (by omega)], fun j hj => ⟨hTo.2.1 j hj, by rw [e73]; exact hTm _ (by omega)⟩⟩
theorem s110 {o p n : Nat} {N L : Nat → Int32} {m : Int32} {B : Nat → Nat} {P : Nat → Int32} (hn1 : 1 ≤ n) (hn : n ≤ 20) (hp : p ≤ 6) (h72 : F 72 4 = nI p) (ho : o < 16) (ho0 : o ≠ 0) (htol : tol F o N L m B) (hP : P = fun i => F 75 (33 + i)) : ∃ f, q_ex X (110, 0, [.ref 72, .int (nI n), .null], [], q_w t u F J) = some (some (.int (bI (eqS (rdS N L o B m 4 (rdN N L o B m n P)) (rdN N L o B m n P) 12))), q_w t u (setP (va_up (ntM F p) 80 f) (rdN N L o B m n P)) J) := by
  have hO := htol.1
  have e75 : ntM F p 75 = F 75 := nt_n (by omega) (by omega)
  have e73 : ntM F p 73 = F 73 := nt_n (by omega) (by omega)
  have ht2 : tol (ntM F p) o N L m B := by
    unfold tol
    rw [e73, e75]
    exact htol
  have hself : setP (ntM F p) P = ntM F p := by
    have := setP_self (F := ntM F p)
    rw [e75, ← hP] at this
    exact this
  refine ⟨cp 12 (rdN N L o B m n P) (ntM F p 80), ?_⟩
  have hl := q_iter0 (X := X) (fun k => (110, 30, [.ref 72, .int (nI n), .int (nI k)], [], q_w t u (setP (ntM F p) (rdN N L o B m k P)) J)) n (fun k hk => ?_)
  · have hl' : q_ex X (110, 30, [.ref 72, .int (nI n), .int (nI 0)], [], q_w t u (ntM F p) J) = _ := Eq.trans (by show _ = q_ex X (110, 30, _, [], q_w t u (setP (ntM F p) P) J); rw [hself]) hl
    have h109 := s109t (X := X) (t := t) (u := u) (J := J) (P := rdN N L o B m n P) ho ht2
    simp (disch := (first | omega | assumption | rfl | (simp (disch := assumption) only [l9_2, l9_4, l9_5, l9_6, l9_7, l9_9, l9_10, l9_11, l9_12, l9_14, l9_15, l9_16, l9_17, l9_51, l9_52, l9_53, l9_55, l9_56, l9_58, l9_61, l9_73, l9_74, l9_75, l9_76, l9_77, l9_79, l9_80, l9_81, l9_82, l9_83, l9_84, l9_85, l10_59, l10_78, l9_D1, l9_D2, l9_D3, l9_D4, l9_T1, l9_T2, l9_T3, l9_T4]; omega) | decide)) only [e110_0, e110_1, e110_2, e110_4, e110_7, e110_10, e110_11, e110_12, e110_13, e110_16, e110_17, e110_18, e110_21, e110_23, e110_24, e110_25, e110_28, e110_29, e110_31, e110_32, e110_35, e110_36, e110_39, e110_42, e110_45, e110_46, e110_49, e110_52, e110_53, e110_56, e110_57, ↓reduceIte, Nat.reduceAdd, Nat.reduceMul, nI_add, pk_mul, n_lt_t, n_lt_f, n_le_t, n_le_f, n_eq_f, n_eq_t, n_z_f, n_z_t, n_lz, n_zl, not_true_eq_false, not_false_eq_true, s85_t, Option.bind_some, Option.toList_some, Option.toList_none, List.cons_append, List.nil_append, hO, s95 hp h72]
    rw [hl', e110_30]
    generalize eqS (rdS N L o B m 4 (rdN N L o B m n P)) (rdN N L o B m n P) 12 = d at h109 ⊢
    cases d
    · rw [bI_f] at h109
      simp (disch := (first | omega | assumption | rfl | (simp (disch := assumption) only [l9_2, l9_4, l9_5, l9_6, l9_7, l9_9, l9_10, l9_11, l9_12, l9_14, l9_15, l9_16, l9_17, l9_51, l9_52, l9_53, l9_55, l9_56, l9_58, l9_61, l9_73, l9_74, l9_75, l9_76, l9_77, l9_79, l9_80, l9_81, l9_82, l9_83, l9_84, l9_85, l10_59, l10_78, l9_D1, l9_D2, l9_D3, l9_D4, l9_T1, l9_T2, l9_T3, l9_T4]; omega) | decide)) only [e110_0, e110_1, e110_2, e110_4, e110_7, e110_10, e110_11, e110_12, e110_13, e110_16, e110_17, e110_18, e110_21, e110_23, e110_24, e110_25, e110_28, e110_29, e110_31, e110_32, e110_35, e110_36, e110_39, e110_42, e110_45, e110_46, e110_49, e110_52, e110_53, e110_56, e110_57, ↓reduceIte, Nat.reduceAdd, Nat.reduceMul, nI_add, pk_mul, n_lt_t, n_lt_f, n_le_t, n_le_f, n_eq_f, n_eq_t, n_z_f, n_z_t, n_lz, n_zl, not_true_eq_false, not_false_eq_true, h109, Option.bind_some, Option.toList_some, Option.toList_none, List.cons_append, List.nil_append, bI_f]
    · rw [bI_t] at h109
      simp (disch := (first | omega | assumption | rfl | (simp (disch := assumption) only [l9_2, l9_4, l9_5, l9_6, l9_7, l9_9, l9_10, l9_11, l9_12, l9_14, l9_15, l9_16, l9_17, l9_51, l9_52, l9_53, l9_55, l9_56, l9_58, l9_61, l9_73, l9_74, l9_75, l9_76, l9_77, l9_79, l9_80, l9_81, l9_82, l9_83, l9_84, l9_85, l10_59, l10_78, l9_D1, l9_D2, l9_D3, l9_D4, l9_T1, l9_T2, l9_T3, l9_T4]; omega) | decide)) only [e110_0, e110_1, e110_2, e110_4, e110_7, e110_10, e110_11, e110_12, e110_13, e110_16, e110_17, e110_18, e110_21, e110_23, e110_24, e110_25, e110_28, e110_29, e110_31, e110_32, e110_35, e110_36, e110_39, e110_42, e110_45, e110_46, e110_49, e110_52, e110_53, e110_56, e110_57, ↓reduceIte, Nat.reduceAdd, Nat.reduceMul, nI_add, pk_mul, n_lt_t, n_lt_f, n_le_t, n_le_f, n_eq_f, n_eq_t, n_z_f, n_z_t, n_lz, n_zl, not_true_eq_false, not_false_eq_true, h109, Option.bind_some, Option.toList_some, Option.toList_none, List.cons_append, List.nil_append, bI_t]
  · try dsimp only
    rw [e110_30]
    simp (disch := (first | omega | assumption | rfl | (simp (disch := assumption) only [l9_2, l9_4, l9_5, l9_6, l9_7, l9_9, l9_10, l9_11, l9_12, l9_14, l9_15, l9_16, l9_17, l9_51, l9_52, l9_53, l9_55, l9_56, l9_58, l9_61, l9_73, l9_74, l9_75, l9_76, l9_77, l9_79, l9_80, l9_81, l9_82, l9_83, l9_84, l9_85, l10_59, l10_78, l9_D1, l9_D2, l9_D3, l9_D4, l9_T1, l9_T2, l9_T3, l9_T4]; omega) | decide)) only [e110_0, e110_1, e110_2, e110_4, e110_7, e110_10, e110_11, e110_12, e110_13, e110_16, e110_17, e110_18, e110_21, e110_23, e110_24, e110_25, e110_28, e110_29, e110_31, e110_32, e110_35, e110_36, e110_39, e110_42, e110_45, e110_46, e110_49, e110_52, e110_53, e110_56, e110_57, ↓reduceIte, Nat.reduceAdd, Nat.reduceMul, nI_add, pk_mul, n_lt_t, n_lt_f, n_le_t, n_le_f, n_eq_f, n_eq_t, n_z_f, n_z_t, n_lz, n_zl, not_true_eq_false, not_false_eq_true, s105t ho ht2, Option.bind_some, Option.toList_some, Option.toList_none, List.cons_append, List.nil_append, rdN]
theorem op8 {y : Int32} (h : Rel t u F) : OK X t u F J 59 [.ref 0, .int y, .null] 110 [.ref 72, .int y, .null] := by
  have hh := h
  obtain ⟨htu, hT, ⟨N, hD, hM, hok⟩, ⟨x, p, H, hx, hp, h1, h2, h3, hH⟩, hI, hY, hX, hS⟩ := h
  have ht := (Rtu_t htu).1
  have ha2 := isT_cases ht
  have hO := hD.1
  have hO2 : F 75 0 = nI (N 0) := hM 0 (by omega)
  have ho := hok.1
  rcases i_cases y (k := 21) (by decide) with hb | ⟨n, hn, rfl⟩
  · have h85 := i_bad (k := 20) (by decide) hb
    have h85' : ¬ (nI 1 ≤ y ∧ y ≤ nI 20) := fun z => h85 ⟨Int32.le_trans (by decide) z.1, z.2⟩
    refine OK_q (r := -1) hh ?_ ?_
    · by_cases h0 : y < nI 1
      · simp (disch := (first | omega | assumption | rfl | (simp (disch := assumption) only [l9_2, l9_4, l9_5, l9_6, l9_7, l9_9, l9_10, l9_11, l9_12, l9_14, l9_15, l9_16, l9_17, l9_51, l9_52, l9_53, l9_55, l9_56, l9_58, l9_61, l9_73, l9_74, l9_75, l9_76, l9_77, l9_79, l9_80, l9_81, l9_82, l9_83, l9_84, l9_85, l10_59, l10_78, l9_D1, l9_D2, l9_D3, l9_D4, l9_T1, l9_T2, l9_T3, l9_T4]; omega) | decide)) only [e59_0, e59_1, e59_2, e59_5, e59_6, e59_8, e59_11, e59_12, e59_13, e59_14, e59_17, e59_20, e59_23, e59_25, e59_26, e59_27, e59_30, e59_31, e59_34, e59_37, e59_38, e59_40, e59_41, e59_44, e59_45, e59_48, e59_49, e59_52, e59_53, e59_56, e59_59, e59_60, e59_63, e59_66, e59_69, e59_72, e59_75, e59_76, e59_79, e59_80, e59_83, e59_84, e59_87, e59_90, e59_93, e59_94, e59_97, e59_98, ↓reduceIte, Nat.reduceAdd, Nat.reduceMul, nI_add, pk_mul, n_lt_t, n_lt_f, n_le_t, n_le_f, n_eq_f, n_eq_t, n_z_f, n_z_t, n_lz, n_zl, not_true_eq_false, not_false_eq_true, h0]
      · have h1' : ¬ y ≤ nI 20 := fun z => h85' ⟨Int32.not_lt.mp h0, z⟩
        simp (disch := (first | omega | assumption | rfl | (simp (disch := assumption) only [l9_2, l9_4, l9_5, l9_6, l9_7, l9_9, l9_10, l9_11, l9_12, l9_14, l9_15, l9_16, l9_17, l9_51, l9_52, l9_53, l9_55, l9_56, l9_58, l9_61, l9_73, l9_74, l9_75, l9_76, l9_77, l9_79, l9_80, l9_81, l9_82, l9_83, l9_84, l9_85, l10_59, l10_78, l9_D1, l9_D2, l9_D3, l9_D4, l9_T1, l9_T2, l9_T3, l9_T4]; omega) | decide)) only [e59_0, e59_1, e59_2, e59_5, e59_6, e59_8, e59_11, e59_12, e59_13, e59_14, e59_17, e59_20, e59_23, e59_25, e59_26, e59_27, e59_30, e59_31, e59_34, e59_37, e59_38, e59_40, e59_41, e59_44, e59_45, e59_48, e59_49, e59_52, e59_53, e59_56, e59_59, e59_60, e59_63, e59_66, e59_69, e59_72, e59_75, e59_76, e59_79, e59_80, e59_83, e59_84, e59_87, e59_90, e59_93, e59_94, e59_97, e59_98, ↓reduceIte, Nat.reduceAdd, Nat.reduceMul, nI_add, pk_mul, n_lt_t, n_lt_f, n_le_t, n_le_f, n_eq_f, n_eq_t, n_z_f, n_z_t, n_lz, n_zl, not_true_eq_false, not_false_eq_true, h0, h1']
    · simp (disch := (first | omega | assumption | rfl | (simp (disch := assumption) only [l9_2, l9_4, l9_5, l9_6, l9_7, l9_9, l9_10, l9_11, l9_12, l9_14, l9_15, l9_16, l9_17, l9_51, l9_52, l9_53, l9_55, l9_56, l9_58, l9_61, l9_73, l9_74, l9_75, l9_76, l9_77, l9_79, l9_80, l9_81, l9_82, l9_83, l9_84, l9_85, l10_59, l10_78, l9_D1, l9_D2, l9_D3, l9_D4, l9_T1, l9_T2, l9_T3, l9_T4]; omega) | decide)) only [e110_0, e110_1, e110_2, e110_4, e110_7, e110_10, e110_11, e110_12, e110_13, e110_16, e110_17, e110_18, e110_21, e110_23, e110_24, e110_25, e110_28, e110_29, e110_31, e110_32, e110_35, e110_36, e110_39, e110_42, e110_45, e110_46, e110_49, e110_52, e110_53, e110_56, e110_57, ↓reduceIte, Nat.reduceAdd, Nat.reduceMul, nI_add, pk_mul, n_lt_t, n_lt_f, n_le_t, n_le_f, n_eq_f, n_eq_t, n_z_f, n_z_t, n_lz, n_zl, not_true_eq_false, not_false_eq_true, s85_f h85', Option.bind_some, Option.toList_some, Option.toList_none, List.cons_append, List.nil_append]
  by_cases hn0 : n = 0
  · subst hn0
    refine OK_q (r := -1) hh ?_ ?_
    · simp (disch := (first | omega | assumption | rfl | (simp (disch := assumption) only [l9_2, l9_4, l9_5, l9_6, l9_7, l9_9, l9_10, l9_11, l9_12, l9_14, l9_15, l9_16, l9_17, l9_51, l9_52, l9_53, l9_55, l9_56, l9_58, l9_61, l9_73, l9_74, l9_75, l9_76, l9_77, l9_79, l9_80, l9_81, l9_82, l9_83, l9_84, l9_85, l10_59, l10_78, l9_D1, l9_D2, l9_D3, l9_D4, l9_T1, l9_T2, l9_T3, l9_T4]; omega) | decide)) only [e59_0, e59_1, e59_2, e59_5, e59_6, e59_8, e59_11, e59_12, e59_13, e59_14, e59_17, e59_20, e59_23, e59_25, e59_26, e59_27, e59_30, e59_31, e59_34, e59_37, e59_38, e59_40, e59_41, e59_44, e59_45, e59_48, e59_49, e59_52, e59_53, e59_56, e59_59, e59_60, e59_63, e59_66, e59_69, e59_72, e59_75, e59_76, e59_79, e59_80, e59_83, e59_84, e59_87, e59_90, e59_93, e59_94, e59_97, e59_98, ↓reduceIte, Nat.reduceAdd, Nat.reduceMul, nI_add, pk_mul, n_lt_t, n_lt_f, n_le_t, n_le_f, n_eq_f, n_eq_t, n_z_f, n_z_t, n_lz, n_zl, not_true_eq_false, not_false_eq_true]
    · simp (disch := (first | omega | assumption | rfl | (simp (disch := assumption) only [l9_2, l9_4, l9_5, l9_6, l9_7, l9_9, l9_10, l9_11, l9_12, l9_14, l9_15, l9_16, l9_17, l9_51, l9_52, l9_53, l9_55, l9_56, l9_58, l9_61, l9_73, l9_74, l9_75, l9_76, l9_77, l9_79, l9_80, l9_81, l9_82, l9_83, l9_84, l9_85, l10_59, l10_78, l9_D1, l9_D2, l9_D3, l9_D4, l9_T1, l9_T2, l9_T3, l9_T4]; omega) | decide)) only [e110_0, e110_1, e110_2, e110_4, e110_7, e110_10, e110_11, e110_12, e110_13, e110_16, e110_17, e110_18, e110_21, e110_23, e110_24, e110_25, e110_28, e110_29, e110_31, e110_32, e110_35, e110_36, e110_39, e110_42, e110_45, e110_46, e110_49, e110_52, e110_53, e110_56, e110_57, ↓reduceIte, Nat.reduceAdd, Nat.reduceMul, nI_add, pk_mul, n_lt_t, n_lt_f, n_le_t, n_le_f, n_eq_f, n_eq_t, n_z_f, n_z_t, n_lz, n_zl, not_true_eq_false, not_false_eq_true, s85_n, Option.bind_some, Option.toList_some, Option.toList_none, List.cons_append, List.nil_append]
  by_cases ho0 : N 0 = 0
  · rw [ho0] at hO hO2
    refine OK_q (r := -2) hh ?_ ?_
    · simp (disch := (first | omega | assumption | rfl | (simp (disch := assumption) only [l9_2, l9_4, l9_5, l9_6, l9_7, l9_9, l9_10, l9_11, l9_12, l9_14, l9_15, l9_16, l9_17, l9_51, l9_52, l9_53, l9_55, l9_56, l9_58, l9_61, l9_73, l9_74, l9_75, l9_76, l9_77, l9_79, l9_80, l9_81, l9_82, l9_83, l9_84, l9_85, l10_59, l10_78, l9_D1, l9_D2, l9_D3, l9_D4, l9_T1, l9_T2, l9_T3, l9_T4]; omega) | decide)) only [e59_0, e59_1, e59_2, e59_5, e59_6, e59_8, e59_11, e59_12, e59_13, e59_14, e59_17, e59_20, e59_23, e59_25, e59_26, e59_27, e59_30, e59_31, e59_34, e59_37, e59_38, e59_40, e59_41, e59_44, e59_45, e59_48, e59_49, e59_52, e59_53, e59_56, e59_59, e59_60, e59_63, e59_66, e59_69, e59_72, e59_75, e59_76, e59_79, e59_80, e59_83, e59_84, e59_87, e59_90, e59_93, e59_94, e59_97, e59_98, ↓reduceIte, Nat.reduceAdd, Nat.reduceMul, nI_add, pk_mul, n_lt_t, n_lt_f, n_le_t, n_le_f, n_eq_f, n_eq_t, n_z_f, n_z_t, n_lz, n_zl, not_true_eq_false, not_false_eq_true, isD_13, hO]
    · simp (disch := (first | omega | assumption | rfl | (simp (disch := assumption) only [l9_2, l9_4, l9_5, l9_6, l9_7, l9_9, l9_10, l9_11, l9_12, l9_14, l9_15, l9_16, l9_17, l9_51, l9_52, l9_53, l9_55, l9_56, l9_58, l9_61, l9_73, l9_74, l9_75, l9_76, l9_77, l9_79, l9_80, l9_81, l9_82, l9_83, l9_84, l9_85, l10_59, l10_78, l9_D1, l9_D2, l9_D3, l9_D4, l9_T1, l9_T2, l9_T3, l9_T4]; omega) | decide)) only [e110_0, e110_1, e110_2, e110_4, e110_7, e110_10, e110_11, e110_12, e110_13, e110_16, e110_17, e110_18, e110_21, e110_23, e110_24, e110_25, e110_28, e110_29, e110_31, e110_32, e110_35, e110_36, e110_39, e110_42, e110_45, e110_46, e110_49, e110_52, e110_53, e110_56, e110_57, ↓reduceIte, Nat.reduceAdd, Nat.reduceMul, nI_add, pk_mul, n_lt_t, n_lt_f, n_le_t, n_le_f, n_eq_f, n_eq_t, n_z_f, n_z_t, n_lz, n_zl, not_true_eq_false, not_false_eq_true, s85_t, Option.bind_some, Option.toList_some, Option.toList_none, List.cons_append, List.nil_append, hO2]
  · obtain ⟨T, hTc, hTm, hTo⟩ := id hT
    have gO : rmF F x p 13 0 = nI (N 0) := by rw [rm_n hx (by omega), hO]
    have g4 : rmF F x p (t + 4) = F (t + 4) := rm_n hx (by omega)
    have g3 : rmF F x p (t + 3) = F (t + 3) := rm_n hx (by omega)
    have g2 : rmF F x p (t + 2) = F (t + 2) := rm_n hx (by omega)
    have g0 : rmF F x p t = F t := rm_n hx (by omega)
    have g17 : rmF F x p 17 = F 17 := rm_n hx (by omega)
    have gB : ∀ j, j < 4 → (fun j => T (44 + j)) j < 100 ∧ rmF F x p (t + 4) j = nI ((fun j => T (44 + j)) j) := fun j hj => ⟨hTo.2.1 j hj, by rw [g4]; exact hTc.2.2.2.1 j hj⟩
    have c1 := s59_l (X := X) (u := u) (J := J) (n := n) ht ho gO gB (by omega)
    rw [g3, g2, g0, g17] at c1
    generalize hF1 : va_up (va_up (rmF F x p) 17 (rnN (F (t + 3)) (F (t + 2)) (N 0) (fun j => T (44 + j)) (F t 4) n (F 17, rmF F x p 55)).1) 55 (rnN (F (t + 3)) (F (t + 2)) (N 0) (fun j => T (44 + j)) (F t 4) n (F 17, rmF F x p 55)).2 = F1 at c1
    have f1 : ∀ b, b ≠ 17 → b ≠ 55 → F1 b = rmF F x p b := fun b z1 z2 => by rw [← hF1, va_up_n z2, va_up_n z1]
    have f17 : F1 17 = rdN (F (t + 3)) (F (t + 2)) (N 0) (fun j => T (44 + j)) (F t 4) n (F 17) := by
      rw [← hF1, va_up_n (by omega), va_up_s, rnN_rd]
    obtain ⟨F3, J3, c2, f3⟩ := s59_e (X := X) (u := u) (J := J) (F := F1) (n := n) (o := N 0) (B := fun j => T (44 + j)) ht ho (by rw [f1 13 (by omega) (by omega)]; exact gO) (fun j hj => by rw [f1 (t + 4) (by omega) (by omega)]; exact gB j hj) (by omega)
    rw [f1 (t + 3) (by omega) (by omega), f1 (t + 2) (by omega) (by omega), f1 t (by omega) (by omega), g3, g2, g0, f17] at c2
    have hm : F t 4 = nI (T 48) := hTc.2.2.2.2
    have hN : agr (F (t + 3)) (fun i => F 73 (16 + i)) := fun i hi => (hTc.2.1 i hi).trans (hTm _ (by omega)).symm
    have hL : ∀ i, i < 16 → F (t + 2) i = (fun i => F 73 (28 + i)) i := fun i hi => (hTc.2.2.1 i hi).trans (hTm _ (by omega)).symm
    have hP : agr (F 17) (fun i => F 75 (33 + i)) := fun i hi => ((hD.2 i (by omega)).2.2.2 hi).trans (mR_at hM (by omega)).symm
    have hr : rg (F 17) := fun i hi => ⟨N (33 + i), (hok.2 i (by omega)).2.2.2 hi, (hD.2 i (by omega)).2.2.2 hi⟩
    have hrn := rdN_rg (N := F (t + 3)) (L := F (t + 2)) (o := N 0) (B := fun j => T (44 + j)) hm hTo.2.2 hr n
    have hPn := rdN_cg (o := N 0) (B := fun j => T (44 + j)) (m := F t 4) hN hL hP n
    rw [steady_eq hm hTo.2.2 hN hL hPn hrn] at c2
    have q1 : ∀ b, b ≠ 17 → b ≠ 55 → b ≠ 56 → F3 b = rmF F x p b := fun b z1 z2 z3 => by rw [f3 b z2 z3, f1 b z1 z2]
    have e75 : F3 75 = F 75 := by rw [q1 75 (by omega) (by omega) (by omega), rm_n hx (by omega)]
    have e73 : F3 73 = F 73 := by rw [q1 73 (by omega) (by omega) (by omega), rm_n hx (by omega)]
    have e17 : F3 17 = rdN (F (t + 3)) (F (t + 2)) (N 0) (fun j => T (44 + j)) (F t 4) n (F 17) := by rw [f3 17 (by omega) (by omega), f17]
    have g72 : F3 72 4 = nI p := by rw [q1 72 (by omega) (by omega) (by omega), rm_n hx (by omega), h3]
    obtain ⟨f, c3⟩ := s110 (X := X) (t := t) (u := u) (J := J3) (F := F3) (n := n) (P := fun i => F 75 (33 + i)) (by omega) (by omega) hp g72 ho ho0 (tol_of hTc hTm hTo hM e73 (by rw [e75])) (by rw [e75])
    refine ⟨_, t, u, F3, J3, _, J3, ?_, c3, ?_⟩
    · simp (disch := (first | omega | assumption | rfl | (simp (disch := assumption) only [l9_2, l9_4, l9_5, l9_6, l9_7, l9_9, l9_10, l9_11, l9_12, l9_14, l9_15, l9_16, l9_17, l9_51, l9_52, l9_53, l9_55, l9_56, l9_58, l9_61, l9_73, l9_74, l9_75, l9_76, l9_77, l9_79, l9_80, l9_81, l9_82, l9_83, l9_84, l9_85, l10_59, l10_78, l9_D1, l9_D2, l9_D3, l9_D4, l9_T1, l9_T2, l9_T3, l9_T4]; omega) | decide)) only [e59_0, e59_1, e59_2, e59_5, e59_6, e59_8, e59_11, e59_12, e59_13, e59_14, e59_17, e59_20, e59_23, e59_25, e59_26, e59_27, e59_30, e59_31, e59_34, e59_37, e59_38, e59_40, e59_41, e59_44, e59_45, e59_48, e59_49, e59_52, e59_53, e59_56, e59_59, e59_60, e59_63, e59_66, e59_69, e59_72, e59_75, e59_76, e59_79, e59_80, e59_83, e59_84, e59_87, e59_90, e59_93, e59_94, e59_97, e59_98, ↓reduceIte, Nat.reduceAdd, Nat.reduceMul, nI_add, pk_mul, n_lt_t, n_lt_f, n_le_t, n_le_f, n_eq_f, n_eq_t, n_z_f, n_z_t, n_lz, n_zl, not_true_eq_false, not_false_eq_true, isD_13, hO, s7' hx hp h1 h2, Option.bind_some, Option.toList_some, Option.toList_none, List.cons_append, List.nil_append]
      rw [c1, c2]
    · refine Rel_mut (F' := F3) (N' := fun i => if 33 ≤ i ∧ i < 45 then (F3 17 (i - 33)).toNatClampNeg else N i) htu hT hI hY hX hx hp h3 hH hD hM hok ?_ ?_ ?_ ?_ ?_ ?_
      · intro b i hb hb2
        rw [q1 b (by omega) (by omega) (by omega)]
      · intro b i hb _ _ hb80 _ _
        rw [setP_n hb, va_up_n hb80]
      · exact RS_n (fun i => by rw [q1 53 (by omega) (by omega) (by omega), rm_n hx (by omega)]) hS
      · refine ⟨?_, fun i hi => ?_⟩
        · rw [q1 13 (by omega) (by omega) (by omega), gO]; rfl
        · obtain ⟨d1, d2, d3, d4⟩ := hD.2 i hi
          dsimp only
          refine ⟨?_, ?_, ?_, fun h12 => ?_⟩
          · rw [q1 _ (by omega) (by omega) (by omega), rm_n hx (by omega), d1, if_neg (by omega)]
          · rw [q1 _ (by omega) (by omega) (by omega), rm_n hx (by omega), d2, if_neg (by omega)]
          · rw [q1 _ (by omega) (by omega) (by omega), rm_n hx (by omega), d3, if_neg (by omega)]
          · rw [if_pos (by omega), show 33 + i - 33 = i by omega, e17]
            exact (rg_c hrn h12).1
      · intro i hi
        rw [Nat.zero_add]
        dsimp only
        by_cases c : 33 ≤ i ∧ i < 45
        · have ei : i = 33 + (i - 33) := by omega
          generalize i - 33 = k at ei
          subst ei
          rw [setP_rd (by omega), if_pos c, e17, ← hPn k (by omega)]
          exact (rg_c hrn (by omega)).1
        · simp only [setP, va_app, if_true]
          rw [if_neg c, if_neg c, if_neg (by omega), nt_n (by omega) (by omega), e75, mR_at hM hi]
      · refine ⟨by dsimp only; rw [if_neg (by omega)]; exact ho, fun i hi => ?_⟩
        obtain ⟨d1, d2, d3, d4⟩ := hok.2 i hi
        dsimp only
        refine ⟨by rw [if_neg (by omega)]; exact d1, by rw [if_neg (by omega)]; exact d2, by rw [if_neg (by omega)]; exact d3, fun h12 => ?_⟩
        rw [if_pos (by omega), show 33 + i - 33 = i by omega, e17]
        exact (rg_c hrn h12).2
theorem op17 {y : Int32} (h : Rel t u F) : OK X t u F J 68 [.ref 0, .int y] 113 [.ref 72, .int y, .null, .null] := by
  have hh := h
  obtain ⟨htu, ⟨T, hTc, hTm, hTo⟩, ⟨N, hD, hM, hok⟩, hP0, hI, hY, hX, hS⟩ := h
  have ht := (Rtu_t htu).1
  have ha2 := isT_cases ht
  have hO := hD.1
  have ho := hok.1
  rcases i_cases y (k := 2) (by decide) with hb | ⟨v, hv, rfl⟩
  · have hd := sw_d (k := 1) (by decide) hb
    have h85 := i_bad (k := 1) (by decide) hb
    have z0 : ¬ y.toInt = 0 := by omega
    have z1 : ¬ y.toInt = 1 := by omega
    refine OK_q (r := -1) hh ?_ ?_
    · simp (disch := (first | omega | assumption | rfl | (simp (disch := assumption) only [l9_2, l9_4, l9_5, l9_6, l9_7, l9_9, l9_10, l9_11, l9_12, l9_14, l9_15, l9_16, l9_17, l9_51, l9_52, l9_53, l9_55, l9_56, l9_58, l9_61, l9_73, l9_74, l9_75, l9_76, l9_77, l9_79, l9_80, l9_81, l9_82, l9_83, l9_84, l9_85, l10_59, l10_78, l9_D1, l9_D2, l9_D3, l9_D4, l9_T1, l9_T2, l9_T3, l9_T4]; omega) | decide)) only [e68_0, e68_1_c0, e68_1_c1, e68_1_d, e68_28, e68_29, e68_32, e68_33, e68_36, e68_37, e68_40, e68_43, e68_44, e68_45, e68_48, e68_49, e68_52, e68_53, e68_56, e68_59, e68_60, e68_61, ↓reduceIte, Nat.reduceAdd, Nat.reduceMul, nI_add, pk_mul, n_lt_t, n_lt_f, n_le_t, n_le_f, n_eq_f, n_eq_t, n_z_f, n_z_t, n_lz, n_zl, not_true_eq_false, not_false_eq_true]
    · simp (disch := (first | omega | assumption | rfl | (simp (disch := assumption) only [l9_2, l9_4, l9_5, l9_6, l9_7, l9_9, l9_10, l9_11, l9_12, l9_14, l9_15, l9_16, l9_17, l9_51, l9_52, l9_53, l9_55, l9_56, l9_58, l9_61, l9_73, l9_74, l9_75, l9_76, l9_77, l9_79, l9_80, l9_81, l9_82, l9_83, l9_84, l9_85, l10_59, l10_78, l9_D1, l9_D2, l9_D3, l9_D4, l9_T1, l9_T2, l9_T3, l9_T4]; omega) | decide)) only [e113_0, e113_1, e113_2, e113_3, e113_6, e113_9, e113_10, e113_11, e113_12, e113_13, e113_16, e113_19, e113_20, e113_23, e113_24, e113_25, e113_26, e113_29, e113_32, e113_33, e113_36, e113_37, e113_38, e113_39, e113_41, e113_44, e113_46, e113_47, e113_48, e113_51, e113_52, e113_53, e113_54, e113_57, e113_60, e113_61, ↓reduceIte, Nat.reduceAdd, Nat.reduceMul, nI_add, pk_mul, n_lt_t, n_lt_f, n_le_t, n_le_f, n_eq_f, n_eq_t, n_z_f, n_z_t, n_lz, n_zl, not_true_eq_false, not_false_eq_true, s85_f h85, Option.bind_some, Option.toList_some, Option.toList_none, List.cons_append, List.nil_append]
  have hm : F t 4 = nI (T 48) := hTc.2.2.2.2
  have hN : agr (F (t + 3)) (fun i => F 73 (16 + i)) := fun i hi => (hTc.2.1 i hi).trans (hTm _ (by omega)).symm
  have hL : ∀ i, i < 16 → F (t + 2) i = (fun i => F 73 (28 + i)) i := fun i hi => (hTc.2.2.1 i hi).trans (hTm _ (by omega)).symm
  have hP : agr (F 17) (fun i => F 75 (33 + i)) := fun i hi => ((hD.2 i (by omega)).2.2.2 hi).trans (mR_at hM (by omega)).symm
  have hr : rg (F 17) := fun i hi => ⟨N (33 + i), (hok.2 i (by omega)).2.2.2 hi, (hD.2 i (by omega)).2.2.2 hi⟩
  have hB : ∀ j, j < 4 → (fun j => T (44 + j)) j < 100 ∧ F (t + 4) j = nI ((fun j => T (44 + j)) j) := fun j hj => ⟨hTo.2.1 j hj, hTc.2.2.2.1 j hj⟩
  have hch : (fun i => decide (¬ pkS (rnN (F (t + 3)) (F (t + 2)) (N 0) (fun j => T (44 + j)) (F t 4) (i + 1) (cp 12 (F 17) (F 56), F 55)).1 12 = pkS (rnN (F (t + 3)) (F (t + 2)) (N 0) (fun j => T (44 + j)) (F t 4) i (cp 12 (F 17) (F 56), F 55)).1 12)) = (fun i => !eqS (rdN (fun i => F 73 (16 + i)) (fun i => F 73 (28 + i)) (N 0) (fun j => T (44 + j)) (F t 4) (i + 1) (fun i => F 75 (33 + i))) (rdN (fun i => F 73 (16 + i)) (fun i => F 73 (28 + i)) (N 0) (fun j => T (44 + j)) (F t 4) i (fun i => F 75 (33 + i))) 12) := by
    funext i
    rw [← dn_b]
    congr 2
    exact rn_eq rfl hm hTo.2.2 hN hL hP hr (i + 1) i
  have hcp : (fun p => decide (pkS (rnN (F (t + 3)) (F (t + 2)) (N 0) (fun j => T (44 + j)) (F t 4) (60 + p) (cp 12 (F 17) (F 56), F 55)).1 12 = pkS (rnN (F (t + 3)) (F (t + 2)) (N 0) (fun j => T (44 + j)) (F t 4) 60 (cp 12 (F 17) (F 56), F 55)).1 12)) = (fun p => eqS (rdN (fun i => F 73 (16 + i)) (fun i => F 73 (28 + i)) (N 0) (fun j => T (44 + j)) (F t 4) (60 + p) (fun i => F 75 (33 + i))) (rdN (fun i => F 73 (16 + i)) (fun i => F 73 (28 + i)) (N 0) (fun j => T (44 + j)) (F t 4) 60 (fun i => F 75 (33 + i))) 12) := by
    funext i
    rw [← db_b (eqS _ _ 12)]
    congr 1
    exact rn_eq rfl hm hTo.2.2 hN hL hP hr (60 + i) 60
  rcases (show v = 0 ∨ v = 1 by omega) with rfl | rfl
  · obtain ⟨x, J', c1, -⟩ := s15 (X := X) (t := t) (u := u) (J := J) ht ho hO hB rfl
    rw [hch] at c1
    have e75 : va_up (va_up F 56 x.1) 55 x.2 75 = F 75 := by rw [va_up_n (by omega), va_up_n (by omega)]
    have e73 : va_up (va_up F 56 x.1) 55 x.2 73 = F 73 := by rw [va_up_n (by omega), va_up_n (by omega)]
    obtain ⟨f, f', c2⟩ := s113 (X := X) (t := t) (u := u) (J := J') (F := va_up (va_up F 56 x.1) 55 x.2) (P := fun i => F 75 (33 + i)) (x := 0) (by omega) ho (tol_of hTc hTm hTo hM e73 (by rw [e75]))
    have hself : setP (va_up (va_up F 56 x.1) 55 x.2) (fun i => F 75 (33 + i)) = va_up (va_up F 56 x.1) 55 x.2 := by
      have := setP_self (F := va_up (va_up F 56 x.1) 55 x.2)
      rw [e75] at this
      exact this
    rw [hself, if_pos rfl] at c2
    refine ⟨_, t, u, va_up (va_up F 56 x.1) 55 x.2, J', _, J', ?_, c2, ?_⟩
    · simp (disch := (first | omega | assumption | rfl | (simp (disch := assumption) only [l9_2, l9_4, l9_5, l9_6, l9_7, l9_9, l9_10, l9_11, l9_12, l9_14, l9_15, l9_16, l9_17, l9_51, l9_52, l9_53, l9_55, l9_56, l9_58, l9_61, l9_73, l9_74, l9_75, l9_76, l9_77, l9_79, l9_80, l9_81, l9_82, l9_83, l9_84, l9_85, l10_59, l10_78, l9_D1, l9_D2, l9_D3, l9_D4, l9_T1, l9_T2, l9_T3, l9_T4]; omega) | decide)) only [e68_0, e68_1_c0, e68_1_c1, e68_1_d, e68_28, e68_29, e68_32, e68_33, e68_36, e68_37, e68_40, e68_43, e68_44, e68_45, e68_48, e68_49, e68_52, e68_53, e68_56, e68_59, e68_60, e68_61, ↓reduceIte, Nat.reduceAdd, Nat.reduceMul, nI_add, pk_mul, n_lt_t, n_lt_f, n_le_t, n_le_f, n_eq_f, n_eq_t, n_z_f, n_z_t, n_lz, n_zl, not_true_eq_false, not_false_eq_true, c1, Option.bind_some, Option.toList_some, Option.toList_none, List.cons_append, List.nil_append]
    · refine Rel_same hh (RS_n (fun i => ?_) hS) (fun b i hb => ?_)
      · rw [setP_n (by omega), va_up_n (by omega), va_up_n (by omega), va_up_n (by omega), va_up_n (by omega)]
      · by_cases h75 : b = 75
        · subst h75
          simp only [setP, va_app, if_true]
          split
          · rw [show 33 + (i - 33) = i by omega]
          · rw [if_neg (by omega), if_neg (by omega), if_neg (by omega), if_neg (by omega)]
        · rw [setP_n h75, va_up_n (by omega), va_up_n (by omega), va_up_n (by omega), va_up_n (by omega)]
  · obtain ⟨x, J', c1⟩ := s16 (X := X) (t := t) (u := u) (J := J) ht ho hO hB rfl
    rw [hch, hcp] at c1
    have e75 : va_up (va_up F 56 x.1) 55 x.2 75 = F 75 := by rw [va_up_n (by omega), va_up_n (by omega)]
    have e73 : va_up (va_up F 56 x.1) 55 x.2 73 = F 73 := by rw [va_up_n (by omega), va_up_n (by omega)]
    obtain ⟨f, f', c2⟩ := s113 (X := X) (t := t) (u := u) (J := J') (F := va_up (va_up F 56 x.1) 55 x.2) (P := fun i => F 75 (33 + i)) (x := 1) (by omega) ho (tol_of hTc hTm hTo hM e73 (by rw [e75]))
    have hself : setP (va_up (va_up F 56 x.1) 55 x.2) (fun i => F 75 (33 + i)) = va_up (va_up F 56 x.1) 55 x.2 := by
      have := setP_self (F := va_up (va_up F 56 x.1) 55 x.2)
      rw [e75] at this
      exact this
    rw [hself, if_neg (by omega)] at c2
    refine ⟨_, t, u, va_up (va_up F 56 x.1) 55 x.2, J', _, J', ?_, c2, ?_⟩
    · simp (disch := (first | omega | assumption | rfl | (simp (disch := assumption) only [l9_2, l9_4, l9_5, l9_6, l9_7, l9_9, l9_10, l9_11, l9_12, l9_14, l9_15, l9_16, l9_17, l9_51, l9_52, l9_53, l9_55, l9_56, l9_58, l9_61, l9_73, l9_74, l9_75, l9_76, l9_77, l9_79, l9_80, l9_81, l9_82, l9_83, l9_84, l9_85, l10_59, l10_78, l9_D1, l9_D2, l9_D3, l9_D4, l9_T1, l9_T2, l9_T3, l9_T4]; omega) | decide)) only [e68_0, e68_1_c0, e68_1_c1, e68_1_d, e68_28, e68_29, e68_32, e68_33, e68_36, e68_37, e68_40, e68_43, e68_44, e68_45, e68_48, e68_49, e68_52, e68_53, e68_56, e68_59, e68_60, e68_61, ↓reduceIte, Nat.reduceAdd, Nat.reduceMul, nI_add, pk_mul, n_lt_t, n_lt_f, n_le_t, n_le_f, n_eq_f, n_eq_t, n_z_f, n_z_t, n_lz, n_zl, not_true_eq_false, not_false_eq_true, c1, Option.bind_some, Option.toList_some, Option.toList_none, List.cons_append, List.nil_append]
      congr 3
      by_cases hf : fi (fun i => !eqS (rdN (fun i => F 73 (16 + i)) (fun i => F 73 (28 + i)) (N 0) (fun j => T (44 + j)) (F t 4) (i + 1) (fun i => F 75 (33 + i))) (rdN (fun i => F 73 (16 + i)) (fun i => F 73 (28 + i)) (N 0) (fun j => T (44 + j)) (F t 4) i (fun i => F 75 (33 + i))) 12) 61 0 = -9
      · rw [if_pos hf, if_pos hf]
        have h60 := fi_all 61 0 (by omega) hf 60 (by omega) (by omega)
        have h61 : eqS (rdN (fun i => F 73 (16 + i)) (fun i => F 73 (28 + i)) (N 0) (fun j => T (44 + j)) (F t 4) (60 + 1) (fun i => F 75 (33 + i))) (rdN (fun i => F 73 (16 + i)) (fun i => F 73 (28 + i)) (N 0) (fun j => T (44 + j)) (F t 4) 60 (fun i => F 75 (33 + i))) 12 = false := by simpa using h60
        conv => rhs; rw [pe]
        rw [h61]
        simp only [Bool.false_eq_true, if_false]
      · rw [if_neg hf, if_neg hf]
    · refine Rel_same hh (RS_n (fun i => ?_) hS) (fun b i hb => ?_)
      · rw [setP_n (by omega), va_up_n (by omega), va_up_n (by omega), va_up_n (by omega), va_up_n (by omega)]
      · by_cases h75 : b = 75
        · subst h75
          simp only [setP, va_app, if_true]
          split
          · rw [show 33 + (i - 33) = i by omega]
          · rw [if_neg (by omega), if_neg (by omega), if_neg (by omega), if_neg (by omega)]
        · rw [setP_n h75, va_up_n (by omega), va_up_n (by omega), va_up_n (by omega), va_up_n (by omega)]
end S75
