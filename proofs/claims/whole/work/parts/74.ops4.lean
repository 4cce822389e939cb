/-! ===== calls: trains, fills ===== -/
theorem otS_cg {f f' : Nat → Int32} {E T : Nat → Nat} {o : Nat} : ∀ k, (∀ i, i < 4 * k → f i = f' i) → otS f E T o k = otS f' E T o k
  | 0, _ => rfl
  | k + 1, h => by
    simp only [otS]
    rw [otS_cg k (fun i hi => h i (by omega)), ocS_congr 4 (fun i hi => h _ (by omega))]
def trC (F : Nat → Nat → Int32) (E T : Nat → Nat) (o : Nat) (g : Nat → Int32) : Nat → Nat → Int32 := fun b i => if b = 15 then lrS (F 15) E T o 4 i else if b = 16 ∧ i < 16 then nI 0 else if b = 51 then g i else F b i
def trN (N : Nat → Nat) (E T : Nat → Nat) (o : Nat) : Nat → Nat := fun i => if (17 ≤ i ∧ i < 33) ∧ bt o ((i - 17) / 4) = 1 ∧ bt o ((i - 17) % 4) = 1 then nv (hB E T o ((i - 17) / 4)) ((i - 17) % 4) else if 45 ≤ i then 0 else N i
theorem nv_lt (G : Nat → Nat) (i : Nat) : nv G i < 31 := Nat.mod_lt _ (by decide)
theorem trN_o {N E T : Nat → Nat} {o i : Nat} (h : i < 17 ∨ (33 ≤ i ∧ i < 45)) : trN N E T o i = N i := by
  simp only [trN]
  rw [if_neg (by omega), if_neg (by omega)]
theorem trN_s {N E T : Nat → Nat} {o i : Nat} (h : 45 ≤ i) : trN N E T o i = 0 := by
  simp only [trN]
  rw [if_neg (by omega), if_pos h]
theorem trN_l {N E T : Nat → Nat} {o i : Nat} (h : i < 16) : trN N E T o (17 + i) = if bt o (i / 4) = 1 ∧ bt o (i % 4) = 1 then nv (hB E T o (i / 4)) (i % 4) else N (17 + i) := by
  simp only [trN]
  rw [show 17 + i - 17 = i by omega]
  by_cases hc : bt o (i / 4) = 1 ∧ bt o (i % 4) = 1
  · rw [if_pos ⟨by omega, hc⟩, if_pos hc]
  · rw [if_neg (fun z => hc z.2), if_neg (by omega), if_neg hc]
/-- rounds of the class, rounds of the model -/
theorem steady_eq {N N' L L' P P' f V : Nat → Int32} {o : Nat} {B : Nat → Nat} {m : Int32} {mm : Nat} (hm : m = nI mm) (hmm : mm ≤ 12) (hN : agr N N') (hL : ∀ i, i < 16 → L i = L' i) (hP : agr P P') (hr : rg P) : decide (pkS (rnS N L o B m 4 (cp 12 P f, V)).1 12 = pkS (cp 12 P f) 12) = eqS (rdS N' L' o B m 4 P') P' 12 := by
  have hc : agr (cp 12 P f) P' := fun i hi => by simp only [cp]; rw [if_pos hi]; exact hP i hi
  have hcr : rg (cp 12 P f) := fun i hi => by simp only [cp]; rw [if_pos hi]; exact hr i hi
  have h1 := rdS_cg (o := o) (B := B) (m := m) hN hL hc 4 (by omega)
  rw [rnS_rd 4 (by omega), Bool.eq_iff_iff, decide_eq_true_iff, pk_inj (rdS_rg hm hmm hcr 4 (by omega)) hcr, eqS_iff]
  constructor
  · intro h i hi
    rw [← h1 i hi, h i hi]; exact hc i hi
  · intro h i hi
    rw [h1 i hi, h i hi]; exact (hc i hi).symm
theorem rn_eq {N N' L L' P P' f V : Nat → Int32} {o : Nat} {B : Nat → Nat} {m : Int32} {mm : Nat} {s : (Nat → Int32) × (Nat → Int32)} (hs : s = (cp 12 P f, V)) (hm : m = nI mm) (hmm : mm ≤ 12) (hN : agr N N') (hL : ∀ i, i < 16 → L i = L' i) (hP : agr P P') (hr : rg P) (a b : Nat) : (pkS (rnN N L o B m a s).1 12 = pkS (rnN N L o B m b s).1 12) = (eqS (rdN N' L' o B m a P') (rdN N' L' o B m b P') 12 = true) := by
  have hc : agr (cp 12 P f) P' := fun i hi => by simp only [cp]; rw [if_pos hi]; exact hP i hi
  have hcr : rg (cp 12 P f) := fun i hi => by simp only [cp]; rw [if_pos hi]; exact hr i hi
  have h1 := rdN_cg (o := o) (B := B) (m := m) hN hL hc a
  have h2 := rdN_cg (o := o) (B := B) (m := m) hN hL hc b
  subst hs
  rw [rnN_rd, rnN_rd, pk_inj (rdN_rg hm hmm hcr a) (rdN_rg hm hmm hcr b), eqS_iff]
  apply propext
  constructor
  · intro h i hi
    rw [← h1 i hi, ← h2 i hi]; exact h i hi
  · intro h i hi
    rw [h1 i hi, h2 i hi]; exact h i hi
theorem rg_c {P : Nat → Int32} (h : rg P) {i : Nat} (hi : i < 12) : P i = nI (P i).toNatClampNeg ∧ (P i).toNatClampNeg ≤ 12 := by
  obtain ⟨v, h1, h2⟩ := h i hi
  rw [h2, nI_clamp (by omega)]
  exact ⟨rfl, h1⟩
section S74
variable {X : Nat × (Nat → Int32)} {t u : Nat} {F F' G : Nat → Nat → Int32} {J : Nat → Int64} {w : q_M}
theorem trC_n {E T : Nat → Nat} {o b : Nat} {g : Nat → Int32} (h1 : b ≠ 15) (h2 : b ≠ 16) (h3 : b ≠ 51) : trC F E T o g b = F b := by
  funext i
  simp only [trC]
  rw [if_neg h1, if_neg (fun z => h2 z.1), if_neg h3]
theorem op7 (h : Rel t u F) : OK X t u F J 58 [.ref 0] 101 [.ref 72, .null, .null, .null, .null, .null] := by
  have hh := h
  obtain ⟨htu, hT, ⟨N, hD, hM, hok⟩, ⟨x, p, H, hx, hp, h1, h2, h3, hH⟩, hI, hY, hX, hS⟩ := h
  have hO := hD.1
  have hO2 : F 75 0 = nI (N 0) := hM 0 (by omega)
  have ho := hok.1
  by_cases ho0 : N 0 = 0
  · rw [ho0] at hO hO2
    refine OK_q (r := -2) hh ?_ ?_
    · simp (disch := (first | omega | assumption | rfl | (simp (disch := assumption) only [l9_2, l9_4, l9_5, l9_6, l9_7, l9_9, l9_10, l9_11, l9_12, l9_14, l9_15, l9_16, l9_17, l9_51, l9_52, l9_53, l9_55, l9_56, l9_58, l9_61, l9_73, l9_74, l9_75, l9_76, l9_77, l9_79, l9_80, l9_81, l9_82, l9_83, l9_84, l9_85, l10_59, l10_78, l9_D1, l9_D2, l9_D3, l9_D4, l9_T1, l9_T2, l9_T3, l9_T4]; omega) | decide)) only [e58_0, e58_1, e58_4, e58_7, e58_10, e58_12, e58_13, e58_14, e58_17, e58_18, e58_21, e58_24, e58_25, e58_28, e58_29, e58_32, e58_35, ↓reduceIte, Nat.reduceAdd, Nat.reduceMul, nI_add, pk_mul, n_lt_t, n_lt_f, n_le_t, n_le_f, n_eq_f, n_eq_t, n_z_f, n_z_t, n_lz, n_zl, not_true_eq_false, not_false_eq_true, isD_13, hO]
    · simp (disch := (first | omega | assumption | rfl | (simp (disch := assumption) only [l9_2, l9_4, l9_5, l9_6, l9_7, l9_9, l9_10, l9_11, l9_12, l9_14, l9_15, l9_16, l9_17, l9_51, l9_52, l9_53, l9_55, l9_56, l9_58, l9_61, l9_73, l9_74, l9_75, l9_76, l9_77, l9_79, l9_80, l9_81, l9_82, l9_83, l9_84, l9_85, l10_59, l10_78, l9_D1, l9_D2, l9_D3, l9_D4, l9_T1, l9_T2, l9_T3, l9_T4]; omega) | decide)) only [e101_0, e101_1, e101_4, e101_5, e101_6, e101_9, e101_11, e101_12, e101_13, e101_16, e101_17, e101_18, e101_19, e101_21, e101_22, e101_25, e101_26, e101_28, e101_29, e101_32, e101_33, e101_36, e101_37, e101_38, e101_39, e101_42, e101_45, e101_46, e101_49, e101_50, e101_51, e101_52, e101_55, e101_58, e101_59, e101_61, e101_62, e101_66, e101_67, e101_70, e101_72, e101_73, e101_74, e101_76, e101_79, e101_80, e101_82, e101_85, e101_86, e101_87, e101_89, e101_92, e101_95, e101_97, e101_100, e101_101, e101_104, e101_106, e101_107, e101_109, e101_110, e101_113, e101_115, e101_116, e101_117, e101_118, e101_119, e101_120, e101_121, e101_122, e101_125, e101_126, e101_129, e101_130, e101_131, e101_132, e101_133, e101_136, e101_138, e101_139, e101_140, e101_141, e101_142, e101_143, e101_144, e101_146, e101_147, e101_150, e101_153, e101_156, e101_159, e101_160, e101_162, e101_164, e101_167, e101_168, e101_171, e101_173, e101_174, e101_175, e101_176, e101_177, e101_180, e101_183, e101_184, ↓reduceIte, Nat.reduceAdd, Nat.reduceMul, nI_add, pk_mul, n_lt_t, n_lt_f, n_le_t, n_le_f, n_eq_f, n_eq_t, n_z_f, n_z_t, n_lz, n_zl, not_true_eq_false, not_false_eq_true, hO2]
  · have g13 : rmF F x p 13 0 = nI (N 0) := by rw [rm_n hx (by omega), hO]
    have gE : rowN (rmF F x p 14) (fun i => N (1 + i)) 16 31 := fun i hi => by rw [rm_n hx (by omega)]; exact ⟨(hD.2 i hi).1, (hok.2 i hi).1⟩
    have gT : rowN (rmF F x p 16) (fun i => N (45 + i)) 16 31 := fun i hi => by rw [rm_n hx (by omega)]; exact ⟨(hD.2 i hi).2.2.1, (hok.2 i hi).2.2.1⟩
    obtain ⟨g, hs0⟩ := s21 (X := X) (t := t) (u := u) (J := J) g13 ho gE gT
    have hs : q_ex X (21, 0, [.ref 50, .ref 13, .null, .null], [], q_w t u (rmF F x p) J) = some (some (.int (nI (otS (rmF F x p 15) (fun i => N (1 + i)) (fun i => N (45 + i)) (N 0) 4))), q_w t u (trC (rmF F x p) (fun i => N (1 + i)) (fun i => N (45 + i)) (N 0) g) J) := hs0
    generalize hF1 : trC (rmF F x p) (fun i => N (1 + i)) (fun i => N (45 + i)) (N 0) g = F1 at hs
    have e1 : ∀ b, b ≠ 15 → b ≠ 16 → b ≠ 51 → F1 b = rmF F x p b := fun b z1 z2 z3 => by rw [← hF1, trC_n z1 z2 z3]
    have e75 : F1 75 = F 75 := by rw [e1 75 (by omega) (by omega) (by omega), rm_n hx (by omega)]
    have g72 : F1 72 4 = nI p := by rw [e1 72 (by omega) (by omega) (by omega), rm_n hx (by omega), h3]
    have m101 := s101 (X := X) (t := t) (u := u) (J := J) (F := F1) (E := fun i => N (1 + i)) (T := fun i => N (45 + i)) hp g72 (by rw [e75]; exact hO2) ho ho0 (fun i hi => by rw [e75]; exact ⟨mR_at hM (by omega), (hok.2 i hi).1⟩) (fun i hi => by rw [e75]; exact ⟨mR_at hM (by omega), (hok.2 i hi).2.2.1⟩)
    have hot : otS (fun x => F1 75 (17 + x)) (fun i => N (1 + i)) (fun i => N (45 + i)) (N 0) 4 = otS (rmF F x p 15) (fun i => N (1 + i)) (fun i => N (45 + i)) (N 0) 4 := otS_cg 4 (fun i hi => by rw [e75, mR_at hM (by omega), rm_n hx (by omega), (hD.2 i hi).2.1])
    rw [hot] at m101
    refine ⟨nI (otS (rmF F x p 15) (fun i => N (1 + i)) (fun i => N (45 + i)) (N 0) 4), t, u, F1, J, trM (ntM F1 p) (fun i => N (1 + i)) (fun i => N (45 + i)) (N 0), J, ?_, m101, ?_⟩
    · simp (disch := (first | omega | assumption | rfl | (simp (disch := assumption) only [l9_2, l9_4, l9_5, l9_6, l9_7, l9_9, l9_10, l9_11, l9_12, l9_14, l9_15, l9_16, l9_17, l9_51, l9_52, l9_53, l9_55, l9_56, l9_58, l9_61, l9_73, l9_74, l9_75, l9_76, l9_77, l9_79, l9_80, l9_81, l9_82, l9_83, l9_84, l9_85, l10_59, l10_78, l9_D1, l9_D2, l9_D3, l9_D4, l9_T1, l9_T2, l9_T3, l9_T4]; omega) | decide)) only [e58_0, e58_1, e58_4, e58_7, e58_10, e58_12, e58_13, e58_14, e58_17, e58_18, e58_21, e58_24, e58_25, e58_28, e58_29, e58_32, e58_35, ↓reduceIte, Nat.reduceAdd, Nat.reduceMul, nI_add, pk_mul, n_lt_t, n_lt_f, n_le_t, n_le_f, n_eq_f, n_eq_t, n_z_f, n_z_t, n_lz, n_zl, not_true_eq_false, not_false_eq_true, isD_13, hO, s7' hx hp h1 h2, Option.bind_some, Option.toList_some, Option.toList_none, List.cons_append, List.nil_append, hs]
    · refine Rel_mut (F' := F1) (N' := trN N (fun i => N (1 + i)) (fun i => N (45 + i)) (N 0)) htu hT hI hY hX hx hp h3 hH hD hM hok ?_ ?_ ?_ ?_ ?_ ?_
      · intro b i hb hb2
        rw [e1 b (by omega) (by omega) (by omega)]
      · intro b i hb _ _ _ _ _
        simp only [trM]
        rw [if_neg (fun z => hb z.1), if_neg (fun z => hb z.1)]
      · exact RS_n (fun i => by rw [e1 53 (by omega) (by omega) (by omega), rm_n hx (by omega)]) hS
      · refine ⟨?_, fun i hi => ?_⟩
        · rw [e1 13 (by omega) (by omega) (by omega), g13, trN_o (by omega)]
        · obtain ⟨d1, d2, d3, d4⟩ := hD.2 i hi
          refine ⟨?_, ?_, ?_, fun h12 => ?_⟩
          · rw [e1 _ (by omega) (by omega) (by omega), rm_n hx (by omega), d1, trN_o (by omega)]
          · rw [trN_l hi, ← hF1]
            simp only [trC, lrS]
            rw [if_pos trivial, rm_n hx (by omega)]
            by_cases hc : bt (N 0) (i / 4) = 1 ∧ bt (N 0) (i % 4) = 1
            · rw [if_pos ⟨by omega, hc⟩, if_pos hc]
            · rw [if_neg (fun z => hc z.2), if_neg hc]; exact d2
          · rw [trN_s (by omega), ← hF1]
            simp only [trC]
            rw [if_neg (by omega), if_pos ⟨trivial, hi⟩]
          · rw [e1 _ (by omega) (by omega) (by omega), rm_n hx (by omega), d4 h12, trN_o (by omega)]
      · intro i hi
        rw [Nat.zero_add]
        simp only [trM, lrX]
        by_cases c1 : 17 ≤ i ∧ i < 33
        · rw [if_pos ⟨trivial, c1⟩, nt_n (by omega) (by omega), e75]
          have ei : i = 17 + (i - 17) := by omega
          generalize i - 17 = k at ei
          subst ei
          rw [trN_l (by omega), mR_at hM (by omega)]
          by_cases hc : bt (N 0) (k / 4) = 1 ∧ bt (N 0) (k % 4) = 1
          · rw [if_pos ⟨by omega, hc⟩, if_pos hc]
          · rw [if_neg (fun z => hc z.2), if_neg hc]
        · rw [if_neg (by omega)]
          by_cases c2 : 45 ≤ i
          · rw [if_pos ⟨trivial, c2, hi⟩, trN_s c2]
          · rw [if_neg (by omega), nt_n (by omega) (by omega), e75, mR_at hM (by omega), trN_o (by omega)]
      · refine ⟨by rw [trN_o (by omega)]; exact ho, fun i hi => ?_⟩
        obtain ⟨d1, d2, d3, d4⟩ := hok.2 i hi
        refine ⟨by rw [trN_o (by omega)]; exact d1, ?_, by rw [trN_s (by omega)]; omega, fun h12 => by rw [trN_o (by omega)]; exact d4 h12⟩
        rw [trN_l hi]
        split
        · exact nv_lt _ _
        · exact d2
/-- fills: the class's rounds -/
theorem s59_l {o n : Nat} {B : Nat → Nat} (ht : q_isT t = true) (ho : o < 16) (hO : F 13 0 = nI o) (hB : ∀ j, j < 4 → B j < 100 ∧ F (t + 4) j = nI (B j)) (hn : n ≤ 20) : q_ex X (59, 39, [.ref 0, .int (nI n), .int (nI 0)], [], q_w t u F J) = q_ex X (59, 39, [.ref 0, .int (nI n), .int (nI n)], [], q_w t u (va_up (va_up F 17 (rnN (F (t + 3)) (F (t + 2)) o B (F t 4) n (F 17, F 55)).1) 55 (rnN (F (t + 3)) (F (t + 2)) o B (F t 4) n (F 17, F 55)).2) J) := by
  have ha2 := isT_cases ht
  have hl := q_iter0 (X := X) (fun k => (59, 39, [.ref 0, .int (nI n), .int (nI k)], [], q_w t u (va_up (va_up F 17 (rnN (F (t + 3)) (F (t + 2)) o B (F t 4) k (F 17, F 55)).1) 55 (rnN (F (t + 3)) (F (t + 2)) o B (F t 4) k (F 17, F 55)).2) J)) n (fun k hk => ?_)
  · rw [← hl]
    congr 6
    funext b i
    simp only [va_app, rnN]
    grind
  · try dsimp only
    generalize hr : rnN (F (t + 3)) (F (t + 2)) o B (F t 4) k (F 17, F 55) = s
    have hr1 : rnN (F (t + 3)) (F (t + 2)) o B (F t 4) (k + 1) (F 17, F 55) = rnS (F (t + 3)) (F (t + 2)) o B (F t 4) 4 s := by
      rw [← hr]; rfl
    rw [hr1]
    have hB2 : ∀ j, j < 4 → B j < 100 ∧ (va_up (va_up F 17 s.1) 55 s.2) (t + 4) j = nI (B j) := fun j hj => by rw [va_up_n (by omega), va_up_n (by omega)]; exact hB j hj
    have hs := s11 (X := X) (t := t) (u := u) (J := J) ht (p := 17) (Or.inl rfl) ho hB2
    simp (disch := (first | omega | assumption | rfl | (simp (disch := assumption) only [l9_2, l9_4, l9_5, l9_6, l9_7, l9_9, l9_10, l9_11, l9_12, l9_14, l9_15, l9_16, l9_17, l9_51, l9_52, l9_53, l9_55, l9_56, l9_58, l9_61, l9_73, l9_74, l9_75, l9_76, l9_77, l9_79, l9_80, l9_81, l9_82, l9_83, l9_84, l9_85, l10_59, l10_78, l9_D1, l9_D2, l9_D3, l9_D4, l9_T1, l9_T2, l9_T3, l9_T4]; omega) | decide)) only [va_up_n, va_up_s] at hs
    rw [e59_39]
    simp (disch := (first | omega | assumption | rfl | (simp (disch := assumption) only [l9_2, l9_4, l9_5, l9_6, l9_7, l9_9, l9_10, l9_11, l9_12, l9_14, l9_15, l9_16, l9_17, l9_51, l9_52, l9_53, l9_55, l9_56, l9_58, l9_61, l9_73, l9_74, l9_75, l9_76, l9_77, l9_79, l9_80, l9_81, l9_82, l9_83, l9_84, l9_85, l10_59, l10_78, l9_D1, l9_D2, l9_D3, l9_D4, l9_T1, l9_T2, l9_T3, l9_T4]; omega) | decide)) only [e59_0, e59_1, e59_2, e59_5, e59_6, e59_8, e59_11, e59_12, e59_13, e59_14, e59_17, e59_20, e59_23, e59_25, e59_26, e59_27, e59_30, e59_31, e59_34, e59_37, e59_38, e59_40, e59_41, e59_44, e59_45, e59_48, e59_49, e59_52, e59_53, e59_56, e59_59, e59_60, e59_63, e59_66, e59_69, e59_72, e59_75, e59_76, e59_79, e59_80, e59_83, e59_84, e59_87, e59_90, e59_93, e59_94, e59_97, e59_98, ↓reduceIte, Nat.reduceAdd, Nat.reduceMul, nI_add, pk_mul, n_lt_t, n_lt_f, n_le_t, n_le_f, n_eq_f, n_eq_t, n_z_f, n_z_t, n_lz, n_zl, not_true_eq_false, not_false_eq_true, isD_13, va_up_n, va_up_s, hO, hs, Option.bind_some, Option.toList_some, Option.toList_none, List.cons_append, List.nil_append]
    congr 6
    funext b i
    simp only [va_app]
    grind
theorem s59_e {o n : Nat} {B : Nat → Nat} (ht : q_isT t = true) (ho : o < 16) (hO : F 13 0 = nI o) (hB : ∀ j, j < 4 → B j < 100 ∧ F (t + 4) j = nI (B j)) (hn : n ≤ 20) : ∃ G J', q_ex X (59, 39, [.ref 0, .int (nI n), .int (nI n)], [], q_w t u F J) = some (some (.int (bI (decide (pkS (rnS (F (t + 3)) (F (t + 2)) o B (F t 4) 4 (cp 12 (F 17) (F 56), F 55)).1 12 = pkS (cp 12 (F 17) (F 56)) 12)))), q_w t u G J') ∧ ∀ b, b ≠ 55 → b ≠ 56 → G b = F b := by
  have h14 := s14 (X := X) (t := t) (u := u) (J := J) ht ho hO hB
  refine ⟨va_up (va_up (va_up F 56 (cp 12 (F 17) (F 56))) 56 (rnS (F (t + 3)) (F (t + 2)) o B (F t 4) 4 (cp 12 (F 17) (F 56), F 55)).1) 55 (rnS (F (t + 3)) (F (t + 2)) o B (F t 4) 4 (cp 12 (F 17) (F 56), F 55)).2, va_up J 54 (pkS (cp 12 (F 17) (F 56)) 12), ?_, ?_⟩
  · generalize decide (pkS (rnS (F (t + 3)) (F (t + 2)) o B (F t 4) 4 (cp 12 (F 17) (F 56), F 55)).1 12 = pkS (cp 12 (F 17) (F 56)) 12) = d at h14 ⊢
    rw [e59_39]
    cases d
    · rw [bI_f] at h14
      simp (disch := (first | omega | assumption | rfl | (simp (disch := assumption) only [l9_2, l9_4, l9_5, l9_6, l9_7, l9_9, l9_10, l9_11, l9_12, l9_14, l9_15, l9_16, l9_17, l9_51, l9_52, l9_53, l9_55, l9_56, l9_58, l9_61, l9_73, l9_74, l9_75, l9_76, l9_77, l9_79, l9_80, l9_81, l9_82, l9_83, l9_84, l9_85, l10_59, l10_78, l9_D1, l9_D2, l9_D3, l9_D4, l9_T1, l9_T2, l9_T3, l9_T4]; omega) | decide)) only [e59_0, e59_1, e59_2, e59_5, e59_6, e59_8, e59_11, e59_12, e59_13, e59_14, e59_17, e59_20, e59_23, e59_25, e59_26, e59_27, e59_30, e59_31, e59_34, e59_37, e59_38, e59_40, e59_41, e59_44, e59_45, e59_48, e59_49, e59_52, e59_53, e59_56, e59_59, e59_60, e59_63, e59_66, e59_69, e59_72, e59_75, e59_76, e59_79, e59_80, e59_83, e59_84, e59_87, e59_90, e59_93, e59_94, e59_97, e59_98, ↓reduceIte, Nat.reduceAdd, Nat.reduceMul, nI_add, pk_mul, n_lt_t, n_lt_f, n_le_t, n_le_f, n_eq_f, n_eq_t, n_z_f, n_z_t, n_lz, n_zl, not_true_eq_false, not_false_eq_true, isD_13, hO, h14, Option.bind_some, Option.toList_some, Option.toList_none, List.cons_append, List.nil_append, bI_f]
    · rw [bI_t] at h14
      simp (disch := (first | omega | assumption | rfl | (simp (disch := assumption) only [l9_2, l9_4, l9_5, l9_6, l9_7, l9_9, l9_10, l9_11, l9_12, l9_14, l9_15, l9_16, l9_17, l9_51, l9_52, l9_53, l9_55, l9_56, l9_58, l9_61, l9_73, l9_74, l9_75, l9_76, l9_77, l9_79, l9_80, l9_81, l9_82, l9_83, l9_84, l9_85, l10_59, l10_78, l9_D1, l9_D2, l9_D3, l9_D4, l9_T1, l9_T2, l9_T3, l9_T4]; omega) | decide)) only [e59_0, e59_1, e59_2, e59_5, e59_6, e59_8, e59_11, e59_12, e59_13, e59_14, e59_17, e59_20, e59_23, e59_25, e59_26, e59_27, e59_30, e59_31, e59_34, e59_37, e59_38, e59_40, e59_41, e59_44, e59_45, e59_48, e59_49, e59_52, e59_53, e59_56, e59_59, e59_60, e59_63, e59_66, e59_69, e59_72, e59_75, e59_76, e59_79, e59_80, e59_83, e59_84, e59_87, e59_90, e59_93, e59_94, e59_97, e59_98, ↓reduceIte, Nat.reduceAdd, Nat.reduceMul, nI_add, pk_mul, n_lt_t, n_lt_f, n_le_t, n_le_f, n_eq_f, n_eq_t, n_z_f, n_z_t, n_lz, n_zl, not_true_eq_false, not_false_eq_true, isD_13, hO, h14, Option.bind_some, Option.toList_some, Option.toList_none, List.cons_append, List.nil_append, bI_t]
  · intro b h1 h2
    rw [va_up_n h1, va_up_n h2, va_up_n h2]
end S74
