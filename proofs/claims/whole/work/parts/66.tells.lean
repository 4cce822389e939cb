/-! ===== the model: tells ===== -/
/-- a row as at first, EARS as T -/
def nw (T : Nat → Nat) (i : Nat) : Nat := if 1 ≤ i ∧ i < 17 then T (i - 1) else if 17 ≤ i ∧ i < 33 then (if (i - 17) % 5 = 0 then 1 else 0) else 0
section S66
variable {X : Nat × (Nat → Int32)} {t u : Nat} {F : Nat → Nat → Int32} {J : Nat → Int64} {w : q_M} {x : Nat → Nat} {l : Nat}
theorem s146 {q : Nat} (ht : mt F x l) (hql : q < l) : ∃ q' F', q_ex X (146, 0, [.ref 72, .null, .null, .null], [], q_w t u (ms F x l q 0) J) = some (none, q_w t u (ms F' x l q' (iI x l q).2.2.2.2) J) ∧ ((iI x l q).2.2.2.2 = 0 → q' = sk x l (iI x l q).2.2.2.1 ∧ F' = q_up F 74 (iI x l q).2.1 (nI (iI x l q).2.2.1)) ∧ (∀ b, b ≠ 74 → F' b = F b) ∧ q' ≤ l := by
  by_cases k1 : x q = 101
  · exact s146_e ht hql k1
  · by_cases k2 : x q = 110
    · exact s146_n ht hql k2
    · by_cases k3 : x q = 103
      · exact s146_g ht hql k3
      · by_cases k4 : x q = 98
        · exact s146_b ht hql k4
        · by_cases k5 : x q = 109
          · exact s146_m ht hql k5
          · have hn : ¬ isK (x q) := by rintro (z | z | z | z | z) <;> omega
            have hi : iI x l q = (0, 0, 0, q, q + 1) := by
              unfold iI
              rw [if_neg hn]
            refine ⟨q, F, ?_, ?_, fun _ _ => rfl, by omega⟩
            · rw [hi]; exact s146_o ht hql hn
            · rw [hi]; intro z; simp at z
theorem mt_n {G : Nat → Nat → Int32} (ht : mt F x l) (h1 : G 72 = F 72) (h2 : G 85 = F 85) : mt G x l := by
  unfold mt at *
  rw [h1, h2]; exact ht
theorem s147_l (hl : l ≤ 160) : ∀ (m q f n : Nat) (T : Nat → Nat) (F : Nat → Nat → Int32), mt F x l → q ≤ l → (f = 0 → l ≤ m + q) → f ≤ 161 → (f = 0 → ∀ i, i < 49 → F 74 i = nI (T i)) →
    ∃ F' q', q_ex X (147, 24, [.ref 72, .int (nI n), .null], [], q_w t u (ms F x l q f) J) = q_ex X (147, 50, [.ref 72, .int (nI (lp x l m q f n T).2.1), .null], [], q_w t u (ms F' x l q' (lp x l m q f n T).1) J) ∧ ((lp x l m q f n T).1 = 0 → ∀ i, i < 49 → F' 74 i = nI ((lp x l m q f n T).2.2 i)) ∧ (∀ b, b ≠ 74 → F' b = F b) ∧ (lp x l m q f n T).1 ≤ 161
  | m, q, f, n, T, F, ht, hq, hm, hf, hT => by
    by_cases hf0 : f = 0
    · subst hf0
      have hkl := tkn_le (x := x) (l := l) (q := q) ht.2.2.2
      by_cases hql : q < l
      · obtain ⟨m', rfl⟩ : ∃ m', m = m' + 1 := ⟨m - 1, by have := hm rfl; omega⟩
        have hi := iI_le (x := x) hl hql
        have hk0 : tkn x l q ≠ 0 := fun z => (tok0 hq).mp z hql
        obtain ⟨q1, F1, e1, e2, e3, e4⟩ := s146 (X := X) (t := t) (u := u) (J := J) ht hql
        have ht1 := mt_n ht (e3 72 (by omega)) (e3 85 (by omega))
        have hsg := sk_ge (x := x) (l := l) (p := (iI x l q).2.2.2.1)
        have hlp : lp x l (m' + 1) q 0 n T = lp x l m' (sk x l (iI x l q).2.2.2.1) (iI x l q).2.2.2.2 (n + 1) (if (iI x l q).1 = 1 then updN T (iI x l q).2.1 (iI x l q).2.2.1 else T) := by
          rw [lp, if_pos ⟨hql, rfl⟩]
        have hstep : q_ex X (147, 24, [.ref 72, .int (nI n), .null], [], q_w t u (ms F x l q 0) J) = q_ex X (147, 24, [.ref 72, .int (nI (n + 1)), .null], [], q_w t u (ms F1 x l q1 (iI x l q).2.2.2.2) J) := by
          rw [e147_24]
          simp (disch := (first | omega | assumption | rfl | (simp (disch := assumption) only [l9_2, l9_4, l9_5, l9_6, l9_7, l9_9, l9_10, l9_11, l9_12, l9_14, l9_15, l9_16, l9_17, l9_51, l9_52, l9_53, l9_55, l9_56, l9_58, l9_61, l9_73, l9_74, l9_75, l9_76, l9_77, l9_79, l9_80, l9_81, l9_82, l9_83, l9_84, l9_85, l10_59, l10_78, l9_D1, l9_D2, l9_D3, l9_D4, l9_T1, l9_T2, l9_T3, l9_T4]; omega) | decide)) only [e147_0, e147_1, e147_4, e147_7, e147_8, e147_9, e147_12, e147_13, e147_15, e147_18, e147_19, e147_20, e147_21, e147_25, e147_28, e147_30, e147_33, e147_34, e147_37, e147_40, e147_41, e147_44, e147_47, e147_51, e147_54, e147_56, e147_59, e147_61, e147_62, e147_65, e147_66, e147_67, e147_68, e147_70, e147_72, e147_75, e147_76, e147_79, e147_80, e147_81, e147_84, e147_85, e147_86, e147_87, e147_90, e147_93, e147_94, e147_95, e147_98, e147_99, e147_102, e147_103, ↓reduceIte, Nat.reduceAdd, Nat.reduceMul, nI_add, pk_mul, n_lt_t, n_lt_f, n_le_t, n_le_f, n_eq_f, n_eq_t, n_z_f, n_z_t, n_lz, n_zl, not_true_eq_false, not_false_eq_true, ms_20, ms_18, fM_0, e1, Option.bind_some, Option.toList_some, Option.toList_none, List.cons_append, List.nil_append]
        by_cases hf1 : (iI x l q).2.2.2.2 = 0
        · obtain ⟨g1, g2⟩ := e2 hf1
          have hfl : (iI x l q).1 = 1 := hi.2.2.2.2.1.mpr hf1
          obtain ⟨F', q', i1, i2, i3, i4⟩ := s147_l hl m' (sk x l (iI x l q).2.2.2.1) (iI x l q).2.2.2.2 (n + 1) (if (iI x l q).1 = 1 then updN T (iI x l q).2.1 (iI x l q).2.2.1 else T) F1 ht1 (by rw [← g1]; exact e4) (fun _ => by have := hi.2.2.2.2.2.1 hf1; have := hm rfl; omega) hi.2.2.2.1 (fun _ i hi' => by
            rw [if_pos hfl, g2]
            simp only [q_app, updN]
            by_cases hc : i = (iI x l q).2.1
            · rw [if_pos ⟨trivial, hc⟩, if_pos hc]
            · rw [if_neg (fun z => hc z.2), if_neg hc]; exact hT rfl i hi')
          refine ⟨F', q', ?_, ?_, ?_, ?_⟩
          · rw [hlp, ← i1, hstep, g1]
          · rw [hlp]; exact i2
          · intro b hb; rw [i3 b hb, e3 b hb]
          · rw [hlp]; exact i4
        · have hst : lp x l m' (sk x l (iI x l q).2.2.2.1) (iI x l q).2.2.2.2 (n + 1) (if (iI x l q).1 = 1 then updN T (iI x l q).2.1 (iI x l q).2.2.1 else T) = ((iI x l q).2.2.2.2, n + 1, (if (iI x l q).1 = 1 then updN T (iI x l q).2.1 (iI x l q).2.2.1 else T)) := lp_stop (fun z => hf1 z.2)
          rw [hlp, hst]
          refine ⟨F1, q1, ?_, fun z => absurd z hf1, e3, hi.2.2.2.1⟩
          rw [hstep, e147_24]
          have h161 := hi.2.2.2.1
          simp (disch := (first | omega | assumption | rfl | (simp (disch := assumption) only [l9_2, l9_4, l9_5, l9_6, l9_7, l9_9, l9_10, l9_11, l9_12, l9_14, l9_15, l9_16, l9_17, l9_51, l9_52, l9_53, l9_55, l9_56, l9_58, l9_61, l9_73, l9_74, l9_75, l9_76, l9_77, l9_79, l9_80, l9_81, l9_82, l9_83, l9_84, l9_85, l10_59, l10_78, l9_D1, l9_D2, l9_D3, l9_D4, l9_T1, l9_T2, l9_T3, l9_T4]; omega) | decide)) only [e147_0, e147_1, e147_4, e147_7, e147_8, e147_9, e147_12, e147_13, e147_15, e147_18, e147_19, e147_20, e147_21, e147_25, e147_28, e147_30, e147_33, e147_34, e147_37, e147_40, e147_41, e147_44, e147_47, e147_51, e147_54, e147_56, e147_59, e147_61, e147_62, e147_65, e147_66, e147_67, e147_68, e147_70, e147_72, e147_75, e147_76, e147_79, e147_80, e147_81, e147_84, e147_85, e147_86, e147_87, e147_90, e147_93, e147_94, e147_95, e147_98, e147_99, e147_102, e147_103, ↓reduceIte, Nat.reduceAdd, Nat.reduceMul, nI_add, pk_mul, n_lt_t, n_lt_f, n_le_t, n_le_f, n_eq_f, n_eq_t, n_z_f, n_z_t, n_lz, n_zl, not_true_eq_false, not_false_eq_true, ms_20, fM_s hf1, n_m9]
      · have hst : lp x l m q 0 n T = (0, n, T) := lp_stop (fun z => hql z.1)
        have hk0 : tkn x l q = 0 := (tok0 hq).mpr hql
        rw [hst]
        refine ⟨F, q, ?_, hT, fun _ _ => rfl, by simp⟩
        rw [e147_24]
        simp (disch := (first | omega | assumption | rfl | (simp (disch := assumption) only [l9_2, l9_4, l9_5, l9_6, l9_7, l9_9, l9_10, l9_11, l9_12, l9_14, l9_15, l9_16, l9_17, l9_51, l9_52, l9_53, l9_55, l9_56, l9_58, l9_61, l9_73, l9_74, l9_75, l9_76, l9_77, l9_79, l9_80, l9_81, l9_82, l9_83, l9_84, l9_85, l10_59, l10_78, l9_D1, l9_D2, l9_D3, l9_D4, l9_T1, l9_T2, l9_T3, l9_T4]; omega) | decide)) only [e147_0, e147_1, e147_4, e147_7, e147_8, e147_9, e147_12, e147_13, e147_15, e147_18, e147_19, e147_20, e147_21, e147_25, e147_28, e147_30, e147_33, e147_34, e147_37, e147_40, e147_41, e147_44, e147_47, e147_51, e147_54, e147_56, e147_59, e147_61, e147_62, e147_65, e147_66, e147_67, e147_68, e147_70, e147_72, e147_75, e147_76, e147_79, e147_80, e147_81, e147_84, e147_85, e147_86, e147_87, e147_90, e147_93, e147_94, e147_95, e147_98, e147_99, e147_102, e147_103, ↓reduceIte, Nat.reduceAdd, Nat.reduceMul, nI_add, pk_mul, n_lt_t, n_lt_f, n_le_t, n_le_f, n_eq_f, n_eq_t, n_z_f, n_z_t, n_lz, n_zl, not_true_eq_false, not_false_eq_true, ms_20, ms_18, fM_0, hk0]
    · have hst : lp x l m q f n T = (f, n, T) := lp_stop (fun z => hf0 z.2)
      rw [hst]
      refine ⟨F, q, ?_, hT, fun _ _ => rfl, hf⟩
      rw [e147_24]
      simp (disch := (first | omega | assumption | rfl | (simp (disch := assumption) only [l9_2, l9_4, l9_5, l9_6, l9_7, l9_9, l9_10, l9_11, l9_12, l9_14, l9_15, l9_16, l9_17, l9_51, l9_52, l9_53, l9_55, l9_56, l9_58, l9_61, l9_73, l9_74, l9_75, l9_76, l9_77, l9_79, l9_80, l9_81, l9_82, l9_83, l9_84, l9_85, l10_59, l10_78, l9_D1, l9_D2, l9_D3, l9_D4, l9_T1, l9_T2, l9_T3, l9_T4]; omega) | decide)) only [e147_0, e147_1, e147_4, e147_7, e147_8, e147_9, e147_12, e147_13, e147_15, e147_18, e147_19, e147_20, e147_21, e147_25, e147_28, e147_30, e147_33, e147_34, e147_37, e147_40, e147_41, e147_44, e147_47, e147_51, e147_54, e147_56, e147_59, e147_61, e147_62, e147_65, e147_66, e147_67, e147_68, e147_70, e147_72, e147_75, e147_76, e147_79, e147_80, e147_81, e147_84, e147_85, e147_86, e147_87, e147_90, e147_93, e147_94, e147_95, e147_98, e147_99, e147_102, e147_103, ↓reduceIte, Nat.reduceAdd, Nat.reduceMul, nI_add, pk_mul, n_lt_t, n_lt_f, n_le_t, n_le_f, n_eq_f, n_eq_t, n_z_f, n_z_t, n_lz, n_zl, not_true_eq_false, not_false_eq_true, ms_20, fM_s hf0, n_m9]
theorem m5_mk {a f : Int32} : q_up (q_up F 72 16 a) 72 20 f = m5 F a (F 72 17) (F 72 18) (F 72 19) f := by
  funext b i
  simp only [q_app, m5]
  grind
/-- from the head of the last part on -/
theorem s147_e {q : Nat} {T : Nat → Nat} {n : Int32} (h74 : ∀ i, i < 49 → F 74 i = nI (T i)) : q_ex X (147, 67, [.ref 72, .int n, .null], [], q_w t u (ms F x l q 0) J) = some (some (.int n), q_w t u (stM (q_up (fun b i => if b = 73 ∧ i < 49 then nI (T i) else ms F x l q 0 b i) 72 15 (nI 0))) J) := by
  have h := q_iter0 (X := X) (fun k => (147, 69, [.ref 72, .int n, .int (nI k)], [], q_w t u (fun b i => if b = 73 ∧ i < k then nI (T i) else ms F x l q 0 b i) J)) 49 (fun k hk => ?_)
  · simp only [e147_67, e147_68]
    have h' : q_ex X (147, 69, [.ref 72, .int n, .int (nI 0)], [], q_w t u (ms F x l q 0) J) = _ := Eq.trans (by congr 6; funext b i; grind) h
    rw [h', e147_69]
    simp (disch := (first | omega | assumption | rfl | (simp (disch := assumption) only [l9_2, l9_4, l9_5, l9_6, l9_7, l9_9, l9_10, l9_11, l9_12, l9_14, l9_15, l9_16, l9_17, l9_51, l9_52, l9_53, l9_55, l9_56, l9_58, l9_61, l9_73, l9_74, l9_75, l9_76, l9_77, l9_79, l9_80, l9_81, l9_82, l9_83, l9_84, l9_85, l10_59, l10_78, l9_D1, l9_D2, l9_D3, l9_D4, l9_T1, l9_T2, l9_T3, l9_T4]; omega) | decide)) only [e147_0, e147_1, e147_4, e147_7, e147_8, e147_9, e147_12, e147_13, e147_15, e147_18, e147_19, e147_20, e147_21, e147_25, e147_28, e147_30, e147_33, e147_34, e147_37, e147_40, e147_41, e147_44, e147_47, e147_51, e147_54, e147_56, e147_59, e147_61, e147_62, e147_65, e147_66, e147_67, e147_68, e147_70, e147_72, e147_75, e147_76, e147_79, e147_80, e147_81, e147_84, e147_85, e147_86, e147_87, e147_90, e147_93, e147_94, e147_95, e147_98, e147_99, e147_102, e147_103, ↓reduceIte, Nat.reduceAdd, Nat.reduceMul, nI_add, pk_mul, n_lt_t, n_lt_f, n_le_t, n_le_f, n_eq_f, n_eq_t, n_z_f, n_z_t, n_lz, n_zl, not_true_eq_false, not_false_eq_true, s91, Option.bind_some, Option.toList_some, Option.toList_none, List.cons_append, List.nil_append]
  · try dsimp only
    rw [e147_69]
    have h1 : ms F x l q 0 74 k = nI (T k) := by rw [ms_n (by omega)]; exact h74 k hk
    simp (disch := (first | omega | assumption | rfl | (simp (disch := assumption) only [l9_2, l9_4, l9_5, l9_6, l9_7, l9_9, l9_10, l9_11, l9_12, l9_14, l9_15, l9_16, l9_17, l9_51, l9_52, l9_53, l9_55, l9_56, l9_58, l9_61, l9_73, l9_74, l9_75, l9_76, l9_77, l9_79, l9_80, l9_81, l9_82, l9_83, l9_84, l9_85, l10_59, l10_78, l9_D1, l9_D2, l9_D3, l9_D4, l9_T1, l9_T2, l9_T3, l9_T4]; omega) | decide)) only [e147_0, e147_1, e147_4, e147_7, e147_8, e147_9, e147_12, e147_13, e147_15, e147_18, e147_19, e147_20, e147_21, e147_25, e147_28, e147_30, e147_33, e147_34, e147_37, e147_40, e147_41, e147_44, e147_47, e147_51, e147_54, e147_56, e147_59, e147_61, e147_62, e147_65, e147_66, e147_67, e147_68, e147_70, e147_72, e147_75, e147_76, e147_79, e147_80, e147_81, e147_84, e147_85, e147_86, e147_87, e147_90, e147_93, e147_94, e147_95, e147_98, e147_99, e147_102, e147_103, ↓reduceIte, Nat.reduceAdd, Nat.reduceMul, nI_add, pk_mul, n_lt_t, n_lt_f, n_le_t, n_le_f, n_eq_f, n_eq_t, n_z_f, n_z_t, n_lz, n_zl, not_true_eq_false, not_false_eq_true, Nat.reduceEqDiff, Nat.reduceLT, Nat.reduceLeDiff, false_and, and_false, true_and, and_true, or_false, false_or, and_self, h1]
    congr 6
    funext b i
    simp only [q_app]
    grind
theorem s147 (ht : mt F x l) :
    ((lp x l l (sk x l 0) 0 0 bg).1 ≠ 0 → ∃ F', q_ex X (147, 0, [.ref 72, .null, .null], [], q_w t u F J) = some (some (.int (rI (lp x l l (sk x l 0) 0 0 bg).1 (lp x l l (sk x l 0) 0 0 bg).2.1)), q_w t u F' J) ∧ ∀ b i, b ≠ 74 → (b = 72 → i < 16) → F' b i = F b i) ∧
    ((lp x l l (sk x l 0) 0 0 bg).1 = 0 → ∃ F', q_ex X (147, 0, [.ref 72, .null, .null], [], q_w t u F J) = some (some (.int (rI (lp x l l (sk x l 0) 0 0 bg).1 (lp x l l (sk x l 0) 0 0 bg).2.1)), q_w t u F' J) ∧ (∀ i, i < 49 → F' 73 i = nI ((lp x l l (sk x l 0) 0 0 bg).2.2 i)) ∧ (∀ i, i < 61 → F' 75 i = nI (nw (lp x l l (sk x l 0) 0 0 bg).2.2 i)) ∧ F' 72 4 = nI 0 ∧ F' 72 10 = nI 0 ∧ F' 72 15 = nI 0 ∧ F' 78 0 = nI 0 ∧ F' 78 1 = nI 0 ∧ ∀ b, b ≠ 72 → b ≠ 73 → b ≠ 74 → b ≠ 75 → b ≠ 78 → F' b = F b) := by
  have hl := ht.1
  have hs0 := sk_le (x := x) (l := l) (p := 0) (by omega)
  have hb72 : bgM F 74 72 = F 72 := by funext i; simp only [bgM]; rw [if_neg (by omega)]
  have hb85 : bgM F 74 85 = F 85 := by funext i; simp only [bgM]; rw [if_neg (by omega)]
  have htb := mt_n ht hb72 hb85
  have hn := s142 (X := X) (t := t) (u := u) (J := J) (F := bgM F 74) (x := x) (l := l) (q := bgM F 74 72 17) (k := bgM F 74 72 18) (v := bgM F 74 72 19) (p := 0) (e := 0) htb (by omega)
  rw [fM_0] at hn
  obtain ⟨F1, q1, i1, i2, i3, i4⟩ := s147_l (X := X) (t := t) (u := u) (J := J) (x := x) hl l (sk x l 0) 0 0 bg (bgM F 74) htb hs0 (fun _ => by omega) (by omega) (fun _ i hi => by simp only [bgM]; rw [if_pos ⟨trivial, hi⟩])
  have h0 : q_ex X (147, 0, [.ref 72, .null, .null], [], q_w t u F J) = q_ex X (147, 50, [.ref 72, .int (nI (lp x l l (sk x l 0) 0 0 bg).2.1), .null], [], q_w t u (ms F1 x l q1 (lp x l l (sk x l 0) 0 0 bg).1) J) := by
    simp (disch := (first | omega | assumption | rfl | (simp (disch := assumption) only [l9_2, l9_4, l9_5, l9_6, l9_7, l9_9, l9_10, l9_11, l9_12, l9_14, l9_15, l9_16, l9_17, l9_51, l9_52, l9_53, l9_55, l9_56, l9_58, l9_61, l9_73, l9_74, l9_75, l9_76, l9_77, l9_79, l9_80, l9_81, l9_82, l9_83, l9_84, l9_85, l10_59, l10_78, l9_D1, l9_D2, l9_D3, l9_D4, l9_T1, l9_T2, l9_T3, l9_T4]; omega) | decide)) only [e147_0, e147_1, e147_4, e147_7, e147_8, e147_9, e147_12, e147_13, e147_15, e147_18, e147_19, e147_20, e147_21, e147_25, e147_28, e147_30, e147_33, e147_34, e147_37, e147_40, e147_41, e147_44, e147_47, e147_51, e147_54, e147_56, e147_59, e147_61, e147_62, e147_65, e147_66, e147_67, e147_68, e147_70, e147_72, e147_75, e147_76, e147_79, e147_80, e147_81, e147_84, e147_85, e147_86, e147_87, e147_90, e147_93, e147_94, e147_95, e147_98, e147_99, e147_102, e147_103, s90, Option.bind_some, Option.toList_some, Option.toList_none, List.cons_append, List.nil_append, m5_mk, hn]
    exact i1
  rw [h0]
  constructor
  · intro hf
    refine ⟨ms F1 x l q1 (lp x l l (sk x l 0) 0 0 bg).1, ?_, ?_⟩
    · have hr : rI (lp x l l (sk x l 0) 0 0 bg).1 (lp x l l (sk x l 0) 0 0 bg).2.1 = -10 - nI ((lp x l l (sk x l 0) 0 0 bg).1 - 1) := if_neg hf
      rw [hr]
      simp (disch := (first | omega | assumption | rfl | (simp (disch := assumption) only [l9_2, l9_4, l9_5, l9_6, l9_7, l9_9, l9_10, l9_11, l9_12, l9_14, l9_15, l9_16, l9_17, l9_51, l9_52, l9_53, l9_55, l9_56, l9_58, l9_61, l9_73, l9_74, l9_75, l9_76, l9_77, l9_79, l9_80, l9_81, l9_82, l9_83, l9_84, l9_85, l10_59, l10_78, l9_D1, l9_D2, l9_D3, l9_D4, l9_T1, l9_T2, l9_T3, l9_T4]; omega) | decide)) only [e147_0, e147_1, e147_4, e147_7, e147_8, e147_9, e147_12, e147_13, e147_15, e147_18, e147_19, e147_20, e147_21, e147_25, e147_28, e147_30, e147_33, e147_34, e147_37, e147_40, e147_41, e147_44, e147_47, e147_50, e147_51, e147_54, e147_56, e147_59, e147_61, e147_62, e147_65, e147_66, e147_67, e147_68, e147_70, e147_72, e147_75, e147_76, e147_79, e147_80, e147_81, e147_84, e147_85, e147_86, e147_87, e147_90, e147_93, e147_94, e147_95, e147_98, e147_99, e147_102, e147_103, ↓reduceIte, Nat.reduceAdd, Nat.reduceMul, nI_add, pk_mul, n_lt_t, n_lt_f, n_le_t, n_le_f, n_eq_f, n_eq_t, n_z_f, n_z_t, n_lz, n_zl, not_true_eq_false, not_false_eq_true, ms_20, fM_s hf, n_m9]
    · intro b i hb h72
      by_cases hb2 : b = 72
      · subst hb2
        have hi := h72 rfl
        simp only [ms, m5, if_true]
        rw [if_neg (by omega), if_neg (by omega), if_neg (by omega), if_neg (by omega), if_neg (by omega), i3 72 (by omega), hb72]
      · rw [ms_n hb2, i3 b hb]
        simp only [bgM]
        rw [if_neg (fun z => hb z.1)]
  · intro hf
    have h74 := i2 hf
    rw [hf]
    refine ⟨stM (q_up (fun b i => if b = 73 ∧ i < 49 then nI ((lp x l l (sk x l 0) 0 0 bg).2.2 i) else ms F1 x l q1 0 b i) 72 15 (nI 0)), ?_, ?_, ?_, ?_, ?_, ?_, ?_, ?_, ?_⟩
    · have hr : rI 0 (lp x l l (sk x l 0) 0 0 bg).2.1 = nI (lp x l l (sk x l 0) 0 0 bg).2.1 := rfl
      rw [hr, ← s147_e (X := X) (t := t) (u := u) (J := J) h74]
      simp (disch := (first | omega | assumption | rfl | (simp (disch := assumption) only [l9_2, l9_4, l9_5, l9_6, l9_7, l9_9, l9_10, l9_11, l9_12, l9_14, l9_15, l9_16, l9_17, l9_51, l9_52, l9_53, l9_55, l9_56, l9_58, l9_61, l9_73, l9_74, l9_75, l9_76, l9_77, l9_79, l9_80, l9_81, l9_82, l9_83, l9_84, l9_85, l10_59, l10_78, l9_D1, l9_D2, l9_D3, l9_D4, l9_T1, l9_T2, l9_T3, l9_T4]; omega) | decide)) only [e147_50, e147_51, e147_54, e147_56, ↓reduceIte, Nat.reduceAdd, Nat.reduceMul, nI_add, pk_mul, n_lt_t, n_lt_f, n_le_t, n_le_f, n_eq_f, n_eq_t, n_z_f, n_z_t, n_lz, n_zl, not_true_eq_false, not_false_eq_true, ms_20, fM_0]
    · intro i hi
      simp only [stM, q_app]
      grind
    · intro i hi
      simp only [stM, q_app, nw]
      rw [if_pos ⟨trivial, hi⟩]
      by_cases c1 : 1 ≤ i ∧ i < 17
      · rw [if_pos c1, if_pos c1, if_neg (by omega), if_pos ⟨trivial, by omega⟩]
      · rw [if_neg c1, if_neg c1]
        by_cases c2 : 17 ≤ i ∧ i < 33
        · rw [if_pos c2, if_pos c2]
        · rw [if_neg c2, if_neg c2]
    · simp only [stM, q_app]; grind
    · simp only [stM, q_app]; grind
    · simp only [stM, q_app]; grind
    · simp only [stM, q_app]; grind
    · simp only [stM, q_app]; grind
    · intro b h1 h2 h3 h4 h5
      funext i
      simp only [stM, q_app]
      rw [if_neg (by omega), if_neg (by omega), if_neg (by omega), if_neg (by omega), if_neg (by omega), ms_n h1, i3 b h3]
      simp only [bgM]
      rw [if_neg (by omega)]
end S66
