/-! ===== the model: may, which, ask; they are the class's ===== -/
def myS (A S W : Nat → Nat) (o j i : Nat) : Nat → Nat
  | 0 => if bt o j = 1 ∧ bt o i = 1 then 1 else 0
  | k + 1 => if myS A S W o j i k = 1 ∧ (if A k = j ∧ bt (S k) i = 1 then 0 else 1) = W k then 1 else 0
theorem myS_lt {A S W : Nat → Nat} {o j i : Nat} : ∀ k, myS A S W o j i k < 2
  | 0 => by simp only [myS]; exact ite_lt2
  | k + 1 => by simp only [myS]; exact ite_lt2
theorem bt_tb (y k : Nat) : bt y k = (y.testBit k).toNat := by
  simp only [bt, Nat.testBit_eq_decide_div_mod_eq]
  have := Nat.mod_two_eq_zero_or_one (y / 2 ^ k)
  rcases this with h | h <;> simp [h]
theorem bt_and {x y k : Nat} : bt (x &&& y) k = if bt x k = 1 ∧ bt y k = 1 then 1 else 0 := by
  rw [bt_tb, bt_tb, bt_tb, Nat.testBit_and]
  cases x.testBit k <;> cases y.testBit k <;> simp
theorem bt_suI {o j i : Nat} (ho : o < 16) (hj : j < 4) (hi : i < 4) : bt (suI o 4) (4 * j + i) = if bt o j = 1 ∧ bt o i = 1 then 1 else 0 := by
  have h : ∀ o, o < 16 → ∀ j, j < 4 → ∀ i, i < 4 → bt (suI o 4) (4 * j + i) = if bt o j = 1 ∧ bt o i = 1 then 1 else 0 := by decide +kernel
  exact h o ho j hj i hi
theorem bt_sh {s a j i : Nat} (hs : s < 16) (ha : a < 4) (hj : j < 4) (hi : i < 4) : bt (s * 2 ^ (4 * a)) (4 * j + i) = if a = j then bt s i else 0 := by
  have h : ∀ s, s < 16 → ∀ a, a < 4 → ∀ j, j < 4 → ∀ i, i < 4 → bt (s * 2 ^ (4 * a)) (4 * j + i) = if a = j then bt s i else 0 := by decide +kernel
  exact h s hs a ha j hj i hi
theorem bt_no {s a j i : Nat} (hs : s < 16) (ha : a < 4) (hj : j < 4) (hi : i < 4) : bt (s * 2 ^ (4 * a) ^^^ 4294967295) (4 * j + i) = if a = j ∧ bt s i = 1 then 0 else 1 := by
  have h : ∀ s, s < 16 → ∀ a, a < 4 → ∀ j, j < 4 → ∀ i, i < 4 → bt (s * 2 ^ (4 * a) ^^^ 4294967295) (4 * j + i) = if a = j ∧ bt s i = 1 then 0 else 1 := by decide +kernel
  exact h s hs a ha j hj i hi
theorem su_my {A S W : Nat → Nat} {o j i : Nat} (ho : o < 16) (hj : j < 4) (hi : i < 4) : ∀ k, (∀ n, n < k → A n < 4 ∧ S n < 16 ∧ W n < 2) → bt (suT (fun n => S n * 2 ^ (4 * A n)) W (suI o 4) k) (4 * j + i) = myS A S W o j i k
  | 0, _ => by simp only [suT, myS]; exact bt_suI ho hj hi
  | k + 1, h => by
    have ih := su_my (A := A) (S := S) (W := W) ho hj hi k (fun n hn => h n (by omega))
    obtain ⟨h1, h2, h3⟩ := h k (by omega)
    have hb := bt_lt (S k) i
    simp only [suT, bt_and, ih, myS]
    by_cases hw : W k = 0
    · rw [if_pos hw, hw, bt_sh h2 h1 hj hi]
      by_cases ha : A k = j
      · have e1 : ((if A k = j ∧ bt (S k) i = 1 then 0 else 1) = 0) ↔ bt (S k) i = 1 := by
          by_cases hz : bt (S k) i = 1
          · simp [ha, hz]
          · simp [hz]
        simp only [ha, if_true, true_and] at e1 ⊢
        simp only [e1]
      · simp [ha]
    · have hw1 : W k = 1 := by omega
      rw [if_neg hw, hw1, bt_no h2 h1 hj hi]
/-- which: the first -/
def fsM (e : Nat) : Nat → Int32
  | 0 => -9
  | k + 1 => if bt e k = 1 then (if pcS e k = 0 then nI k else fsM e k) else fsM e k
theorem pcS_0 {e : Nat} : ∀ k, pcS e k = 0 ↔ ∀ i, i < k → bt e i = 0
  | 0 => by simp [pcS]
  | k + 1 => by
    simp only [pcS, Nat.add_eq_zero_iff, pcS_0 k]
    constructor
    · rintro ⟨h1, h2⟩ i hi
      by_cases hik : i = k
      · subst hik; exact h2
      · exact h1 i (by omega)
    · intro h
      exact ⟨fun i hi => h i (by omega), h k (by omega)⟩
theorem fsM_n {e : Nat} : ∀ k, pcS e k = 0 → fsM e k = -9
  | 0, _ => rfl
  | k + 1, h => by
    have h1 := (pcS_0 (k + 1)).mp h
    have h2 := h1 k (by omega)
    simp only [fsM, h2, Nat.zero_ne_one, if_false]
    exact fsM_n k ((pcS_0 k).mpr (fun i hi => h1 i (by omega)))
theorem fsM_f {e k : Nat} (h0 : pcS e k = 0) (h1 : bt e k = 1) : ∀ n, fsM e (k + 1 + n) = nI k
  | 0 => by simp only [Nat.add_zero, fsM, h1, h0, if_true]
  | n + 1 => by
    have ih := fsM_f h0 h1 n
    have h2 : pcS e (k + 1 + n) ≠ 0 := fun z => by
      have := (pcS_0 (k + 1 + n)).mp z k (by omega)
      omega
    show fsM e (k + 1 + n + 1) = nI k
    simp only [fsM, h2, if_false, ih, ite_self]
theorem fsM_ls {e : Nat} : ∀ n k, n + k = 16 → pcS e k = 0 → lsS e n k = fsM e 16
  | 0, k, hk, h0 => by
    obtain rfl : k = 16 := by omega
    rw [fsM_n 16 h0]; rfl
  | n + 1, k, hk, h0 => by
    have hb := bt_lt e k
    simp only [lsS]
    by_cases h1 : bt e k = 1
    · rw [if_pos h1]
      have h2 := fsM_f h0 h1 n
      rw [show k + 1 + n = 16 by omega] at h2
      exact h2.symm
    · rw [if_neg h1]
      refine fsM_ls n (k + 1) (by omega) ?_
      simp only [pcS]; omega
/-- ask: how many would come out not WELL -/
def ntS (e s j : Nat) : Nat → Nat
  | 0 => 0
  | i + 1 => if bt s i = 1 ∧ bt e (4 * j + i) = 1 then ntS e s j i + 1 else ntS e s j i
theorem ntS_le {e s j : Nat} : ∀ k, ntS e s j k ≤ k
  | 0 => Nat.le_refl _
  | k + 1 => by
    have := ntS_le (e := e) (s := s) (j := j) k
    simp only [ntS]
    split <;> omega
theorem nt_pc {e s j : Nat} (hs : s < 16) (hj : j < 4) : pcS (e &&& s * 2 ^ (4 * j)) 16 = ntS e s j 4 := by
  have hb : ∀ a, a < 4 → ∀ i, i < 4 → bt (e &&& s * 2 ^ (4 * j)) (4 * a + i) = if j = a ∧ bt s i = 1 ∧ bt e (4 * a + i) = 1 then 1 else 0 := by
    intro a ha i hi
    rw [bt_and, bt_sh hs hj ha hi]
    have := bt_lt s i
    by_cases h1 : j = a <;> by_cases h2 : bt s i = 1 <;> by_cases h3 : bt e (4 * a + i) = 1 <;> simp [h1, h2, h3]
  have p0 := hb 0 (by omega) 0 (by omega)
  have p1 := hb 0 (by omega) 1 (by omega)
  have p2 := hb 0 (by omega) 2 (by omega)
  have p3 := hb 0 (by omega) 3 (by omega)
  have p4 := hb 1 (by omega) 0 (by omega)
  have p5 := hb 1 (by omega) 1 (by omega)
  have p6 := hb 1 (by omega) 2 (by omega)
  have p7 := hb 1 (by omega) 3 (by omega)
  have p8 := hb 2 (by omega) 0 (by omega)
  have p9 := hb 2 (by omega) 1 (by omega)
  have p10 := hb 2 (by omega) 2 (by omega)
  have p11 := hb 2 (by omega) 3 (by omega)
  have p12 := hb 3 (by omega) 0 (by omega)
  have p13 := hb 3 (by omega) 1 (by omega)
  have p14 := hb 3 (by omega) 2 (by omega)
  have p15 := hb 3 (by omega) 3 (by omega)
  simp only [Nat.reduceMul, Nat.reduceAdd] at p0 p1 p2 p3 p4 p5 p6 p7 p8 p9 p10 p11 p12 p13 p14 p15
  simp only [pcS, p0, p1, p2, p3, p4, p5, p6, p7, p8, p9, p10, p11, p12, p13, p14, p15, ntS]
  rcases (show j = 0 ∨ j = 1 ∨ j = 2 ∨ j = 3 by omega) with rfl | rfl | rfl | rfl
  · simp only [Nat.reduceMul, Nat.reduceAdd, Nat.reduceEqDiff, false_and, true_and, if_false, Nat.add_zero, Nat.zero_add]
    grind
  · simp only [Nat.reduceMul, Nat.reduceAdd, Nat.reduceEqDiff, Nat.one_ne_zero, false_and, true_and, if_false, Nat.add_zero, Nat.zero_add]
    grind
  · simp only [Nat.reduceMul, Nat.reduceAdd, Nat.reduceEqDiff, false_and, true_and, if_false, Nat.add_zero, Nat.zero_add]
    grind
  · simp only [Nat.reduceMul, Nat.reduceAdd, Nat.reduceEqDiff, false_and, true_and, if_false, Nat.add_zero, Nat.zero_add]
    grind
section S57
variable {X : Nat × (Nat → Int32)} {t u : Nat} {F : Nat → Nat → Int32} {J : Nat → Int64} {w : q_M}
theorem s132 {o j i n : Nat} {A S W : Nat → Nat} (hO : F 75 0 = nI o) (ho : o < 16) (hj : j < 4) (hi : i < 4) (hn : n ≤ 8) (h1 : F 72 10 = nI n) (hT : ∀ k, k < n → (A k < 4 ∧ S k < 16 ∧ W k < 2) ∧ F 82 k = nI (A k) ∧ F 83 k = nI (S k) ∧ F 84 k = nI (W k)) : q_ex X (132, 0, [.ref 72, .int (nI j), .int (nI i), .null, .null, .null], [], q_w t u F J) = some (some (.int (nI (myS A S W o j i n))), q_w t u F J) := by
  have h := q_iter (X := X) (δ := Value) (fun k d => (132, 25, [.ref 72, .int (nI j), .int (nI i), .int (nI (myS A S W o j i k)), .int (nI k), d], [], q_w t u F J)) n (fun k hk d => ?_) .null
  · obtain ⟨d, h⟩ := h
    have h0 : q_ex X (132, 0, [.ref 72, .int (nI j), .int (nI i), .null, .null, .null], [], q_w t u F J) = q_ex X (132, 25, [.ref 72, .int (nI j), .int (nI i), .int (nI (myS A S W o j i 0)), .int (nI 0), .null], [], q_w t u F J) := by
      have hbj := bt_lt o j
      have hbi := bt_lt o i
      by_cases e1 : bt o j = 1
      · by_cases e2 : bt o i = 1
        · simp (disch := (first | omega | assumption | rfl | (simp (disch := assumption) only [l9_2, l9_4, l9_5, l9_6, l9_7, l9_9, l9_10, l9_11, l9_12, l9_14, l9_15, l9_16, l9_17, l9_51, l9_52, l9_53, l9_55, l9_56, l9_58, l9_61, l9_73, l9_74, l9_75, l9_76, l9_77, l9_79, l9_80, l9_81, l9_82, l9_83, l9_84, l9_85, l10_59, l10_78, l9_D1, l9_D2, l9_D3, l9_D4, l9_T1, l9_T2, l9_T3, l9_T4]; omega) | decide)) only [e132_0, e132_1, e132_2, e132_5, e132_8, e132_9, e132_10, e132_13, e132_16, e132_17, e132_20, e132_21, e132_22, e132_23, e132_27, e132_28, e132_31, e132_34, e132_35, e132_38, e132_40, e132_41, e132_42, e132_45, e132_46, e132_49, e132_51, e132_52, e132_53, e132_56, e132_59, e132_60, e132_63, e132_64, e132_66, e132_67, e132_70, e132_72, e132_73, e132_76, e132_78, e132_79, e132_82, e132_83, e132_86, e132_87, e132_88, e132_91, e132_94, e132_95, ↓reduceIte, Nat.reduceAdd, Nat.reduceMul, nI_add, pk_mul, n_lt_t, n_lt_f, n_le_t, n_le_f, n_eq_f, n_eq_t, n_z_f, n_z_t, n_lz, n_zl, not_true_eq_false, not_false_eq_true, s88_t hO ho hj, s88_t hO ho hi, Option.bind_some, Option.toList_some, Option.toList_none, List.cons_append, List.nil_append, e1, e2]
          simp only [myS, e1, e2, and_self, if_true]
        · have e20 : bt o i = 0 := by omega
          simp (disch := (first | omega | assumption | rfl | (simp (disch := assumption) only [l9_2, l9_4, l9_5, l9_6, l9_7, l9_9, l9_10, l9_11, l9_12, l9_14, l9_15, l9_16, l9_17, l9_51, l9_52, l9_53, l9_55, l9_56, l9_58, l9_61, l9_73, l9_74, l9_75, l9_76, l9_77, l9_79, l9_80, l9_81, l9_82, l9_83, l9_84, l9_85, l10_59, l10_78, l9_D1, l9_D2, l9_D3, l9_D4, l9_T1, l9_T2, l9_T3, l9_T4]; omega) | decide)) only [e132_0, e132_1, e132_2, e132_5, e132_8, e132_9, e132_10, e132_13, e132_16, e132_17, e132_20, e132_21, e132_22, e132_23, e132_27, e132_28, e132_31, e132_34, e132_35, e132_38, e132_40, e132_41, e132_42, e132_45, e132_46, e132_49, e132_51, e132_52, e132_53, e132_56, e132_59, e132_60, e132_63, e132_64, e132_66, e132_67, e132_70, e132_72, e132_73, e132_76, e132_78, e132_79, e132_82, e132_83, e132_86, e132_87, e132_88, e132_91, e132_94, e132_95, ↓reduceIte, Nat.reduceAdd, Nat.reduceMul, nI_add, pk_mul, n_lt_t, n_lt_f, n_le_t, n_le_f, n_eq_f, n_eq_t, n_z_f, n_z_t, n_lz, n_zl, not_true_eq_false, not_false_eq_true, s88_t hO ho hj, s88_t hO ho hi, Option.bind_some, Option.toList_some, Option.toList_none, List.cons_append, List.nil_append, e1, e20]
          simp only [myS, e20, Nat.zero_ne_one, and_false, if_false]
      · have e10 : bt o j = 0 := by omega
        simp (disch := (first | omega | assumption | rfl | (simp (disch := assumption) only [l9_2, l9_4, l9_5, l9_6, l9_7, l9_9, l9_10, l9_11, l9_12, l9_14, l9_15, l9_16, l9_17, l9_51, l9_52, l9_53, l9_55, l9_56, l9_58, l9_61, l9_73, l9_74, l9_75, l9_76, l9_77, l9_79, l9_80, l9_81, l9_82, l9_83, l9_84, l9_85, l10_59, l10_78, l9_D1, l9_D2, l9_D3, l9_D4, l9_T1, l9_T2, l9_T3, l9_T4]; omega) | decide)) only [e132_0, e132_1, e132_2, e132_5, e132_8, e132_9, e132_10, e132_13, e132_16, e132_17, e132_20, e132_21, e132_22, e132_23, e132_27, e132_28, e132_31, e132_34, e132_35, e132_38, e132_40, e132_41, e132_42, e132_45, e132_46, e132_49, e132_51, e132_52, e132_53, e132_56, e132_59, e132_60, e132_63, e132_64, e132_66, e132_67, e132_70, e132_72, e132_73, e132_76, e132_78, e132_79, e132_82, e132_83, e132_86, e132_87, e132_88, e132_91, e132_94, e132_95, ↓reduceIte, Nat.reduceAdd, Nat.reduceMul, nI_add, pk_mul, n_lt_t, n_lt_f, n_le_t, n_le_f, n_eq_f, n_eq_t, n_z_f, n_z_t, n_lz, n_zl, not_true_eq_false, not_false_eq_true, s88_t hO ho hj, Option.bind_some, Option.toList_some, Option.toList_none, List.cons_append, List.nil_append, e10]
        simp only [myS, e10, Nat.zero_ne_one, false_and, if_false]
    have hlt := myS_lt (A := A) (S := S) (W := W) (o := o) (j := j) (i := i) n
    have hz : nI (myS A S W o j i n) = nI 0 ∨ nI (myS A S W o j i n) = nI 1 := by
      rcases (show myS A S W o j i n = 0 ∨ myS A S W o j i n = 1 by omega) with e | e <;> rw [e] <;> simp
    rw [h0, h, e132_25]
    simp (disch := (first | omega | assumption | rfl | (simp (disch := assumption) only [l9_2, l9_4, l9_5, l9_6, l9_7, l9_9, l9_10, l9_11, l9_12, l9_14, l9_15, l9_16, l9_17, l9_51, l9_52, l9_53, l9_55, l9_56, l9_58, l9_61, l9_73, l9_74, l9_75, l9_76, l9_77, l9_79, l9_80, l9_81, l9_82, l9_83, l9_84, l9_85, l10_59, l10_78, l9_D1, l9_D2, l9_D3, l9_D4, l9_T1, l9_T2, l9_T3, l9_T4]; omega) | decide)) only [e132_0, e132_1, e132_2, e132_5, e132_8, e132_9, e132_10, e132_13, e132_16, e132_17, e132_20, e132_21, e132_22, e132_23, e132_27, e132_28, e132_31, e132_34, e132_35, e132_38, e132_40, e132_41, e132_42, e132_45, e132_46, e132_49, e132_51, e132_52, e132_53, e132_56, e132_59, e132_60, e132_63, e132_64, e132_66, e132_67, e132_70, e132_72, e132_73, e132_76, e132_78, e132_79, e132_82, e132_83, e132_86, e132_87, e132_88, e132_91, e132_94, e132_95, ↓reduceIte, Nat.reduceAdd, Nat.reduceMul, nI_add, pk_mul, n_lt_t, n_lt_f, n_le_t, n_le_f, n_eq_f, n_eq_t, n_z_f, n_z_t, n_lz, n_zl, not_true_eq_false, not_false_eq_true, h1]
  · obtain ⟨⟨ha, hs, hw⟩, t1, t2, t3⟩ := hT k hk
    have hlt := myS_lt (A := A) (S := S) (W := W) (o := o) (j := j) (i := i) k
    have hbs := bt_lt (S k) i
    refine ⟨.int (nI (if A k = j ∧ bt (S k) i = 1 then 0 else 1)), ?_⟩
    try dsimp only
    rw [e132_25]
    by_cases e1 : A k = j
    · by_cases e2 : bt (S k) i = 1
      · by_cases e3 : myS A S W o j i k = 1
        · by_cases e4 : W k = 0
          · simp (disch := (first | omega | assumption | rfl | (simp (disch := assumption) only [l9_2, l9_4, l9_5, l9_6, l9_7, l9_9, l9_10, l9_11, l9_12, l9_14, l9_15, l9_16, l9_17, l9_51, l9_52, l9_53, l9_55, l9_56, l9_58, l9_61, l9_73, l9_74, l9_75, l9_76, l9_77, l9_79, l9_80, l9_81, l9_82, l9_83, l9_84, l9_85, l10_59, l10_78, l9_D1, l9_D2, l9_D3, l9_D4, l9_T1, l9_T2, l9_T3, l9_T4]; omega) | decide)) only [e132_0, e132_1, e132_2, e132_5, e132_8, e132_9, e132_10, e132_13, e132_16, e132_17, e132_20, e132_21, e132_22, e132_23, e132_27, e132_28, e132_31, e132_34, e132_35, e132_38, e132_40, e132_41, e132_42, e132_45, e132_46, e132_49, e132_51, e132_52, e132_53, e132_56, e132_59, e132_60, e132_63, e132_64, e132_66, e132_67, e132_70, e132_72, e132_73, e132_76, e132_78, e132_79, e132_82, e132_83, e132_86, e132_87, e132_88, e132_91, e132_94, e132_95, ↓reduceIte, Nat.reduceAdd, Nat.reduceMul, nI_add, pk_mul, n_lt_t, n_lt_f, n_le_t, n_le_f, n_eq_f, n_eq_t, n_z_f, n_z_t, n_lz, n_zl, not_true_eq_false, not_false_eq_true, h1, t1, t2, t3, e1, s86, Option.bind_some, Option.toList_some, Option.toList_none, List.cons_append, List.nil_append, e2, e3, e4]
            simp only [myS, e1, e2, e3, e4, and_self, if_true]
          · simp (disch := (first | omega | assumption | rfl | (simp (disch := assumption) only [l9_2, l9_4, l9_5, l9_6, l9_7, l9_9, l9_10, l9_11, l9_12, l9_14, l9_15, l9_16, l9_17, l9_51, l9_52, l9_53, l9_55, l9_56, l9_58, l9_61, l9_73, l9_74, l9_75, l9_76, l9_77, l9_79, l9_80, l9_81, l9_82, l9_83, l9_84, l9_85, l10_59, l10_78, l9_D1, l9_D2, l9_D3, l9_D4, l9_T1, l9_T2, l9_T3, l9_T4]; omega) | decide)) only [e132_0, e132_1, e132_2, e132_5, e132_8, e132_9, e132_10, e132_13, e132_16, e132_17, e132_20, e132_21, e132_22, e132_23, e132_27, e132_28, e132_31, e132_34, e132_35, e132_38, e132_40, e132_41, e132_42, e132_45, e132_46, e132_49, e132_51, e132_52, e132_53, e132_56, e132_59, e132_60, e132_63, e132_64, e132_66, e132_67, e132_70, e132_72, e132_73, e132_76, e132_78, e132_79, e132_82, e132_83, e132_86, e132_87, e132_88, e132_91, e132_94, e132_95, ↓reduceIte, Nat.reduceAdd, Nat.reduceMul, nI_add, pk_mul, n_lt_t, n_lt_f, n_le_t, n_le_f, n_eq_f, n_eq_t, n_z_f, n_z_t, n_lz, n_zl, not_true_eq_false, not_false_eq_true, h1, t1, t2, t3, e1, s86, Option.bind_some, Option.toList_some, Option.toList_none, List.cons_append, List.nil_append, e2, e3]
            simp only [myS, e1, e2, e3, and_self, if_true, true_and, if_neg (fun z => e4 (Eq.symm z))]
        · have e30 : myS A S W o j i k = 0 := by omega
          simp (disch := (first | omega | assumption | rfl | (simp (disch := assumption) only [l9_2, l9_4, l9_5, l9_6, l9_7, l9_9, l9_10, l9_11, l9_12, l9_14, l9_15, l9_16, l9_17, l9_51, l9_52, l9_53, l9_55, l9_56, l9_58, l9_61, l9_73, l9_74, l9_75, l9_76, l9_77, l9_79, l9_80, l9_81, l9_82, l9_83, l9_84, l9_85, l10_59, l10_78, l9_D1, l9_D2, l9_D3, l9_D4, l9_T1, l9_T2, l9_T3, l9_T4]; omega) | decide)) only [e132_0, e132_1, e132_2, e132_5, e132_8, e132_9, e132_10, e132_13, e132_16, e132_17, e132_20, e132_21, e132_22, e132_23, e132_27, e132_28, e132_31, e132_34, e132_35, e132_38, e132_40, e132_41, e132_42, e132_45, e132_46, e132_49, e132_51, e132_52, e132_53, e132_56, e132_59, e132_60, e132_63, e132_64, e132_66, e132_67, e132_70, e132_72, e132_73, e132_76, e132_78, e132_79, e132_82, e132_83, e132_86, e132_87, e132_88, e132_91, e132_94, e132_95, ↓reduceIte, Nat.reduceAdd, Nat.reduceMul, nI_add, pk_mul, n_lt_t, n_lt_f, n_le_t, n_le_f, n_eq_f, n_eq_t, n_z_f, n_z_t, n_lz, n_zl, not_true_eq_false, not_false_eq_true, h1, t1, t2, e1, s86, Option.bind_some, Option.toList_some, Option.toList_none, List.cons_append, List.nil_append, e2, e30]
          simp only [myS, e1, e2, e30, Nat.zero_ne_one, false_and, and_self, if_false, if_true]
      · have e20 : bt (S k) i = 0 := by omega
        by_cases e3 : myS A S W o j i k = 1
        · by_cases e4 : W k = 1
          · simp (disch := (first | omega | assumption | rfl | (simp (disch := assumption) only [l9_2, l9_4, l9_5, l9_6, l9_7, l9_9, l9_10, l9_11, l9_12, l9_14, l9_15, l9_16, l9_17, l9_51, l9_52, l9_53, l9_55, l9_56, l9_58, l9_61, l9_73, l9_74, l9_75, l9_76, l9_77, l9_79, l9_80, l9_81, l9_82, l9_83, l9_84, l9_85, l10_59, l10_78, l9_D1, l9_D2, l9_D3, l9_D4, l9_T1, l9_T2, l9_T3, l9_T4]; omega) | decide)) only [e132_0, e132_1, e132_2, e132_5, e132_8, e132_9, e132_10, e132_13, e132_16, e132_17, e132_20, e132_21, e132_22, e132_23, e132_27, e132_28, e132_31, e132_34, e132_35, e132_38, e132_40, e132_41, e132_42, e132_45, e132_46, e132_49, e132_51, e132_52, e132_53, e132_56, e132_59, e132_60, e132_63, e132_64, e132_66, e132_67, e132_70, e132_72, e132_73, e132_76, e132_78, e132_79, e132_82, e132_83, e132_86, e132_87, e132_88, e132_91, e132_94, e132_95, ↓reduceIte, Nat.reduceAdd, Nat.reduceMul, nI_add, pk_mul, n_lt_t, n_lt_f, n_le_t, n_le_f, n_eq_f, n_eq_t, n_z_f, n_z_t, n_lz, n_zl, not_true_eq_false, not_false_eq_true, h1, t1, t2, t3, e1, s86, Option.bind_some, Option.toList_some, Option.toList_none, List.cons_append, List.nil_append, e20, e3, e4]
            simp only [myS, e1, e20, e3, e4, Nat.zero_ne_one, and_false, and_self, if_false, if_true]
          · simp (disch := (first | omega | assumption | rfl | (simp (disch := assumption) only [l9_2, l9_4, l9_5, l9_6, l9_7, l9_9, l9_10, l9_11, l9_12, l9_14, l9_15, l9_16, l9_17, l9_51, l9_52, l9_53, l9_55, l9_56, l9_58, l9_61, l9_73, l9_74, l9_75, l9_76, l9_77, l9_79, l9_80, l9_81, l9_82, l9_83, l9_84, l9_85, l10_59, l10_78, l9_D1, l9_D2, l9_D3, l9_D4, l9_T1, l9_T2, l9_T3, l9_T4]; omega) | decide)) only [e132_0, e132_1, e132_2, e132_5, e132_8, e132_9, e132_10, e132_13, e132_16, e132_17, e132_20, e132_21, e132_22, e132_23, e132_27, e132_28, e132_31, e132_34, e132_35, e132_38, e132_40, e132_41, e132_42, e132_45, e132_46, e132_49, e132_51, e132_52, e132_53, e132_56, e132_59, e132_60, e132_63, e132_64, e132_66, e132_67, e132_70, e132_72, e132_73, e132_76, e132_78, e132_79, e132_82, e132_83, e132_86, e132_87, e132_88, e132_91, e132_94, e132_95, ↓reduceIte, Nat.reduceAdd, Nat.reduceMul, nI_add, pk_mul, n_lt_t, n_lt_f, n_le_t, n_le_f, n_eq_f, n_eq_t, n_z_f, n_z_t, n_lz, n_zl, not_true_eq_false, not_false_eq_true, h1, t1, t2, t3, e1, s86, Option.bind_some, Option.toList_some, Option.toList_none, List.cons_append, List.nil_append, e20, e3]
            simp only [myS, e1, e20, e3, Nat.zero_ne_one, and_false, if_false, true_and, if_neg (fun z => e4 (Eq.symm z))]
        · have e30 : myS A S W o j i k = 0 := by omega
          simp (disch := (first | omega | assumption | rfl | (simp (disch := assumption) only [l9_2, l9_4, l9_5, l9_6, l9_7, l9_9, l9_10, l9_11, l9_12, l9_14, l9_15, l9_16, l9_17, l9_51, l9_52, l9_53, l9_55, l9_56, l9_58, l9_61, l9_73, l9_74, l9_75, l9_76, l9_77, l9_79, l9_80, l9_81, l9_82, l9_83, l9_84, l9_85, l10_59, l10_78, l9_D1, l9_D2, l9_D3, l9_D4, l9_T1, l9_T2, l9_T3, l9_T4]; omega) | decide)) only [e132_0, e132_1, e132_2, e132_5, e132_8, e132_9, e132_10, e132_13, e132_16, e132_17, e132_20, e132_21, e132_22, e132_23, e132_27, e132_28, e132_31, e132_34, e132_35, e132_38, e132_40, e132_41, e132_42, e132_45, e132_46, e132_49, e132_51, e132_52, e132_53, e132_56, e132_59, e132_60, e132_63, e132_64, e132_66, e132_67, e132_70, e132_72, e132_73, e132_76, e132_78, e132_79, e132_82, e132_83, e132_86, e132_87, e132_88, e132_91, e132_94, e132_95, ↓reduceIte, Nat.reduceAdd, Nat.reduceMul, nI_add, pk_mul, n_lt_t, n_lt_f, n_le_t, n_le_f, n_eq_f, n_eq_t, n_z_f, n_z_t, n_lz, n_zl, not_true_eq_false, not_false_eq_true, h1, t1, t2, e1, s86, Option.bind_some, Option.toList_some, Option.toList_none, List.cons_append, List.nil_append, e20, e30]
          simp only [myS, e1, e20, e30, Nat.zero_ne_one, false_and, and_false, if_false]
    · by_cases e3 : myS A S W o j i k = 1
      · by_cases e4 : W k = 1
        · simp (disch := (first | omega | assumption | rfl | (simp (disch := assumption) only [l9_2, l9_4, l9_5, l9_6, l9_7, l9_9, l9_10, l9_11, l9_12, l9_14, l9_15, l9_16, l9_17, l9_51, l9_52, l9_53, l9_55, l9_56, l9_58, l9_61, l9_73, l9_74, l9_75, l9_76, l9_77, l9_79, l9_80, l9_81, l9_82, l9_83, l9_84, l9_85, l10_59, l10_78, l9_D1, l9_D2, l9_D3, l9_D4, l9_T1, l9_T2, l9_T3, l9_T4]; omega) | decide)) only [e132_0, e132_1, e132_2, e132_5, e132_8, e132_9, e132_10, e132_13, e132_16, e132_17, e132_20, e132_21, e132_22, e132_23, e132_27, e132_28, e132_31, e132_34, e132_35, e132_38, e132_40, e132_41, e132_42, e132_45, e132_46, e132_49, e132_51, e132_52, e132_53, e132_56, e132_59, e132_60, e132_63, e132_64, e132_66, e132_67, e132_70, e132_72, e132_73, e132_76, e132_78, e132_79, e132_82, e132_83, e132_86, e132_87, e132_88, e132_91, e132_94, e132_95, ↓reduceIte, Nat.reduceAdd, Nat.reduceMul, nI_add, pk_mul, n_lt_t, n_lt_f, n_le_t, n_le_f, n_eq_f, n_eq_t, n_z_f, n_z_t, n_lz, n_zl, not_true_eq_false, not_false_eq_true, h1, t1, t3, e1, Option.bind_some, Option.toList_some, Option.toList_none, List.cons_append, List.nil_append, e3, e4]
          simp only [myS, e1, e3, e4, false_and, and_self, if_false, if_true]
        · simp (disch := (first | omega | assumption | rfl | (simp (disch := assumption) only [l9_2, l9_4, l9_5, l9_6, l9_7, l9_9, l9_10, l9_11, l9_12, l9_14, l9_15, l9_16, l9_17, l9_51, l9_52, l9_53, l9_55, l9_56, l9_58, l9_61, l9_73, l9_74, l9_75, l9_76, l9_77, l9_79, l9_80, l9_81, l9_82, l9_83, l9_84, l9_85, l10_59, l10_78, l9_D1, l9_D2, l9_D3, l9_D4, l9_T1, l9_T2, l9_T3, l9_T4]; omega) | decide)) only [e132_0, e132_1, e132_2, e132_5, e132_8, e132_9, e132_10, e132_13, e132_16, e132_17, e132_20, e132_21, e132_22, e132_23, e132_27, e132_28, e132_31, e132_34, e132_35, e132_38, e132_40, e132_41, e132_42, e132_45, e132_46, e132_49, e132_51, e132_52, e132_53, e132_56, e132_59, e132_60, e132_63, e132_64, e132_66, e132_67, e132_70, e132_72, e132_73, e132_76, e132_78, e132_79, e132_82, e132_83, e132_86, e132_87, e132_88, e132_91, e132_94, e132_95, ↓reduceIte, Nat.reduceAdd, Nat.reduceMul, nI_add, pk_mul, n_lt_t, n_lt_f, n_le_t, n_le_f, n_eq_f, n_eq_t, n_z_f, n_z_t, n_lz, n_zl, not_true_eq_false, not_false_eq_true, h1, t1, t3, e1, Option.bind_some, Option.toList_some, Option.toList_none, List.cons_append, List.nil_append, e3]
          simp only [myS, e1, e3, false_and, if_false, true_and, if_neg (fun z => e4 (Eq.symm z))]
      · have e30 : myS A S W o j i k = 0 := by omega
        simp (disch := (first | omega | assumption | rfl | (simp (disch := assumption) only [l9_2, l9_4, l9_5, l9_6, l9_7, l9_9, l9_10, l9_11, l9_12, l9_14, l9_15, l9_16, l9_17, l9_51, l9_52, l9_53, l9_55, l9_56, l9_58, l9_61, l9_73, l9_74, l9_75, l9_76, l9_77, l9_79, l9_80, l9_81, l9_82, l9_83, l9_84, l9_85, l10_59, l10_78, l9_D1, l9_D2, l9_D3, l9_D4, l9_T1, l9_T2, l9_T3, l9_T4]; omega) | decide)) only [e132_0, e132_1, e132_2, e132_5, e132_8, e132_9, e132_10, e132_13, e132_16, e132_17, e132_20, e132_21, e132_22, e132_23, e132_27, e132_28, e132_31, e132_34, e132_35, e132_38, e132_40, e132_41, e132_42, e132_45, e132_46, e132_49, e132_51, e132_52, e132_53, e132_56, e132_59, e132_60, e132_63, e132_64, e132_66, e132_67, e132_70, e132_72, e132_73, e132_76, e132_78, e132_79, e132_82, e132_83, e132_86, e132_87, e132_88, e132_91, e132_94, e132_95, ↓reduceIte, Nat.reduceAdd, Nat.reduceMul, nI_add, pk_mul, n_lt_t, n_lt_f, n_le_t, n_le_f, n_eq_f, n_eq_t, n_z_f, n_z_t, n_lz, n_zl, not_true_eq_false, not_false_eq_true, h1, t1, e1, Option.bind_some, Option.toList_some, Option.toList_none, List.cons_append, List.nil_append, e30]
        simp only [myS, e1, e30, Nat.zero_ne_one, false_and, if_false]
theorem s133 {x o n e : Nat} {A S W : Nat → Nat} (hx : x < 2) (hO : F 75 0 = nI o) (ho : o < 16) (hn : n ≤ 8) (h1 : F 72 10 = nI n) (hT : ∀ k, k < n → (A k < 4 ∧ S k < 16 ∧ W k < 2) ∧ F 82 k = nI (A k) ∧ F 83 k = nI (S k) ∧ F 84 k = nI (W k)) (he : ∀ k, k < 16 → bt e k = myS A S W o (k / 4) (k % 4) n) : q_ex X (133, 0, [.ref 72, .int (nI x), .null, .null, .null], [], q_w t u F J) = some (some (.int (if x = 0 then nI (pcS e 16) else fsM e 16)), q_w t u F J) := by
  have h := q_iter0 (X := X) (fun k => (133, 19, [.ref 72, .int (nI x), .int (nI (pcS e k)), .int (fsM e k), .int (nI k)], [], q_w t u F J)) 16 (fun k hk => ?_)
  · simp (disch := (first | omega | assumption | rfl | (simp (disch := assumption) only [l9_2, l9_4, l9_5, l9_6, l9_7, l9_9, l9_10, l9_11, l9_12, l9_14, l9_15, l9_16, l9_17, l9_51, l9_52, l9_53, l9_55, l9_56, l9_58, l9_61, l9_73, l9_74, l9_75, l9_76, l9_77, l9_79, l9_80, l9_81, l9_82, l9_83, l9_84, l9_85, l10_59, l10_78, l9_D1, l9_D2, l9_D3, l9_D4, l9_T1, l9_T2, l9_T3, l9_T4]; omega) | decide)) only [e133_0, e133_1, e133_2, e133_3, e133_6, e133_9, e133_10, e133_11, e133_12, e133_13, e133_15, e133_16, e133_17, e133_21, e133_23, e133_26, e133_27, e133_29, e133_30, e133_31, e133_33, e133_34, e133_35, e133_38, e133_41, e133_42, e133_45, e133_47, e133_50, e133_51, e133_52, e133_55, e133_58, e133_61, e133_62, e133_65, e133_66, e133_69, e133_70, ↓reduceIte, Nat.reduceAdd, Nat.reduceMul, nI_add, pk_mul, n_lt_t, n_lt_f, n_le_t, n_le_f, n_eq_f, n_eq_t, n_z_f, n_z_t, n_lz, n_zl, not_true_eq_false, not_false_eq_true, s85_t, Option.bind_some, Option.toList_some, Option.toList_none, List.cons_append, List.nil_append]
    have h' : q_ex X (133, 19, [.ref 72, .int (nI x), .int (nI 0), .int (-9), .int (nI 0)], [], q_w t u F J) = _ := h
    rw [h', e133_19]
    by_cases hx0 : x = 0
    · subst hx0
      simp (disch := (first | omega | assumption | rfl | (simp (disch := assumption) only [l9_2, l9_4, l9_5, l9_6, l9_7, l9_9, l9_10, l9_11, l9_12, l9_14, l9_15, l9_16, l9_17, l9_51, l9_52, l9_53, l9_55, l9_56, l9_58, l9_61, l9_73, l9_74, l9_75, l9_76, l9_77, l9_79, l9_80, l9_81, l9_82, l9_83, l9_84, l9_85, l10_59, l10_78, l9_D1, l9_D2, l9_D3, l9_D4, l9_T1, l9_T2, l9_T3, l9_T4]; omega) | decide)) only [e133_0, e133_1, e133_2, e133_3, e133_6, e133_9, e133_10, e133_11, e133_12, e133_13, e133_15, e133_16, e133_17, e133_21, e133_23, e133_26, e133_27, e133_29, e133_30, e133_31, e133_33, e133_34, e133_35, e133_38, e133_41, e133_42, e133_45, e133_47, e133_50, e133_51, e133_52, e133_55, e133_58, e133_61, e133_62, e133_65, e133_66, e133_69, e133_70, ↓reduceIte, Nat.reduceAdd, Nat.reduceMul, nI_add, pk_mul, n_lt_t, n_lt_f, n_le_t, n_le_f, n_eq_f, n_eq_t, n_z_f, n_z_t, n_lz, n_zl, not_true_eq_false, not_false_eq_true]
    · simp (disch := (first | omega | assumption | rfl | (simp (disch := assumption) only [l9_2, l9_4, l9_5, l9_6, l9_7, l9_9, l9_10, l9_11, l9_12, l9_14, l9_15, l9_16, l9_17, l9_51, l9_52, l9_53, l9_55, l9_56, l9_58, l9_61, l9_73, l9_74, l9_75, l9_76, l9_77, l9_79, l9_80, l9_81, l9_82, l9_83, l9_84, l9_85, l10_59, l10_78, l9_D1, l9_D2, l9_D3, l9_D4, l9_T1, l9_T2, l9_T3, l9_T4]; omega) | decide)) only [e133_0, e133_1, e133_2, e133_3, e133_6, e133_9, e133_10, e133_11, e133_12, e133_13, e133_15, e133_16, e133_17, e133_21, e133_23, e133_26, e133_27, e133_29, e133_30, e133_31, e133_33, e133_34, e133_35, e133_38, e133_41, e133_42, e133_45, e133_47, e133_50, e133_51, e133_52, e133_55, e133_58, e133_61, e133_62, e133_65, e133_66, e133_69, e133_70, ↓reduceIte, Nat.reduceAdd, Nat.reduceMul, nI_add, pk_mul, n_lt_t, n_lt_f, n_le_t, n_le_f, n_eq_f, n_eq_t, n_z_f, n_z_t, n_lz, n_zl, not_true_eq_false, not_false_eq_true, hx0]
  · try dsimp only
    have hm := s132 (X := X) (t := t) (u := u) (J := J) hO ho (show k / 4 < 4 by omega) (show k % 4 < 4 by omega) hn h1 hT
    rw [← he k hk] at hm
    have hb := bt_lt e k
    have hp := pcS_le e k
    rw [e133_19]
    by_cases h2 : bt e k = 1
    · by_cases h3 : pcS e k = 0
      · simp (disch := (first | omega | assumption | rfl | (simp (disch := assumption) only [l9_2, l9_4, l9_5, l9_6, l9_7, l9_9, l9_10, l9_11, l9_12, l9_14, l9_15, l9_16, l9_17, l9_51, l9_52, l9_53, l9_55, l9_56, l9_58, l9_61, l9_73, l9_74, l9_75, l9_76, l9_77, l9_79, l9_80, l9_81, l9_82, l9_83, l9_84, l9_85, l10_59, l10_78, l9_D1, l9_D2, l9_D3, l9_D4, l9_T1, l9_T2, l9_T3, l9_T4]; omega) | decide)) only [e133_0, e133_1, e133_2, e133_3, e133_6, e133_9, e133_10, e133_11, e133_12, e133_13, e133_15, e133_16, e133_17, e133_21, e133_23, e133_26, e133_27, e133_29, e133_30, e133_31, e133_33, e133_34, e133_35, e133_38, e133_41, e133_42, e133_45, e133_47, e133_50, e133_51, e133_52, e133_55, e133_58, e133_61, e133_62, e133_65, e133_66, e133_69, e133_70, ↓reduceIte, Nat.reduceAdd, Nat.reduceMul, nI_add, pk_mul, n_lt_t, n_lt_f, n_le_t, n_le_f, n_eq_f, n_eq_t, n_z_f, n_z_t, n_lz, n_zl, not_true_eq_false, not_false_eq_true, n_4, n_div, n_sub, n_md, hm, Option.bind_some, Option.toList_some, Option.toList_none, List.cons_append, List.nil_append, h2, h3]
        simp only [pcS, fsM, h2, h3, if_true]
      · simp (disch := (first | omega | assumption | rfl | (simp (disch := assumption) only [l9_2, l9_4, l9_5, l9_6, l9_7, l9_9, l9_10, l9_11, l9_12, l9_14, l9_15, l9_16, l9_17, l9_51, l9_52, l9_53, l9_55, l9_56, l9_58, l9_61, l9_73, l9_74, l9_75, l9_76, l9_77, l9_79, l9_80, l9_81, l9_82, l9_83, l9_84, l9_85, l10_59, l10_78, l9_D1, l9_D2, l9_D3, l9_D4, l9_T1, l9_T2, l9_T3, l9_T4]; omega) | decide)) only [e133_0, e133_1, e133_2, e133_3, e133_6, e133_9, e133_10, e133_11, e133_12, e133_13, e133_15, e133_16, e133_17, e133_21, e133_23, e133_26, e133_27, e133_29, e133_30, e133_31, e133_33, e133_34, e133_35, e133_38, e133_41, e133_42, e133_45, e133_47, e133_50, e133_51, e133_52, e133_55, e133_58, e133_61, e133_62, e133_65, e133_66, e133_69, e133_70, ↓reduceIte, Nat.reduceAdd, Nat.reduceMul, nI_add, pk_mul, n_lt_t, n_lt_f, n_le_t, n_le_f, n_eq_f, n_eq_t, n_z_f, n_z_t, n_lz, n_zl, not_true_eq_false, not_false_eq_true, n_4, n_div, n_sub, n_md, hm, Option.bind_some, Option.toList_some, Option.toList_none, List.cons_append, List.nil_append, h2]
        simp only [pcS, fsM, h2, h3, if_true, if_false]
    · have h0 : bt e k = 0 := by omega
      simp (disch := (first | omega | assumption | rfl | (simp (disch := assumption) only [l9_2, l9_4, l9_5, l9_6, l9_7, l9_9, l9_10, l9_11, l9_12, l9_14, l9_15, l9_16, l9_17, l9_51, l9_52, l9_53, l9_55, l9_56, l9_58, l9_61, l9_73, l9_74, l9_75, l9_76, l9_77, l9_79, l9_80, l9_81, l9_82, l9_83, l9_84, l9_85, l10_59, l10_78, l9_D1, l9_D2, l9_D3, l9_D4, l9_T1, l9_T2, l9_T3, l9_T4]; omega) | decide)) only [e133_0, e133_1, e133_2, e133_3, e133_6, e133_9, e133_10, e133_11, e133_12, e133_13, e133_15, e133_16, e133_17, e133_21, e133_23, e133_26, e133_27, e133_29, e133_30, e133_31, e133_33, e133_34, e133_35, e133_38, e133_41, e133_42, e133_45, e133_47, e133_50, e133_51, e133_52, e133_55, e133_58, e133_61, e133_62, e133_65, e133_66, e133_69, e133_70, ↓reduceIte, Nat.reduceAdd, Nat.reduceMul, nI_add, pk_mul, n_lt_t, n_lt_f, n_le_t, n_le_f, n_eq_f, n_eq_t, n_z_f, n_z_t, n_lz, n_zl, not_true_eq_false, not_false_eq_true, n_4, n_div, n_sub, n_md, hm, Option.bind_some, Option.toList_some, Option.toList_none, List.cons_append, List.nil_append, h0]
      simp only [pcS, fsM, h0, Nat.zero_ne_one, if_false, Nat.add_zero]
end S57
