/-! ===== what is MADE: the square of numbers ===== -/
def updN (R : Nat → Nat) (x v : Nat) : Nat → Nat := fun y => if y = x then v else R y
/-- the array a holds, in its first n places, the numbers R -/
def gx (a n : Nat) (F : Nat → Nat → Int32) (R : Nat → Nat) : Nat → Nat → Int32 := va_up F a (fun x => if x < n then nI (R x) else F a x)
theorem gx_up {a n x v : Nat} {F : Nat → Nat → Int32} {R : Nat → Nat} (h : x < n) : q_up (gx a n F R) a x (nI v) = gx a n F (updN R x v) := by
  funext b i
  simp only [q_app, gx, va_app, updN]
  grind
theorem gx_rd {a n x : Nat} {F : Nat → Nat → Int32} {R : Nat → Nat} (h : x < n) : gx a n F R a x = nI (R x) := by
  simp only [gx, va_app, if_true, if_pos h]
theorem gx_n {a n b : Nat} {F : Nat → Nat → Int32} {R : Nat → Nat} (h : b ≠ a) : gx a n F R b = F b := va_up_ne _ _ h
theorem gx_self {a n : Nat} {F : Nat → Nat → Int32} {R : Nat → Nat} (h : ∀ x, x < n → F a x = nI (R x)) : gx a n F R = F := by
  funext b i
  simp only [gx, va_app]
  grind
theorem gx_eq {a n : Nat} {F : Nat → Nat → Int32} {R R' : Nat → Nat} (h : ∀ x, x < n → R x = R' x) : gx a n F R = gx a n F R' := by
  funext b i
  simp only [gx, va_app]
  grind
/-- the first row from f on, n looked at, that has something in column c -/
def fnd (R : Nat → Nat) (W c : Nat) : Nat → Nat → Nat
  | 0, f => f
  | n + 1, f => if f < 4 ∧ R (W * f + c) = 0 then fnd R W c n (f + 1) else f
/-- row f comes to place c, and has 1 there -/
def piv (W : Nat) (R : Nat → Nat) (c f : Nat) : Nat → Nat := fun x => if W * c ≤ x ∧ x < W * c + W then R (W * f + (x - W * c)) * ob (R (W * f + c)) % 31 else if f ≠ c ∧ W * f ≤ x ∧ x < W * f + W then R (W * c + (x - W * f)) else R x
/-- column c is cleared in all other rows -/
def clr (W : Nat) (R : Nat → Nat) (c : Nat) : Nat → Nat := fun x => if x < 4 * W ∧ x / W ≠ c then (R x + (31 - R (W * (x / W) + c)) * R (W * c + x % W)) % 31 else R x
def elS (W : Nat) (R : Nat → Nat) : Nat → Option (Nat → Nat)
  | 0 => some R
  | k + 1 => match elS W R k with
    | none => none
    | some R => if fnd R W k 4 k = 4 then none else some (clr W (piv W R k (fnd R W k 4 k)) k)
theorem fnd_spec {R : Nat → Nat} {W c : Nat} : ∀ (n f : Nat), f ≤ 4 → 4 ≤ n + f → f ≤ fnd R W c n f ∧ fnd R W c n f ≤ 4 ∧ (fnd R W c n f < 4 → R (W * fnd R W c n f + c) ≠ 0)
  | 0, f, h1, h2 => by
    simp only [fnd]
    exact ⟨Nat.le_refl _, h1, fun h => by omega⟩
  | n + 1, f, h1, h2 => by
    simp only [fnd]
    split
    · rename_i h
      have ih := fnd_spec (R := R) (W := W) (c := c) n (f + 1) (by omega) (by omega)
      exact ⟨by omega, ih.2.1, ih.2.2⟩
    · rename_i h
      refine ⟨Nat.le_refl _, h1, fun h3 h4 => h ⟨h3, h4⟩⟩
/-- the square's rows at first: LEARNT of LINES that are ON, and what they are to get -/
def rwv (L S : Nat → Nat) (o j i : Nat) : Nat := if bt o j = 1 then (if i < 4 then (if bt o i = 1 then L (4 * j + i) else 0) else L (5 * j) * S j % 31) else if i = j then 1 else 0
section S41
variable {X : Nat × (Nat → Int32)} {t u : Nat} {F : Nat → Nat → Int32} {J : Nat → Int64} {w : q_M}
theorem s25_l {o j : Nat} {L S R : Nat → Nat} (ho : o < 16) (hj : j < 4) (hL : rowN (F 15) L 16 31) (a7 a8 : Value) : ∃ d : Value × Value, q_ex X (25, 20, [.ref 50, .ref 15, .int (nI o), .ref 61, .int (nI j), .int (nI (bt o j)), .int (nI 0), a7, a8], [], q_w t u (gx 53 20 F R) J) = q_ex X (25, 20, [.ref 50, .ref 15, .int (nI o), .ref 61, .int (nI j), .int (nI (bt o j)), .int (nI 4), d.1, d.2], [], q_w t u (gx 53 20 F (fun x => if 5 * j ≤ x ∧ x < 5 * j + 4 then rwv L S o j (x - 5 * j) else R x)) J) := by
  have h := q_iter (X := X) (δ := Value × Value) (fun k d => (25, 20, [.ref 50, .ref 15, .int (nI o), .ref 61, .int (nI j), .int (nI (bt o j)), .int (nI k), d.1, d.2], [], q_w t u (gx 53 20 F (fun x => if 5 * j ≤ x ∧ x < 5 * j + k then rwv L S o j (x - 5 * j) else R x)) J)) 4 (fun k hk d => ?_) (a7, a8)
  · obtain ⟨d, h⟩ := h
    refine ⟨d, Eq.trans ?_ h⟩
    congr 6
    exact gx_eq (fun x hx => by rw [if_neg (by omega)])
  · have hfin : ∀ v : Nat, v = rwv L S o j k → gx 53 20 F (updN (fun x => if 5 * j ≤ x ∧ x < 5 * j + k then rwv L S o j (x - 5 * j) else R x) (5 * j + k) v) = gx 53 20 F (fun x => if 5 * j ≤ x ∧ x < 5 * j + (k + 1) then rwv L S o j (x - 5 * j) else R x) := by
      intro v hv
      refine gx_eq (fun x hx => ?_)
      simp only [updN]
      by_cases hx2 : x = 5 * j + k
      · subst hx2
        rw [if_pos rfl, if_pos (by omega), hv, show 5 * j + k - 5 * j = k by omega]
      · grind
    obtain ⟨hl1, hl2⟩ := hL (4 * j + k) (by omega)
    have hbj := bt_lt o j
    have hbk := bt_lt o k
    by_cases h1 : bt o j = 1
    · by_cases h2 : bt o k = 1
      · refine ⟨(.int (nI 1), .int (nI (if k = j then 1 else 0))), ?_⟩
        try dsimp only
        rw [e25_20]
        by_cases h3 : k = j
        · subst h3
          simp (disch := (first | omega | assumption | rfl | (simp (disch := assumption) only [l9_2, l9_4, l9_5, l9_6, l9_7, l9_9, l9_10, l9_11, l9_12, l9_14, l9_15, l9_16, l9_17, l9_51, l9_52, l9_53, l9_55, l9_56, l9_58, l9_61, l9_73, l9_74, l9_75, l9_76, l9_77, l9_79, l9_80, l9_81, l9_82, l9_83, l9_84, l9_85, l10_59, l10_78, l9_D1, l9_D2, l9_D3, l9_D4, l9_T1, l9_T2, l9_T3, l9_T4]; omega) | decide)) only [e25_0, e25_1, e25_3, e25_4, e25_5, e25_6, e25_7, e25_10, e25_11, e25_14, e25_15, e25_17, e25_18, e25_22, e25_23, e25_26, e25_28, e25_31, e25_32, e25_34, e25_35, e25_36, e25_37, e25_38, e25_41, e25_42, e25_45, e25_46, e25_48, e25_50, e25_52, e25_55, e25_56, e25_59, e25_60, e25_62, e25_63, e25_66, e25_67, e25_69, e25_70, e25_72, e25_73, e25_75, e25_78, e25_79, e25_80, e25_82, e25_83, e25_85, e25_86, e25_87, e25_90, e25_92, e25_95, e25_96, e25_99, e25_101, e25_102, e25_105, e25_108, e25_109, e25_112, e25_113, e25_115, e25_116, e25_117, e25_118, e25_120, e25_123, e25_124, e25_125, e25_127, e25_128, e25_130, e25_131, e25_132, e25_133, e25_135, e25_136, e25_137, e25_139, e25_140, e25_143, e25_144, e25_145, ↓reduceIte, Nat.reduceAdd, Nat.reduceMul, nI_add, pk_mul, n_lt_t, n_lt_f, n_le_t, n_le_f, n_eq_f, n_eq_t, n_z_f, n_z_t, n_lz, n_zl, not_true_eq_false, not_false_eq_true, h1, n_bit, gx_n, hl1, gx_up]
          rw [← hfin (L (4 * k + k)) (by simp only [rwv, h1, h2, hk, if_true])]
        · simp (disch := (first | omega | assumption | rfl | (simp (disch := assumption) only [l9_2, l9_4, l9_5, l9_6, l9_7, l9_9, l9_10, l9_11, l9_12, l9_14, l9_15, l9_16, l9_17, l9_51, l9_52, l9_53, l9_55, l9_56, l9_58, l9_61, l9_73, l9_74, l9_75, l9_76, l9_77, l9_79, l9_80, l9_81, l9_82, l9_83, l9_84, l9_85, l10_59, l10_78, l9_D1, l9_D2, l9_D3, l9_D4, l9_T1, l9_T2, l9_T3, l9_T4]; omega) | decide)) only [e25_0, e25_1, e25_3, e25_4, e25_5, e25_6, e25_7, e25_10, e25_11, e25_14, e25_15, e25_17, e25_18, e25_22, e25_23, e25_26, e25_28, e25_31, e25_32, e25_34, e25_35, e25_36, e25_37, e25_38, e25_41, e25_42, e25_45, e25_46, e25_48, e25_50, e25_52, e25_55, e25_56, e25_59, e25_60, e25_62, e25_63, e25_66, e25_67, e25_69, e25_70, e25_72, e25_73, e25_75, e25_78, e25_79, e25_80, e25_82, e25_83, e25_85, e25_86, e25_87, e25_90, e25_92, e25_95, e25_96, e25_99, e25_101, e25_102, e25_105, e25_108, e25_109, e25_112, e25_113, e25_115, e25_116, e25_117, e25_118, e25_120, e25_123, e25_124, e25_125, e25_127, e25_128, e25_130, e25_131, e25_132, e25_133, e25_135, e25_136, e25_137, e25_139, e25_140, e25_143, e25_144, e25_145, ↓reduceIte, Nat.reduceAdd, Nat.reduceMul, nI_add, pk_mul, n_lt_t, n_lt_f, n_le_t, n_le_f, n_eq_f, n_eq_t, n_z_f, n_z_t, n_lz, n_zl, not_true_eq_false, not_false_eq_true, h1, h2, h3, n_bit, gx_n, hl1, gx_up]
          rw [← hfin (L (4 * j + k)) (by simp only [rwv, h1, h2, hk, if_true])]
      · have h20 : bt o k = 0 := by omega
        refine ⟨(.int (nI 0), .int (nI (if k = j then 1 else 0))), ?_⟩
        try dsimp only
        rw [e25_20]
        have h3 : ¬ k = j := fun z => h2 (by rw [z]; exact h1)
        simp (disch := (first | omega | assumption | rfl | (simp (disch := assumption) only [l9_2, l9_4, l9_5, l9_6, l9_7, l9_9, l9_10, l9_11, l9_12, l9_14, l9_15, l9_16, l9_17, l9_51, l9_52, l9_53, l9_55, l9_56, l9_58, l9_61, l9_73, l9_74, l9_75, l9_76, l9_77, l9_79, l9_80, l9_81, l9_82, l9_83, l9_84, l9_85, l10_59, l10_78, l9_D1, l9_D2, l9_D3, l9_D4, l9_T1, l9_T2, l9_T3, l9_T4]; omega) | decide)) only [e25_0, e25_1, e25_3, e25_4, e25_5, e25_6, e25_7, e25_10, e25_11, e25_14, e25_15, e25_17, e25_18, e25_22, e25_23, e25_26, e25_28, e25_31, e25_32, e25_34, e25_35, e25_36, e25_37, e25_38, e25_41, e25_42, e25_45, e25_46, e25_48, e25_50, e25_52, e25_55, e25_56, e25_59, e25_60, e25_62, e25_63, e25_66, e25_67, e25_69, e25_70, e25_72, e25_73, e25_75, e25_78, e25_79, e25_80, e25_82, e25_83, e25_85, e25_86, e25_87, e25_90, e25_92, e25_95, e25_96, e25_99, e25_101, e25_102, e25_105, e25_108, e25_109, e25_112, e25_113, e25_115, e25_116, e25_117, e25_118, e25_120, e25_123, e25_124, e25_125, e25_127, e25_128, e25_130, e25_131, e25_132, e25_133, e25_135, e25_136, e25_137, e25_139, e25_140, e25_143, e25_144, e25_145, ↓reduceIte, Nat.reduceAdd, Nat.reduceMul, nI_add, pk_mul, n_lt_t, n_lt_f, n_le_t, n_le_f, n_eq_f, n_eq_t, n_z_f, n_z_t, n_lz, n_zl, not_true_eq_false, not_false_eq_true, h1, h20, h3, n_bit, gx_n, gx_up]
        rw [← hfin 0 (by simp only [rwv, h1, h20, hk, if_true, Nat.zero_ne_one, if_false])]
    · have h10 : bt o j = 0 := by omega
      refine ⟨(.int (nI 0), .int (nI (if k = j then 1 else 0))), ?_⟩
      try dsimp only
      rw [e25_20]
      by_cases h3 : k = j
      · subst h3
        simp (disch := (first | omega | assumption | rfl | (simp (disch := assumption) only [l9_2, l9_4, l9_5, l9_6, l9_7, l9_9, l9_10, l9_11, l9_12, l9_14, l9_15, l9_16, l9_17, l9_51, l9_52, l9_53, l9_55, l9_56, l9_58, l9_61, l9_73, l9_74, l9_75, l9_76, l9_77, l9_79, l9_80, l9_81, l9_82, l9_83, l9_84, l9_85, l10_59, l10_78, l9_D1, l9_D2, l9_D3, l9_D4, l9_T1, l9_T2, l9_T3, l9_T4]; omega) | decide)) only [e25_0, e25_1, e25_3, e25_4, e25_5, e25_6, e25_7, e25_10, e25_11, e25_14, e25_15, e25_17, e25_18, e25_22, e25_23, e25_26, e25_28, e25_31, e25_32, e25_34, e25_35, e25_36, e25_37, e25_38, e25_41, e25_42, e25_45, e25_46, e25_48, e25_50, e25_52, e25_55, e25_56, e25_59, e25_60, e25_62, e25_63, e25_66, e25_67, e25_69, e25_70, e25_72, e25_73, e25_75, e25_78, e25_79, e25_80, e25_82, e25_83, e25_85, e25_86, e25_87, e25_90, e25_92, e25_95, e25_96, e25_99, e25_101, e25_102, e25_105, e25_108, e25_109, e25_112, e25_113, e25_115, e25_116, e25_117, e25_118, e25_120, e25_123, e25_124, e25_125, e25_127, e25_128, e25_130, e25_131, e25_132, e25_133, e25_135, e25_136, e25_137, e25_139, e25_140, e25_143, e25_144, e25_145, ↓reduceIte, Nat.reduceAdd, Nat.reduceMul, nI_add, pk_mul, n_lt_t, n_lt_f, n_le_t, n_le_f, n_eq_f, n_eq_t, n_z_f, n_z_t, n_lz, n_zl, not_true_eq_false, not_false_eq_true, h10, n_bit, gx_n, gx_up]
        rw [← hfin 1 (by simp only [rwv, h10, Nat.zero_ne_one, if_false, if_true])]
      · simp (disch := (first | omega | assumption | rfl | (simp (disch := assumption) only [l9_2, l9_4, l9_5, l9_6, l9_7, l9_9, l9_10, l9_11, l9_12, l9_14, l9_15, l9_16, l9_17, l9_51, l9_52, l9_53, l9_55, l9_56, l9_58, l9_61, l9_73, l9_74, l9_75, l9_76, l9_77, l9_79, l9_80, l9_81, l9_82, l9_83, l9_84, l9_85, l10_59, l10_78, l9_D1, l9_D2, l9_D3, l9_D4, l9_T1, l9_T2, l9_T3, l9_T4]; omega) | decide)) only [e25_0, e25_1, e25_3, e25_4, e25_5, e25_6, e25_7, e25_10, e25_11, e25_14, e25_15, e25_17, e25_18, e25_22, e25_23, e25_26, e25_28, e25_31, e25_32, e25_34, e25_35, e25_36, e25_37, e25_38, e25_41, e25_42, e25_45, e25_46, e25_48, e25_50, e25_52, e25_55, e25_56, e25_59, e25_60, e25_62, e25_63, e25_66, e25_67, e25_69, e25_70, e25_72, e25_73, e25_75, e25_78, e25_79, e25_80, e25_82, e25_83, e25_85, e25_86, e25_87, e25_90, e25_92, e25_95, e25_96, e25_99, e25_101, e25_102, e25_105, e25_108, e25_109, e25_112, e25_113, e25_115, e25_116, e25_117, e25_118, e25_120, e25_123, e25_124, e25_125, e25_127, e25_128, e25_130, e25_131, e25_132, e25_133, e25_135, e25_136, e25_137, e25_139, e25_140, e25_143, e25_144, e25_145, ↓reduceIte, Nat.reduceAdd, Nat.reduceMul, nI_add, pk_mul, n_lt_t, n_lt_f, n_le_t, n_le_f, n_eq_f, n_eq_t, n_z_f, n_z_t, n_lz, n_zl, not_true_eq_false, not_false_eq_true, h10, h3, n_bit, gx_n, gx_up]
        rw [← hfin 0 (by simp only [rwv, h10, h3, Nat.zero_ne_one, if_false])]
theorem s25 {o j : Nat} {L S R : Nat → Nat} (ho : o < 16) (hj : j < 4) (hL : rowN (F 15) L 16 31) (hS : rowN (F 61) S 4 31) : q_ex X (25, 0, [.ref 50, .ref 15, .int (nI o), .ref 61, .int (nI j), .null, .null, .null, .null], [], q_w t u (gx 53 20 F R) J) = some (none, q_w t u (gx 53 20 F (fun x => if 5 * j ≤ x ∧ x < 5 * j + 5 then rwv L S o j (x - 5 * j) else R x)) J) := by
  obtain ⟨d, h⟩ := s25_l (X := X) (t := t) (u := u) (J := J) (S := S) (R := R) ho hj hL .null .null
  have hbj := bt_lt o j
  obtain ⟨hl1, hl2⟩ := hL (4 * j + j) (by omega)
  obtain ⟨hs1, hs2⟩ := hS j hj
  have hm : L (4 * j + j) * S j ≤ 30 * 30 := Nat.mul_le_mul (by omega) (by omega)
  by_cases h1 : bt o j = 1
  · rw [h1] at h
    simp (disch := (first | omega | assumption | rfl | (simp (disch := assumption) only [l9_2, l9_4, l9_5, l9_6, l9_7, l9_9, l9_10, l9_11, l9_12, l9_14, l9_15, l9_16, l9_17, l9_51, l9_52, l9_53, l9_55, l9_56, l9_58, l9_61, l9_73, l9_74, l9_75, l9_76, l9_77, l9_79, l9_80, l9_81, l9_82, l9_83, l9_84, l9_85, l10_59, l10_78, l9_D1, l9_D2, l9_D3, l9_D4, l9_T1, l9_T2, l9_T3, l9_T4]; omega) | decide)) only [e25_0, e25_1, e25_3, e25_4, e25_5, e25_6, e25_7, e25_10, e25_11, e25_14, e25_15, e25_17, e25_18, e25_22, e25_23, e25_26, e25_28, e25_31, e25_32, e25_34, e25_35, e25_36, e25_37, e25_38, e25_41, e25_42, e25_45, e25_46, e25_48, e25_50, e25_52, e25_55, e25_56, e25_59, e25_60, e25_62, e25_63, e25_66, e25_67, e25_69, e25_70, e25_72, e25_73, e25_75, e25_78, e25_79, e25_80, e25_82, e25_83, e25_85, e25_86, e25_87, e25_90, e25_92, e25_95, e25_96, e25_99, e25_101, e25_102, e25_105, e25_108, e25_109, e25_112, e25_113, e25_115, e25_116, e25_117, e25_118, e25_120, e25_123, e25_124, e25_125, e25_127, e25_128, e25_130, e25_131, e25_132, e25_133, e25_135, e25_136, e25_137, e25_139, e25_140, e25_143, e25_144, e25_145, ↓reduceIte, Nat.reduceAdd, Nat.reduceMul, nI_add, pk_mul, n_lt_t, n_lt_f, n_le_t, n_le_f, n_eq_f, n_eq_t, n_z_f, n_z_t, n_lz, n_zl, not_true_eq_false, not_false_eq_true, h1, n_bit]
    rw [h, e25_20]
    simp (disch := (first | omega | assumption | rfl | (simp (disch := assumption) only [l9_2, l9_4, l9_5, l9_6, l9_7, l9_9, l9_10, l9_11, l9_12, l9_14, l9_15, l9_16, l9_17, l9_51, l9_52, l9_53, l9_55, l9_56, l9_58, l9_61, l9_73, l9_74, l9_75, l9_76, l9_77, l9_79, l9_80, l9_81, l9_82, l9_83, l9_84, l9_85, l10_59, l10_78, l9_D1, l9_D2, l9_D3, l9_D4, l9_T1, l9_T2, l9_T3, l9_T4]; omega) | decide)) only [e25_0, e25_1, e25_3, e25_4, e25_5, e25_6, e25_7, e25_10, e25_11, e25_14, e25_15, e25_17, e25_18, e25_22, e25_23, e25_26, e25_28, e25_31, e25_32, e25_34, e25_35, e25_36, e25_37, e25_38, e25_41, e25_42, e25_45, e25_46, e25_48, e25_50, e25_52, e25_55, e25_56, e25_59, e25_60, e25_62, e25_63, e25_66, e25_67, e25_69, e25_70, e25_72, e25_73, e25_75, e25_78, e25_79, e25_80, e25_82, e25_83, e25_85, e25_86, e25_87, e25_90, e25_92, e25_95, e25_96, e25_99, e25_101, e25_102, e25_105, e25_108, e25_109, e25_112, e25_113, e25_115, e25_116, e25_117, e25_118, e25_120, e25_123, e25_124, e25_125, e25_127, e25_128, e25_130, e25_131, e25_132, e25_133, e25_135, e25_136, e25_137, e25_139, e25_140, e25_143, e25_144, e25_145, ↓reduceIte, Nat.reduceAdd, Nat.reduceMul, nI_add, pk_mul, n_lt_t, n_lt_f, n_le_t, n_le_f, n_eq_f, n_eq_t, n_z_f, n_z_t, n_lz, n_zl, not_true_eq_false, not_false_eq_true, gx_n, hl1, hs1, n_31, n_rem, gx_up]
    congr 3
    refine gx_eq (fun x hx => ?_)
    simp only [updN]
    by_cases hx2 : x = 5 * j + 4
    · subst hx2
      rw [if_pos rfl, if_pos (by omega), show 5 * j + 4 - 5 * j = 4 by omega]
      simp only [rwv, h1, if_true, show ¬ (4 < 4) by omega, if_false, show 4 * j + j = 5 * j by omega]
    · grind
  · have h10 : bt o j = 0 := by omega
    rw [h10] at h
    simp (disch := (first | omega | assumption | rfl | (simp (disch := assumption) only [l9_2, l9_4, l9_5, l9_6, l9_7, l9_9, l9_10, l9_11, l9_12, l9_14, l9_15, l9_16, l9_17, l9_51, l9_52, l9_53, l9_55, l9_56, l9_58, l9_61, l9_73, l9_74, l9_75, l9_76, l9_77, l9_79, l9_80, l9_81, l9_82, l9_83, l9_84, l9_85, l10_59, l10_78, l9_D1, l9_D2, l9_D3, l9_D4, l9_T1, l9_T2, l9_T3, l9_T4]; omega) | decide)) only [e25_0, e25_1, e25_3, e25_4, e25_5, e25_6, e25_7, e25_10, e25_11, e25_14, e25_15, e25_17, e25_18, e25_22, e25_23, e25_26, e25_28, e25_31, e25_32, e25_34, e25_35, e25_36, e25_37, e25_38, e25_41, e25_42, e25_45, e25_46, e25_48, e25_50, e25_52, e25_55, e25_56, e25_59, e25_60, e25_62, e25_63, e25_66, e25_67, e25_69, e25_70, e25_72, e25_73, e25_75, e25_78, e25_79, e25_80, e25_82, e25_83, e25_85, e25_86, e25_87, e25_90, e25_92, e25_95, e25_96, e25_99, e25_101, e25_102, e25_105, e25_108, e25_109, e25_112, e25_113, e25_115, e25_116, e25_117, e25_118, e25_120, e25_123, e25_124, e25_125, e25_127, e25_128, e25_130, e25_131, e25_132, e25_133, e25_135, e25_136, e25_137, e25_139, e25_140, e25_143, e25_144, e25_145, ↓reduceIte, Nat.reduceAdd, Nat.reduceMul, nI_add, pk_mul, n_lt_t, n_lt_f, n_le_t, n_le_f, n_eq_f, n_eq_t, n_z_f, n_z_t, n_lz, n_zl, not_true_eq_false, not_false_eq_true, h10, n_bit]
    rw [h, e25_20]
    simp (disch := (first | omega | assumption | rfl | (simp (disch := assumption) only [l9_2, l9_4, l9_5, l9_6, l9_7, l9_9, l9_10, l9_11, l9_12, l9_14, l9_15, l9_16, l9_17, l9_51, l9_52, l9_53, l9_55, l9_56, l9_58, l9_61, l9_73, l9_74, l9_75, l9_76, l9_77, l9_79, l9_80, l9_81, l9_82, l9_83, l9_84, l9_85, l10_59, l10_78, l9_D1, l9_D2, l9_D3, l9_D4, l9_T1, l9_T2, l9_T3, l9_T4]; omega) | decide)) only [e25_0, e25_1, e25_3, e25_4, e25_5, e25_6, e25_7, e25_10, e25_11, e25_14, e25_15, e25_17, e25_18, e25_22, e25_23, e25_26, e25_28, e25_31, e25_32, e25_34, e25_35, e25_36, e25_37, e25_38, e25_41, e25_42, e25_45, e25_46, e25_48, e25_50, e25_52, e25_55, e25_56, e25_59, e25_60, e25_62, e25_63, e25_66, e25_67, e25_69, e25_70, e25_72, e25_73, e25_75, e25_78, e25_79, e25_80, e25_82, e25_83, e25_85, e25_86, e25_87, e25_90, e25_92, e25_95, e25_96, e25_99, e25_101, e25_102, e25_105, e25_108, e25_109, e25_112, e25_113, e25_115, e25_116, e25_117, e25_118, e25_120, e25_123, e25_124, e25_125, e25_127, e25_128, e25_130, e25_131, e25_132, e25_133, e25_135, e25_136, e25_137, e25_139, e25_140, e25_143, e25_144, e25_145, ↓reduceIte, Nat.reduceAdd, Nat.reduceMul, nI_add, pk_mul, n_lt_t, n_lt_f, n_le_t, n_le_f, n_eq_f, n_eq_t, n_z_f, n_z_t, n_lz, n_zl, not_true_eq_false, not_false_eq_true, gx_n, gx_up]
    congr 3
    refine gx_eq (fun x hx => ?_)
    simp only [updN]
    by_cases hx2 : x = 5 * j + 4
    · subst hx2
      rw [if_pos rfl, if_pos (by omega), show 5 * j + 4 - 5 * j = 4 by omega]
      simp only [rwv, h10, Nat.zero_ne_one, if_false, show ¬ (4 = j) by omega]
    · grind
theorem s26_f {c : Nat} {R : Nat → Nat} (hc : c < 4) (hR : ∀ x, x < 20 → R x < 31) : ∀ (n f : Nat), f ≤ 4 → 4 ≤ n + f → q_ex X (26, 2, [.ref 50, .int (nI c), .int (nI f), .null, .null, .null], [], q_w t u (gx 53 20 F R) J) = q_ex X (26, 26, [.ref 50, .int (nI c), .int (nI (fnd R 5 c n f)), .null, .null, .null], [], q_w t u (gx 53 20 F R) J)
  | 0, f, h1, h2 => by
    obtain rfl : f = 4 := by omega
    rw [e26_2]
    simp (disch := (first | omega | assumption | rfl | (simp (disch := assumption) only [l9_2, l9_4, l9_5, l9_6, l9_7, l9_9, l9_10, l9_11, l9_12, l9_14, l9_15, l9_16, l9_17, l9_51, l9_52, l9_53, l9_55, l9_56, l9_58, l9_61, l9_73, l9_74, l9_75, l9_76, l9_77, l9_79, l9_80, l9_81, l9_82, l9_83, l9_84, l9_85, l10_59, l10_78, l9_D1, l9_D2, l9_D3, l9_D4, l9_T1, l9_T2, l9_T3, l9_T4]; omega) | decide)) only [e26_3, e26_4, ↓reduceIte, Nat.reduceAdd, Nat.reduceMul, nI_add, pk_mul, n_lt_t, n_lt_f, n_le_t, n_le_f, n_eq_f, n_eq_t, n_z_f, n_z_t, n_lz, n_zl, not_true_eq_false, not_false_eq_true, fnd]
  | n + 1, f, h1, h2 => by
    by_cases hf4 : f = 4
    · subst hf4
      rw [e26_2]
      simp (disch := (first | omega | assumption | rfl | (simp (disch := assumption) only [l9_2, l9_4, l9_5, l9_6, l9_7, l9_9, l9_10, l9_11, l9_12, l9_14, l9_15, l9_16, l9_17, l9_51, l9_52, l9_53, l9_55, l9_56, l9_58, l9_61, l9_73, l9_74, l9_75, l9_76, l9_77, l9_79, l9_80, l9_81, l9_82, l9_83, l9_84, l9_85, l10_59, l10_78, l9_D1, l9_D2, l9_D3, l9_D4, l9_T1, l9_T2, l9_T3, l9_T4]; omega) | decide)) only [e26_3, e26_4, ↓reduceIte, Nat.reduceAdd, Nat.reduceMul, nI_add, pk_mul, n_lt_t, n_lt_f, n_le_t, n_le_f, n_eq_f, n_eq_t, n_z_f, n_z_t, n_lz, n_zl, not_true_eq_false, not_false_eq_true]
      simp only [fnd, Nat.lt_irrefl, false_and, ↓reduceIte]
    have hf : f < 4 := by omega
    have hr := hR (5 * f + c) (by omega)
    rw [e26_2]
    by_cases h3 : R (5 * f + c) = 0
    · have ih := s26_f hc hR n (f + 1) (by omega) (by omega)
      simp (disch := (first | omega | assumption | rfl | (simp (disch := assumption) only [l9_2, l9_4, l9_5, l9_6, l9_7, l9_9, l9_10, l9_11, l9_12, l9_14, l9_15, l9_16, l9_17, l9_51, l9_52, l9_53, l9_55, l9_56, l9_58, l9_61, l9_73, l9_74, l9_75, l9_76, l9_77, l9_79, l9_80, l9_81, l9_82, l9_83, l9_84, l9_85, l10_59, l10_78, l9_D1, l9_D2, l9_D3, l9_D4, l9_T1, l9_T2, l9_T3, l9_T4]; omega) | decide)) only [e26_0, e26_1, e26_3, e26_4, e26_7, e26_8, e26_11, e26_12, e26_13, e26_14, e26_15, e26_16, e26_17, e26_20, e26_23, e26_27, e26_28, e26_31, e26_32, e26_33, e26_36, e26_37, e26_40, e26_41, e26_42, e26_43, e26_44, e26_45, e26_46_0, e26_46_1, e26_47, e26_48, e26_49, e26_51, e26_53, e26_54, e26_57, e26_58, e26_61, e26_62, e26_63, e26_64, e26_66, e26_67, e26_68, e26_70, e26_71, e26_74, e26_75, e26_76, e26_77, e26_79, e26_80, e26_81, e26_84, e26_85, e26_86, e26_87, e26_89, e26_90, e26_91, e26_92, e26_93, e26_95, e26_96, e26_97, e26_98, e26_99, e26_102, e26_103, e26_106, e26_107, e26_108, e26_109, e26_111, e26_112, e26_114, e26_115, e26_118, e26_121, e26_122, ↓reduceIte, Nat.reduceAdd, Nat.reduceMul, nI_add, pk_mul, n_lt_t, n_lt_f, n_le_t, n_le_f, n_eq_f, n_eq_t, n_z_f, n_z_t, n_lz, n_zl, not_true_eq_false, not_false_eq_true, gx_rd, h3]
      rw [ih]
      simp only [fnd, hf, h3, and_self, ↓reduceIte]
    · simp (disch := (first | omega | assumption | rfl | (simp (disch := assumption) only [l9_2, l9_4, l9_5, l9_6, l9_7, l9_9, l9_10, l9_11, l9_12, l9_14, l9_15, l9_16, l9_17, l9_51, l9_52, l9_53, l9_55, l9_56, l9_58, l9_61, l9_73, l9_74, l9_75, l9_76, l9_77, l9_79, l9_80, l9_81, l9_82, l9_83, l9_84, l9_85, l10_59, l10_78, l9_D1, l9_D2, l9_D3, l9_D4, l9_T1, l9_T2, l9_T3, l9_T4]; omega) | decide)) only [e26_0, e26_1, e26_3, e26_4, e26_7, e26_8, e26_11, e26_12, e26_13, e26_14, e26_15, e26_16, e26_17, e26_20, e26_23, e26_27, e26_28, e26_31, e26_32, e26_33, e26_36, e26_37, e26_40, e26_41, e26_42, e26_43, e26_44, e26_45, e26_46_0, e26_46_1, e26_47, e26_48, e26_49, e26_51, e26_53, e26_54, e26_57, e26_58, e26_61, e26_62, e26_63, e26_64, e26_66, e26_67, e26_68, e26_70, e26_71, e26_74, e26_75, e26_76, e26_77, e26_79, e26_80, e26_81, e26_84, e26_85, e26_86, e26_87, e26_89, e26_90, e26_91, e26_92, e26_93, e26_95, e26_96, e26_97, e26_98, e26_99, e26_102, e26_103, e26_106, e26_107, e26_108, e26_109, e26_111, e26_112, e26_114, e26_115, e26_118, e26_121, e26_122, ↓reduceIte, Nat.reduceAdd, Nat.reduceMul, nI_add, pk_mul, n_lt_t, n_lt_f, n_le_t, n_le_f, n_eq_f, n_eq_t, n_z_f, n_z_t, n_lz, n_zl, not_true_eq_false, not_false_eq_true, gx_rd]
      simp only [fnd, h3, and_false, ↓reduceIte]
/-- bringsPivot: row by row -/
theorem s26_p {c f : Nat} {R : Nat → Nat} {p3 : Nat} (hc : c < 4) (hf : f < 4) (hcf : c ≤ f) (hR : ∀ x, x < 20 → R x < 31) (hp : p3 = ob (R (5 * f + c))) : ∃ d : Value, q_ex X (26, 51, [.ref 50, .int (nI c), .int (nI f), .int (nI p3), .int (nI 0), .null], [], q_w t u (gx 53 20 F R) J) = q_ex X (26, 51, [.ref 50, .int (nI c), .int (nI f), .int (nI p3), .int (nI 5), d], [], q_w t u (gx 53 20 F (piv 5 R c f)) J) := by
  have hp31 : p3 < 31 := by rw [hp]; exact ob_lt (hR _ (by omega))
  have h := q_iter (X := X) (δ := Value) (fun k d => (26, 51, [.ref 50, .int (nI c), .int (nI f), .int (nI p3), .int (nI k), d], [], q_w t u (gx 53 20 F (fun x => if 5 * c ≤ x ∧ x < 5 * c + k then R (5 * f + (x - 5 * c)) * p3 % 31 else if f ≠ c ∧ 5 * f ≤ x ∧ x < 5 * f + k then R (5 * c + (x - 5 * f)) else R x)) J)) 5 (fun k hk d => ?_) .null
  · obtain ⟨d, h⟩ := h
    refine ⟨d, Eq.trans ?_ (h.trans ?_)⟩
    · congr 6
      exact gx_eq (fun x hx => by rw [if_neg (by omega), if_neg (by omega)])
    · congr 6
      exact gx_eq (fun x hx => by simp only [piv, hp])
  · refine ⟨.int (nI (R (5 * c + k))), ?_⟩
    try dsimp only
    have hr := hR (5 * f + k) (by omega)
    have hm : R (5 * f + k) * p3 ≤ 30 * 30 := Nat.mul_le_mul (by omega) (by omega)
    rw [e26_51]
    have r1 : (if 5 * c ≤ 5 * c + k ∧ 5 * c + k < 5 * c + k then R (5 * f + (5 * c + k - 5 * c)) * p3 % 31 else if f ≠ c ∧ 5 * f ≤ 5 * c + k ∧ 5 * c + k < 5 * f + k then R (5 * c + (5 * c + k - 5 * f)) else R (5 * c + k)) = R (5 * c + k) := by
      rw [if_neg (by omega), if_neg (by omega)]
    have r2 : (if 5 * c ≤ 5 * f + k ∧ 5 * f + k < 5 * c + k then R (5 * f + (5 * f + k - 5 * c)) * p3 % 31 else if f ≠ c ∧ 5 * f ≤ 5 * f + k ∧ 5 * f + k < 5 * f + k then R (5 * c + (5 * f + k - 5 * f)) else R (5 * f + k)) = R (5 * f + k) := by
      rw [if_neg (by omega), if_neg (by omega)]
    by_cases hfc : f = c
    · simp (disch := (first | omega | assumption | rfl | (simp (disch := assumption) only [l9_2, l9_4, l9_5, l9_6, l9_7, l9_9, l9_10, l9_11, l9_12, l9_14, l9_15, l9_16, l9_17, l9_51, l9_52, l9_53, l9_55, l9_56, l9_58, l9_61, l9_73, l9_74, l9_75, l9_76, l9_77, l9_79, l9_80, l9_81, l9_82, l9_83, l9_84, l9_85, l10_59, l10_78, l9_D1, l9_D2, l9_D3, l9_D4, l9_T1, l9_T2, l9_T3, l9_T4]; omega) | decide)) only [e26_0, e26_1, e26_3, e26_4, e26_7, e26_8, e26_11, e26_12, e26_13, e26_14, e26_15, e26_16, e26_17, e26_20, e26_23, e26_26, e26_27, e26_28, e26_31, e26_32, e26_33, e26_36, e26_37, e26_40, e26_41, e26_42, e26_43, e26_44, e26_45, e26_46_0, e26_46_1, e26_47, e26_48, e26_49, e26_53, e26_54, e26_57, e26_58, e26_61, e26_62, e26_63, e26_64, e26_66, e26_67, e26_68, e26_70, e26_71, e26_74, e26_75, e26_76, e26_77, e26_79, e26_80, e26_81, e26_84, e26_85, e26_86, e26_87, e26_89, e26_90, e26_91, e26_92, e26_93, e26_95, e26_96, e26_97, e26_98, e26_99, e26_102, e26_103, e26_106, e26_107, e26_108, e26_109, e26_111, e26_112, e26_114, e26_115, e26_118, e26_121, e26_122, ↓reduceIte, Nat.reduceAdd, Nat.reduceMul, nI_add, pk_mul, n_lt_t, n_lt_f, n_le_t, n_le_f, n_eq_f, n_eq_t, n_z_f, n_z_t, n_lz, n_zl, not_true_eq_false, not_false_eq_true, gx_rd, r1, r2, n_31, n_rem, gx_up]
      congr 6
      refine gx_eq (fun x hx => ?_)
      simp only [updN]
      by_cases hx2 : x = 5 * c + k
      · subst hx2
        rw [if_pos rfl, if_pos (by omega), show 5 * c + k - 5 * c = k by omega]
      · grind
    · simp (disch := (first | omega | assumption | rfl | (simp (disch := assumption) only [l9_2, l9_4, l9_5, l9_6, l9_7, l9_9, l9_10, l9_11, l9_12, l9_14, l9_15, l9_16, l9_17, l9_51, l9_52, l9_53, l9_55, l9_56, l9_58, l9_61, l9_73, l9_74, l9_75, l9_76, l9_77, l9_79, l9_80, l9_81, l9_82, l9_83, l9_84, l9_85, l10_59, l10_78, l9_D1, l9_D2, l9_D3, l9_D4, l9_T1, l9_T2, l9_T3, l9_T4]; omega) | decide)) only [e26_0, e26_1, e26_3, e26_4, e26_7, e26_8, e26_11, e26_12, e26_13, e26_14, e26_15, e26_16, e26_17, e26_20, e26_23, e26_26, e26_27, e26_28, e26_31, e26_32, e26_33, e26_36, e26_37, e26_40, e26_41, e26_42, e26_43, e26_44, e26_45, e26_46_0, e26_46_1, e26_47, e26_48, e26_49, e26_53, e26_54, e26_57, e26_58, e26_61, e26_62, e26_63, e26_64, e26_66, e26_67, e26_68, e26_70, e26_71, e26_74, e26_75, e26_76, e26_77, e26_79, e26_80, e26_81, e26_84, e26_85, e26_86, e26_87, e26_89, e26_90, e26_91, e26_92, e26_93, e26_95, e26_96, e26_97, e26_98, e26_99, e26_102, e26_103, e26_106, e26_107, e26_108, e26_109, e26_111, e26_112, e26_114, e26_115, e26_118, e26_121, e26_122, ↓reduceIte, Nat.reduceAdd, Nat.reduceMul, nI_add, pk_mul, n_lt_t, n_lt_f, n_le_t, n_le_f, n_eq_f, n_eq_t, n_z_f, n_z_t, n_lz, n_zl, not_true_eq_false, not_false_eq_true, gx_rd, r1, r2, n_31, n_rem, gx_up]
      congr 6
      refine gx_eq (fun x hx => ?_)
      simp only [updN]
      by_cases hx2 : x = 5 * c + k
      · subst hx2
        rw [if_neg (by omega), if_pos rfl, if_pos (by omega), show 5 * c + k - 5 * c = k by omega]
      · by_cases hx3 : x = 5 * f + k
        · subst hx3
          rw [if_pos rfl, if_neg (by omega), if_pos (by omega), show 5 * f + k - 5 * f = k by omega]
        · grind
theorem s26_t {c : Nat} {R : Nat → Nat} (hc : c < 4) (hR : ∀ x, x < 20 → R x < 31) (hf : ¬ fnd R 5 c 4 c = 4) : q_ex X (26, 0, [.ref 50, .int (nI c), .null, .null, .null, .null], [], q_w t u (gx 53 20 F R) J) = some (some (.int (nI 1)), q_w t u (gx 53 20 F (piv 5 R c (fnd R 5 c 4 c))) J) := by
  obtain ⟨f1, f2, f3⟩ := fnd_spec (R := R) (W := 5) (c := c) 4 c (by omega) (by omega)
  have f4 : fnd R 5 c 4 c < 4 := by omega
  have hr := hR (5 * fnd R 5 c 4 c + c) (by omega)
  have hob := ob_x hr
  obtain ⟨d, h⟩ := s26_p (X := X) (t := t) (u := u) (J := J) (F := F) (R := R) (c := c) (f := fnd R 5 c 4 c) hc f4 f1 hR rfl
  simp (disch := (first | omega | assumption | rfl | (simp (disch := assumption) only [l9_2, l9_4, l9_5, l9_6, l9_7, l9_9, l9_10, l9_11, l9_12, l9_14, l9_15, l9_16, l9_17, l9_51, l9_52, l9_53, l9_55, l9_56, l9_58, l9_61, l9_73, l9_74, l9_75, l9_76, l9_77, l9_79, l9_80, l9_81, l9_82, l9_83, l9_84, l9_85, l10_59, l10_78, l9_D1, l9_D2, l9_D3, l9_D4, l9_T1, l9_T2, l9_T3, l9_T4]; omega) | decide)) only [e26_0, e26_1]
  rw [s26_f hc hR 4 c (by omega) (by omega)]
  simp (disch := (first | omega | assumption | rfl | (simp (disch := assumption) only [l9_2, l9_4, l9_5, l9_6, l9_7, l9_9, l9_10, l9_11, l9_12, l9_14, l9_15, l9_16, l9_17, l9_51, l9_52, l9_53, l9_55, l9_56, l9_58, l9_61, l9_73, l9_74, l9_75, l9_76, l9_77, l9_79, l9_80, l9_81, l9_82, l9_83, l9_84, l9_85, l10_59, l10_78, l9_D1, l9_D2, l9_D3, l9_D4, l9_T1, l9_T2, l9_T3, l9_T4]; omega) | decide)) only [e26_0, e26_1, e26_3, e26_4, e26_7, e26_8, e26_11, e26_12, e26_13, e26_14, e26_15, e26_16, e26_17, e26_20, e26_23, e26_26, e26_27, e26_28, e26_31, e26_32, e26_33, e26_36, e26_37, e26_40, e26_41, e26_42, e26_43, e26_44, e26_45, e26_46_0, e26_46_1, e26_47, e26_48, e26_49, e26_53, e26_54, e26_57, e26_58, e26_61, e26_62, e26_63, e26_64, e26_66, e26_67, e26_68, e26_70, e26_71, e26_74, e26_75, e26_76, e26_77, e26_79, e26_80, e26_81, e26_84, e26_85, e26_86, e26_87, e26_89, e26_90, e26_91, e26_92, e26_93, e26_95, e26_96, e26_97, e26_98, e26_99, e26_102, e26_103, e26_106, e26_107, e26_108, e26_109, e26_111, e26_112, e26_114, e26_115, e26_118, e26_121, e26_122, ↓reduceIte, Nat.reduceAdd, Nat.reduceMul, nI_add, pk_mul, n_lt_t, n_lt_f, n_le_t, n_le_f, n_eq_f, n_eq_t, n_z_f, n_z_t, n_lz, n_zl, not_true_eq_false, not_false_eq_true, gx_rd, hob]
  rw [h, e26_51]
  simp (disch := (first | omega | assumption | rfl | (simp (disch := assumption) only [l9_2, l9_4, l9_5, l9_6, l9_7, l9_9, l9_10, l9_11, l9_12, l9_14, l9_15, l9_16, l9_17, l9_51, l9_52, l9_53, l9_55, l9_56, l9_58, l9_61, l9_73, l9_74, l9_75, l9_76, l9_77, l9_79, l9_80, l9_81, l9_82, l9_83, l9_84, l9_85, l10_59, l10_78, l9_D1, l9_D2, l9_D3, l9_D4, l9_T1, l9_T2, l9_T3, l9_T4]; omega) | decide)) only [e26_0, e26_1, e26_3, e26_4, e26_7, e26_8, e26_11, e26_12, e26_13, e26_14, e26_15, e26_16, e26_17, e26_20, e26_23, e26_26, e26_27, e26_28, e26_31, e26_32, e26_33, e26_36, e26_37, e26_40, e26_41, e26_42, e26_43, e26_44, e26_45, e26_46_0, e26_46_1, e26_47, e26_48, e26_49, e26_53, e26_54, e26_57, e26_58, e26_61, e26_62, e26_63, e26_64, e26_66, e26_67, e26_68, e26_70, e26_71, e26_74, e26_75, e26_76, e26_77, e26_79, e26_80, e26_81, e26_84, e26_85, e26_86, e26_87, e26_89, e26_90, e26_91, e26_92, e26_93, e26_95, e26_96, e26_97, e26_98, e26_99, e26_102, e26_103, e26_106, e26_107, e26_108, e26_109, e26_111, e26_112, e26_114, e26_115, e26_118, e26_121, e26_122, ↓reduceIte, Nat.reduceAdd, Nat.reduceMul, nI_add, pk_mul, n_lt_t, n_lt_f, n_le_t, n_le_f, n_eq_f, n_eq_t, n_z_f, n_z_t, n_lz, n_zl, not_true_eq_false, not_false_eq_true]
theorem s26_n {c : Nat} {R : Nat → Nat} (hc : c < 4) (hR : ∀ x, x < 20 → R x < 31) (hf : fnd R 5 c 4 c = 4) : q_ex X (26, 0, [.ref 50, .int (nI c), .null, .null, .null, .null], [], q_w t u (gx 53 20 F R) J) = some (some (.int (nI 0)), q_w t u (gx 53 20 F R) J) := by
  simp (disch := (first | omega | assumption | rfl | (simp (disch := assumption) only [l9_2, l9_4, l9_5, l9_6, l9_7, l9_9, l9_10, l9_11, l9_12, l9_14, l9_15, l9_16, l9_17, l9_51, l9_52, l9_53, l9_55, l9_56, l9_58, l9_61, l9_73, l9_74, l9_75, l9_76, l9_77, l9_79, l9_80, l9_81, l9_82, l9_83, l9_84, l9_85, l10_59, l10_78, l9_D1, l9_D2, l9_D3, l9_D4, l9_T1, l9_T2, l9_T3, l9_T4]; omega) | decide)) only [e26_0, e26_1]
  rw [s26_f hc hR 4 c (by omega) (by omega), hf]
  simp (disch := (first | omega | assumption | rfl | (simp (disch := assumption) only [l9_2, l9_4, l9_5, l9_6, l9_7, l9_9, l9_10, l9_11, l9_12, l9_14, l9_15, l9_16, l9_17, l9_51, l9_52, l9_53, l9_55, l9_56, l9_58, l9_61, l9_73, l9_74, l9_75, l9_76, l9_77, l9_79, l9_80, l9_81, l9_82, l9_83, l9_84, l9_85, l10_59, l10_78, l9_D1, l9_D2, l9_D3, l9_D4, l9_T1, l9_T2, l9_T3, l9_T4]; omega) | decide)) only [e26_0, e26_1, e26_3, e26_4, e26_7, e26_8, e26_11, e26_12, e26_13, e26_14, e26_15, e26_16, e26_17, e26_20, e26_23, e26_26, e26_27, e26_28, e26_31, e26_32, e26_33, e26_36, e26_37, e26_40, e26_41, e26_42, e26_43, e26_44, e26_45, e26_46_0, e26_46_1, e26_47, e26_48, e26_49, e26_53, e26_54, e26_57, e26_58, e26_61, e26_62, e26_63, e26_64, e26_66, e26_67, e26_68, e26_70, e26_71, e26_74, e26_75, e26_76, e26_77, e26_79, e26_80, e26_81, e26_84, e26_85, e26_86, e26_87, e26_89, e26_90, e26_91, e26_92, e26_93, e26_95, e26_96, e26_97, e26_98, e26_99, e26_102, e26_103, e26_106, e26_107, e26_108, e26_109, e26_111, e26_112, e26_114, e26_115, e26_118, e26_121, e26_122, ↓reduceIte, Nat.reduceAdd, Nat.reduceMul, nI_add, pk_mul, n_lt_t, n_lt_f, n_le_t, n_le_f, n_eq_f, n_eq_t, n_z_f, n_z_t, n_lz, n_zl, not_true_eq_false, not_false_eq_true]
/-- clearsColumn: one row -/
theorem s27_i {c j f3 : Nat} {R : Nat → Nat} (hc : c < 4) (hj : j < 4) (hjc : j ≠ c) (hR : ∀ x, x < 20 → R x < 31) (hf3 : f3 ≤ 31) : q_ex X (27, 35, [.ref 50, .int (nI c), .int (nI j), .int (nI f3), .int (nI 0)], [], q_w t u (gx 53 20 F R) J) = q_ex X (27, 35, [.ref 50, .int (nI c), .int (nI j), .int (nI f3), .int (nI 5)], [], q_w t u (gx 53 20 F (fun x => if 5 * j ≤ x ∧ x < 5 * j + 5 then (R x + f3 * R (5 * c + (x - 5 * j))) % 31 else R x)) J) := by
  have h := q_iter0 (X := X) (fun k => (27, 35, [.ref 50, .int (nI c), .int (nI j), .int (nI f3), .int (nI k)], [], q_w t u (gx 53 20 F (fun x => if 5 * j ≤ x ∧ x < 5 * j + k then (R x + f3 * R (5 * c + (x - 5 * j))) % 31 else R x)) J)) 5 (fun k hk => ?_)
  · refine Eq.trans ?_ h
    congr 6
    exact gx_eq (fun x hx => by rw [if_neg (by omega)])
  · try dsimp only
    rw [e27_35]
    have h1 := hR (5 * j + k) (by omega)
    have h2 := hR (5 * c + k) (by omega)
    have hm : f3 * R (5 * c + k) ≤ 31 * 30 := Nat.mul_le_mul (by omega) (by omega)
    have r1 : (if 5 * j ≤ 5 * j + k ∧ 5 * j + k < 5 * j + k then (R (5 * j + k) + f3 * R (5 * c + (5 * j + k - 5 * j))) % 31 else R (5 * j + k)) = R (5 * j + k) := by rw [if_neg (by omega)]
    have r2 : (if 5 * j ≤ 5 * c + k ∧ 5 * c + k < 5 * j + k then (R (5 * c + k) + f3 * R (5 * c + (5 * c + k - 5 * j))) % 31 else R (5 * c + k)) = R (5 * c + k) := by rw [if_neg (by omega)]
    simp (disch := (first | omega | assumption | rfl | (simp (disch := assumption) only [l9_2, l9_4, l9_5, l9_6, l9_7, l9_9, l9_10, l9_11, l9_12, l9_14, l9_15, l9_16, l9_17, l9_51, l9_52, l9_53, l9_55, l9_56, l9_58, l9_61, l9_73, l9_74, l9_75, l9_76, l9_77, l9_79, l9_80, l9_81, l9_82, l9_83, l9_84, l9_85, l10_59, l10_78, l9_D1, l9_D2, l9_D3, l9_D4, l9_T1, l9_T2, l9_T3, l9_T4]; omega) | decide)) only [e27_0, e27_1, e27_3, e27_4, e27_7, e27_9, e27_10, e27_13, e27_14, e27_15, e27_16, e27_17, e27_18, e27_19, e27_20, e27_21, e27_22, e27_23, e27_26, e27_27, e27_29, e27_32, e27_33, e27_37, e27_38, e27_41, e27_42, e27_45, e27_46, e27_47, e27_48, e27_50, e27_51, e27_52, e27_55, e27_56, e27_57, e27_58, e27_60, e27_61, e27_62, e27_63, e27_64, e27_67, e27_68, e27_69, e27_70, e27_72, e27_73, e27_74, e27_75, e27_76, e27_78, e27_79, e27_80, e27_83, e27_86, e27_89, e27_92, ↓reduceIte, Nat.reduceAdd, Nat.reduceMul, nI_add, pk_mul, n_lt_t, n_lt_f, n_le_t, n_le_f, n_eq_f, n_eq_t, n_z_f, n_z_t, n_lz, n_zl, not_true_eq_false, not_false_eq_true, gx_rd, r1, r2, n_31, n_rem, gx_up]
    congr 6
    refine gx_eq (fun x hx => ?_)
    simp only [updN]
    by_cases hx2 : x = 5 * j + k
    · subst hx2
      rw [if_pos rfl, if_pos (by omega), show 5 * j + k - 5 * j = k by omega]
    · grind
theorem n_sub {a b : Nat} (h : b ≤ a) : nI a - nI b = nI (a - b) := pk_sub h
theorem s27 {c : Nat} {R : Nat → Nat} (hc : c < 4) (hR : ∀ x, x < 20 → R x < 31) : q_ex X (27, 0, [.ref 50, .int (nI c), .null, .null, .null], [], q_w t u (gx 53 20 F R) J) = some (none, q_w t u (gx 53 20 F (clr 5 R c)) J) := by
  have h := q_iter (X := X) (δ := Value × Value) (fun k d => (27, 2, [.ref 50, .int (nI c), .int (nI k), d.1, d.2], [], q_w t u (gx 53 20 F (fun x => if x < 5 * k then clr 5 R c x else R x)) J)) 4 (fun k hk d => ?_) (.null, .null)
  · obtain ⟨d, h⟩ := h
    simp only [e27_0, e27_1]
    have h' : q_ex X (27, 2, [.ref 50, .int (nI c), .int (nI 0), .null, .null], [], q_w t u (gx 53 20 F R) J) = q_ex X (27, 2, [.ref 50, .int (nI c), .int (nI 4), d.1, d.2], [], q_w t u (gx 53 20 F (clr 5 R c)) J) := by
      refine Eq.trans ?_ (h.trans ?_)
      · rw [gx_eq (R := fun x => if x < 5 * 0 then clr 5 R c x else R x) (R' := R) (fun x hx => by rw [if_neg (by omega)])]
      · rw [gx_eq (R := fun x => if x < 5 * 4 then clr 5 R c x else R x) (R' := clr 5 R c) (fun x hx => by rw [if_pos (by omega)])]
    rw [h', e27_2]
    simp (disch := (first | omega | assumption | rfl | (simp (disch := assumption) only [l9_2, l9_4, l9_5, l9_6, l9_7, l9_9, l9_10, l9_11, l9_12, l9_14, l9_15, l9_16, l9_17, l9_51, l9_52, l9_53, l9_55, l9_56, l9_58, l9_61, l9_73, l9_74, l9_75, l9_76, l9_77, l9_79, l9_80, l9_81, l9_82, l9_83, l9_84, l9_85, l10_59, l10_78, l9_D1, l9_D2, l9_D3, l9_D4, l9_T1, l9_T2, l9_T3, l9_T4]; omega) | decide)) only [e27_0, e27_1, e27_3, e27_4, e27_7, e27_9, e27_10, e27_13, e27_14, e27_15, e27_16, e27_17, e27_18, e27_19, e27_20, e27_21, e27_22, e27_23, e27_26, e27_27, e27_29, e27_32, e27_33, e27_37, e27_38, e27_41, e27_42, e27_45, e27_46, e27_47, e27_48, e27_50, e27_51, e27_52, e27_55, e27_56, e27_57, e27_58, e27_60, e27_61, e27_62, e27_63, e27_64, e27_67, e27_68, e27_69, e27_70, e27_72, e27_73, e27_74, e27_75, e27_76, e27_78, e27_79, e27_80, e27_83, e27_86, e27_89, e27_92, ↓reduceIte, Nat.reduceAdd, Nat.reduceMul, nI_add, pk_mul, n_lt_t, n_lt_f, n_le_t, n_le_f, n_eq_f, n_eq_t, n_z_f, n_z_t, n_lz, n_zl, not_true_eq_false, not_false_eq_true]
  · have hb : ∀ x, x < 20 → (if x < 5 * k then clr 5 R c x else R x) < 31 := by
      intro x hx
      have := hR x hx
      simp only [clr]
      split
      · split
        · exact Nat.mod_lt _ (by decide)
        · omega
      · omega
    have hrk := hR (5 * k + c) (by omega)
    have r1 : (if 5 * k + c < 5 * k then clr 5 R c (5 * k + c) else R (5 * k + c)) = R (5 * k + c) := by rw [if_neg (by omega)]
    by_cases hkc : k = c
    · refine ⟨(.int (nI (31 - R (5 * k + c))), d.2), ?_⟩
      try dsimp only
      rw [e27_2]
      simp (disch := (first | omega | assumption | rfl | (simp (disch := assumption) only [l9_2, l9_4, l9_5, l9_6, l9_7, l9_9, l9_10, l9_11, l9_12, l9_14, l9_15, l9_16, l9_17, l9_51, l9_52, l9_53, l9_55, l9_56, l9_58, l9_61, l9_73, l9_74, l9_75, l9_76, l9_77, l9_79, l9_80, l9_81, l9_82, l9_83, l9_84, l9_85, l10_59, l10_78, l9_D1, l9_D2, l9_D3, l9_D4, l9_T1, l9_T2, l9_T3, l9_T4]; omega) | decide)) only [e27_0, e27_1, e27_3, e27_4, e27_7, e27_9, e27_10, e27_13, e27_14, e27_15, e27_16, e27_17, e27_18, e27_19, e27_20, e27_21, e27_22, e27_23, e27_26, e27_27, e27_29, e27_32, e27_33, e27_37, e27_38, e27_41, e27_42, e27_45, e27_46, e27_47, e27_48, e27_50, e27_51, e27_52, e27_55, e27_56, e27_57, e27_58, e27_60, e27_61, e27_62, e27_63, e27_64, e27_67, e27_68, e27_69, e27_70, e27_72, e27_73, e27_74, e27_75, e27_76, e27_78, e27_79, e27_80, e27_83, e27_86, e27_89, e27_92, ↓reduceIte, Nat.reduceAdd, Nat.reduceMul, nI_add, pk_mul, n_lt_t, n_lt_f, n_le_t, n_le_f, n_eq_f, n_eq_t, n_z_f, n_z_t, n_lz, n_zl, not_true_eq_false, not_false_eq_true, gx_rd, r1, n_sub]
      congr 6
      refine gx_eq (fun x hx => ?_)
      simp only [clr]
      grind
    · by_cases hz : R (5 * k + c) = 0
      · refine ⟨(.int (nI 31), d.2), ?_⟩
        try dsimp only
        rw [e27_2]
        simp (disch := (first | omega | assumption | rfl | (simp (disch := assumption) only [l9_2, l9_4, l9_5, l9_6, l9_7, l9_9, l9_10, l9_11, l9_12, l9_14, l9_15, l9_16, l9_17, l9_51, l9_52, l9_53, l9_55, l9_56, l9_58, l9_61, l9_73, l9_74, l9_75, l9_76, l9_77, l9_79, l9_80, l9_81, l9_82, l9_83, l9_84, l9_85, l10_59, l10_78, l9_D1, l9_D2, l9_D3, l9_D4, l9_T1, l9_T2, l9_T3, l9_T4]; omega) | decide)) only [e27_0, e27_1, e27_3, e27_4, e27_7, e27_9, e27_10, e27_13, e27_14, e27_15, e27_16, e27_17, e27_18, e27_19, e27_20, e27_21, e27_22, e27_23, e27_26, e27_27, e27_29, e27_32, e27_33, e27_37, e27_38, e27_41, e27_42, e27_45, e27_46, e27_47, e27_48, e27_50, e27_51, e27_52, e27_55, e27_56, e27_57, e27_58, e27_60, e27_61, e27_62, e27_63, e27_64, e27_67, e27_68, e27_69, e27_70, e27_72, e27_73, e27_74, e27_75, e27_76, e27_78, e27_79, e27_80, e27_83, e27_86, e27_89, e27_92, ↓reduceIte, Nat.reduceAdd, Nat.reduceMul, nI_add, pk_mul, n_lt_t, n_lt_f, n_le_t, n_le_f, n_eq_f, n_eq_t, n_z_f, n_z_t, n_lz, n_zl, not_true_eq_false, not_false_eq_true, gx_rd, r1.trans hz, n_sub, Nat.sub_zero]
        congr 6
        refine gx_eq (fun x hx => ?_)
        by_cases hx2 : 5 * k ≤ x ∧ x < 5 * (k + 1)
        · have hq : x / 5 = k := by omega
          have hrx := hR x hx
          rw [if_neg (by omega), if_pos (by omega)]
          simp only [clr, hq, hz, Nat.sub_zero, Nat.add_mul_mod_self_left]
          rw [if_pos ⟨by omega, hkc⟩, Nat.mod_eq_of_lt hrx]
        · grind
      · refine ⟨(.int (nI (31 - R (5 * k + c))), .int (nI 5)), ?_⟩
        try dsimp only
        rw [e27_2]
        simp (disch := (first | omega | assumption | rfl | (simp (disch := assumption) only [l9_2, l9_4, l9_5, l9_6, l9_7, l9_9, l9_10, l9_11, l9_12, l9_14, l9_15, l9_16, l9_17, l9_51, l9_52, l9_53, l9_55, l9_56, l9_58, l9_61, l9_73, l9_74, l9_75, l9_76, l9_77, l9_79, l9_80, l9_81, l9_82, l9_83, l9_84, l9_85, l10_59, l10_78, l9_D1, l9_D2, l9_D3, l9_D4, l9_T1, l9_T2, l9_T3, l9_T4]; omega) | decide)) only [e27_0, e27_1, e27_3, e27_4, e27_7, e27_9, e27_10, e27_13, e27_14, e27_15, e27_16, e27_17, e27_18, e27_19, e27_20, e27_21, e27_22, e27_23, e27_26, e27_27, e27_29, e27_32, e27_33, e27_37, e27_38, e27_41, e27_42, e27_45, e27_46, e27_47, e27_48, e27_50, e27_51, e27_52, e27_55, e27_56, e27_57, e27_58, e27_60, e27_61, e27_62, e27_63, e27_64, e27_67, e27_68, e27_69, e27_70, e27_72, e27_73, e27_74, e27_75, e27_76, e27_78, e27_79, e27_80, e27_83, e27_86, e27_89, e27_92, ↓reduceIte, Nat.reduceAdd, Nat.reduceMul, nI_add, pk_mul, n_lt_t, n_lt_f, n_le_t, n_le_f, n_eq_f, n_eq_t, n_z_f, n_z_t, n_lz, n_zl, not_true_eq_false, not_false_eq_true, gx_rd, r1, n_sub]
        rw [s27_i hc hk hkc hb (by omega), e27_35]
        simp (disch := (first | omega | assumption | rfl | (simp (disch := assumption) only [l9_2, l9_4, l9_5, l9_6, l9_7, l9_9, l9_10, l9_11, l9_12, l9_14, l9_15, l9_16, l9_17, l9_51, l9_52, l9_53, l9_55, l9_56, l9_58, l9_61, l9_73, l9_74, l9_75, l9_76, l9_77, l9_79, l9_80, l9_81, l9_82, l9_83, l9_84, l9_85, l10_59, l10_78, l9_D1, l9_D2, l9_D3, l9_D4, l9_T1, l9_T2, l9_T3, l9_T4]; omega) | decide)) only [e27_0, e27_1, e27_3, e27_4, e27_7, e27_9, e27_10, e27_13, e27_14, e27_15, e27_16, e27_17, e27_18, e27_19, e27_20, e27_21, e27_22, e27_23, e27_26, e27_27, e27_29, e27_32, e27_33, e27_37, e27_38, e27_41, e27_42, e27_45, e27_46, e27_47, e27_48, e27_50, e27_51, e27_52, e27_55, e27_56, e27_57, e27_58, e27_60, e27_61, e27_62, e27_63, e27_64, e27_67, e27_68, e27_69, e27_70, e27_72, e27_73, e27_74, e27_75, e27_76, e27_78, e27_79, e27_80, e27_83, e27_86, e27_89, e27_92, ↓reduceIte, Nat.reduceAdd, Nat.reduceMul, nI_add, pk_mul, n_lt_t, n_lt_f, n_le_t, n_le_f, n_eq_f, n_eq_t, n_z_f, n_z_t, n_lz, n_zl, not_true_eq_false, not_false_eq_true]
        congr 6
        refine gx_eq (fun x hx => ?_)
        by_cases hx2 : 5 * k ≤ x ∧ x < 5 * (k + 1)
        · have hq : x / 5 = k := by omega
          have hmm : x % 5 = x - 5 * k := by omega
          have hy : (if 5 * c + (x - 5 * k) < 5 * k then clr 5 R c (5 * c + (x - 5 * k)) else R (5 * c + (x - 5 * k))) = R (5 * c + (x - 5 * k)) := by
            split
            · simp only [clr]
              rw [if_neg (by omega)]
            · rfl
          rw [if_pos (by omega), hy, if_neg (by omega), if_pos (by omega)]
          simp only [clr, hq, hmm]
          rw [if_pos ⟨by omega, hkc⟩]
        · grind
end S41
