/-! ===== QuietPairs$Symbols: what is learnt ===== -/
def mk (i : Nat) : Nat := ([1, 1, 1, 1, 1, 30, 1, 30, 1, 1, 30, 30, 1, 30, 30, 1] : List Nat).getD i 0
theorem mk_x {i : Nat} (h : i < 16) : q_x0 i = nI (mk i) := by
  have h1 : ∀ i, i < 16 → q_x0 i = nI (mk i) := by decide +kernel
  exact h1 i h
theorem mk_le (i : Nat) (h : i < 16) : mk i < 31 := by
  have h1 : ∀ i, i < 16 → mk i < 31 := by decide +kernel
  exact h1 i h
def ob (i : Nat) : Nat := ([0, 1, 16, 21, 8, 25, 26, 9, 4, 7, 28, 17, 13, 12, 20, 29, 2, 11, 19, 18, 14, 3, 24, 27, 22, 5, 6, 23, 10, 15, 30] : List Nat).getD i 0
theorem ob_x {i : Nat} (h : i < 31) : q_x1 i = nI (ob i) := by
  have h1 : ∀ i, i < 31 → q_x1 i = nI (ob i) := by decide +kernel
  exact h1 i h
theorem ob_lt {i : Nat} (h : i < 31) : ob i < 31 := by
  have h1 : ∀ i, i < 31 → ob i < 31 := by decide +kernel
  exact h1 i h
/-- Java's % by 31 of a number that isn't negative -/
theorem n_rem {a : Nat} (h : a < 2 ^ 31) : nI a - nI a / nI 31 * nI 31 = nI (a % 31) := pk_rem h (by decide) (by decide)
theorem n_31 : ¬ nI 31 = 0 := by decide
/-- a row of numbers below b -/
def rowN (f : Nat → Int32) (E : Nat → Nat) (n b : Nat) : Prop := ∀ i, i < n → f i = nI (E i) ∧ E i < b
/-- the first k of LINES that are ON: of EARS (from c on) times MARKS of a beat -/
def hsS (E : Nat → Nat) (o c b s : Nat) : Nat → Nat
  | 0 => s
  | k + 1 => if bt o k = 1 then hsS E o c b s k + E (c + k) * mk (4 * k + b) else hsS E o c b s k
theorem hsS_le {E : Nat → Nat} {o c b s : Nat} (hE : ∀ i, i < c + 4 → E i < 31) (hb : b < 4) (hs : s < 31) : ∀ k, k ≤ 4 → hsS E o c b s k ≤ 31 + 900 * k
  | 0, _ => by simp only [hsS]; omega
  | k + 1, hk => by
    have ih := hsS_le (o := o) hE hb hs k (by omega)
    have h1 := hE (c + k) (by omega)
    have h2 := mk_le (4 * k + b) (by omega)
    have h3 : E (c + k) * mk (4 * k + b) ≤ 30 * 30 := Nat.mul_le_mul (by omega) (by omega)
    simp only [hsS]
    split <;> omega
/-- what a LINE gets in a beat -/
def hB (E T : Nat → Nat) (o j b : Nat) : Nat := hsS E o (4 * j) b (T (4 * j + b)) 4 % 31
section S40
variable {X : Nat × (Nat → Int32)} {t u : Nat} {F : Nat → Nat → Int32} {J : Nat → Int64} {w : q_M}
theorem s4 {o i : Nat} (hO : F 13 0 = nI o) (ho : o < 16) (hi : i < 4) : q_ex X (4, 0, [.ref 13, .int (nI i)], [], q_w t u F J) = some (some (.int (nI (bt o i))), q_w t u F J) := by
  have hb := bt_lt o i
  by_cases h : bt o i = 1
  · simp (disch := (first | omega | assumption | rfl | (simp (disch := assumption) only [l9_2, l9_4, l9_5, l9_6, l9_7, l9_9, l9_10, l9_11, l9_12, l9_14, l9_15, l9_16, l9_17, l9_51, l9_52, l9_53, l9_55, l9_56, l9_58, l9_61, l9_73, l9_74, l9_75, l9_76, l9_77, l9_79, l9_80, l9_81, l9_82, l9_83, l9_84, l9_85, l10_59, l10_78, l9_D1, l9_D2, l9_D3, l9_D4, l9_T1, l9_T2, l9_T3, l9_T4]; omega) | decide)) only [e4_0, e4_1, e4_4, e4_5, e4_6, e4_7, e4_8, e4_9, e4_12, e4_13, e4_16, e4_17, isD_13, ↓reduceIte, Nat.reduceAdd, Nat.reduceMul, nI_add, pk_mul, n_lt_t, n_lt_f, n_le_t, n_le_f, n_eq_f, n_eq_t, n_z_f, n_z_t, n_lz, n_zl, not_true_eq_false, not_false_eq_true, hO, n_bit, h]
  · have h0 : bt o i = 0 := by omega
    simp (disch := (first | omega | assumption | rfl | (simp (disch := assumption) only [l9_2, l9_4, l9_5, l9_6, l9_7, l9_9, l9_10, l9_11, l9_12, l9_14, l9_15, l9_16, l9_17, l9_51, l9_52, l9_53, l9_55, l9_56, l9_58, l9_61, l9_73, l9_74, l9_75, l9_76, l9_77, l9_79, l9_80, l9_81, l9_82, l9_83, l9_84, l9_85, l10_59, l10_78, l9_D1, l9_D2, l9_D3, l9_D4, l9_T1, l9_T2, l9_T3, l9_T4]; omega) | decide)) only [e4_0, e4_1, e4_4, e4_5, e4_6, e4_7, e4_8, e4_9, e4_12, e4_13, e4_16, e4_17, isD_13, ↓reduceIte, Nat.reduceAdd, Nat.reduceMul, nI_add, pk_mul, n_lt_t, n_lt_f, n_le_t, n_le_f, n_eq_f, n_eq_t, n_z_f, n_z_t, n_lz, n_zl, not_true_eq_false, not_false_eq_true, hO, n_bit, h0]
theorem s22_i {o j b : Nat} {E T : Nat → Nat} (hO : F 13 0 = nI o) (ho : o < 16) (hj : j < 4) (hb : b < 4) (hE : rowN (F 14) E 16 31) (hT : T (4 * j + b) < 31) : q_ex X (22, 22, [.ref 50, .ref 13, .int (nI j), .int (nI b), .int (nI (T (4 * j + b))), .int (nI 0)], [], q_w t u F J) = q_ex X (22, 22, [.ref 50, .ref 13, .int (nI j), .int (nI b), .int (nI (hsS E o (4 * j) b (T (4 * j + b)) 4)), .int (nI 4)], [], q_w t u F J) := by
  refine q_iter0 (X := X) (fun k => (22, 22, [.ref 50, .ref 13, .int (nI j), .int (nI b), .int (nI (hsS E o (4 * j) b (T (4 * j + b)) k)), .int (nI k)], [], q_w t u F J)) 4 (fun k hk => ?_)
  try dsimp only
  rw [e22_22]
  obtain ⟨he1, he2⟩ := hE (4 * j + k) (by omega)
  have hm := mk_x (i := 4 * k + b) (by omega)
  by_cases h2 : bt o k = 1
  · simp (disch := (first | omega | assumption | rfl | (simp (disch := assumption) only [l9_2, l9_4, l9_5, l9_6, l9_7, l9_9, l9_10, l9_11, l9_12, l9_14, l9_15, l9_16, l9_17, l9_51, l9_52, l9_53, l9_55, l9_56, l9_58, l9_61, l9_73, l9_74, l9_75, l9_76, l9_77, l9_79, l9_80, l9_81, l9_82, l9_83, l9_84, l9_85, l10_59, l10_78, l9_D1, l9_D2, l9_D3, l9_D4, l9_T1, l9_T2, l9_T3, l9_T4]; omega) | decide)) only [e22_0, e22_1, e22_3, e22_4, e22_7, e22_8, e22_11, e22_12, e22_13, e22_14, e22_15, e22_16, e22_17, e22_19, e22_20, e22_24, e22_25, e22_28, e22_29, e22_31, e22_34, e22_37, e22_39, e22_40, e22_43, e22_44, e22_45, e22_46, e22_48, e22_49, e22_50, e22_53, e22_54, e22_56, e22_57, e22_58, e22_59_0, e22_59_1, e22_60, e22_61, e22_62, e22_64, e22_67, e22_70, e22_71, e22_74, e22_75, e22_77, e22_79, e22_80, e22_81, e22_84, e22_87, isD_13, ↓reduceIte, Nat.reduceAdd, Nat.reduceMul, nI_add, pk_mul, n_lt_t, n_lt_f, n_le_t, n_le_f, n_eq_f, n_eq_t, n_z_f, n_z_t, n_lz, n_zl, not_true_eq_false, not_false_eq_true, s4 hO ho hk, Option.bind_some, Option.toList_some, Option.toList_none, List.cons_append, List.nil_append, h2, he1, hm]
    simp only [hsS, h2, ↓reduceIte]
  · have h0 : bt o k = 0 := by have := bt_lt o k; omega
    simp (disch := (first | omega | assumption | rfl | (simp (disch := assumption) only [l9_2, l9_4, l9_5, l9_6, l9_7, l9_9, l9_10, l9_11, l9_12, l9_14, l9_15, l9_16, l9_17, l9_51, l9_52, l9_53, l9_55, l9_56, l9_58, l9_61, l9_73, l9_74, l9_75, l9_76, l9_77, l9_79, l9_80, l9_81, l9_82, l9_83, l9_84, l9_85, l10_59, l10_78, l9_D1, l9_D2, l9_D3, l9_D4, l9_T1, l9_T2, l9_T3, l9_T4]; omega) | decide)) only [e22_0, e22_1, e22_3, e22_4, e22_7, e22_8, e22_11, e22_12, e22_13, e22_14, e22_15, e22_16, e22_17, e22_19, e22_20, e22_24, e22_25, e22_28, e22_29, e22_31, e22_34, e22_37, e22_39, e22_40, e22_43, e22_44, e22_45, e22_46, e22_48, e22_49, e22_50, e22_53, e22_54, e22_56, e22_57, e22_58, e22_59_0, e22_59_1, e22_60, e22_61, e22_62, e22_64, e22_67, e22_70, e22_71, e22_74, e22_75, e22_77, e22_79, e22_80, e22_81, e22_84, e22_87, isD_13, ↓reduceIte, Nat.reduceAdd, Nat.reduceMul, nI_add, pk_mul, n_lt_t, n_lt_f, n_le_t, n_le_f, n_eq_f, n_eq_t, n_z_f, n_z_t, n_lz, n_zl, not_true_eq_false, not_false_eq_true, s4 hO ho hk, Option.bind_some, Option.toList_some, Option.toList_none, List.cons_append, List.nil_append, h0]
    simp only [hsS, h0, Nat.zero_ne_one, ↓reduceIte]
theorem s22 {o j : Nat} {E T : Nat → Nat} (hO : F 13 0 = nI o) (ho : o < 16) (hj : j < 4) (hE : rowN (F 14) E 16 31) (hT : rowN (F 16) T 16 31) : q_ex X (22, 0, [.ref 50, .ref 13, .int (nI j), .null, .null, .null], [], q_w t u F J) = some (none, q_w t u (va_up F 51 (fun i => if i < 4 then nI (hB E T o j i) else F 51 i)) J) := by
  have h := q_iter (X := X) (δ := Value × Value) (fun k d => (22, 2, [.ref 50, .ref 13, .int (nI j), .int (nI k), d.1, d.2], [], q_w t u (va_up F 51 (fun i => if i < k then nI (hB E T o j i) else F 51 i)) J)) 4 (fun k hk d => ?_) (.null, .null)
  · obtain ⟨d, h⟩ := h
    simp only [e22_0, e22_1]
    refine Eq.trans ?_ (h.trans ?_)
    · congr 6
      funext b i
      simp only [va_app]
      grind
    · rw [e22_2]
      simp (disch := (first | omega | assumption | rfl | (simp (disch := assumption) only [l9_2, l9_4, l9_5, l9_6, l9_7, l9_9, l9_10, l9_11, l9_12, l9_14, l9_15, l9_16, l9_17, l9_51, l9_52, l9_53, l9_55, l9_56, l9_58, l9_61, l9_73, l9_74, l9_75, l9_76, l9_77, l9_79, l9_80, l9_81, l9_82, l9_83, l9_84, l9_85, l10_59, l10_78, l9_D1, l9_D2, l9_D3, l9_D4, l9_T1, l9_T2, l9_T3, l9_T4]; omega) | decide)) only [e22_0, e22_1, e22_3, e22_4, e22_7, e22_8, e22_11, e22_12, e22_13, e22_14, e22_15, e22_16, e22_17, e22_19, e22_20, e22_24, e22_25, e22_28, e22_29, e22_31, e22_34, e22_37, e22_39, e22_40, e22_43, e22_44, e22_45, e22_46, e22_48, e22_49, e22_50, e22_53, e22_54, e22_56, e22_57, e22_58, e22_59_0, e22_59_1, e22_60, e22_61, e22_62, e22_64, e22_67, e22_70, e22_71, e22_74, e22_75, e22_77, e22_79, e22_80, e22_81, e22_84, e22_87, ↓reduceIte, Nat.reduceAdd, Nat.reduceMul, nI_add, pk_mul, n_lt_t, n_lt_f, n_le_t, n_le_f, n_eq_f, n_eq_t, n_z_f, n_z_t, n_lz, n_zl, not_true_eq_false, not_false_eq_true]
  · refine ⟨(.int (nI (hsS E o (4 * j) k (T (4 * j + k)) 4)), .int (nI 4)), ?_⟩
    try dsimp only
    rw [e22_2]
    obtain ⟨ht1, ht2⟩ := hT (4 * j + k) (by omega)
    have hle := hsS_le (E := E) (o := o) (c := 4 * j) (b := k) (s := T (4 * j + k)) (fun i hi => (hE i (by omega)).2) hk ht2 4 (by omega)
    simp (disch := (first | omega | assumption | rfl | (simp (disch := assumption) only [l9_2, l9_4, l9_5, l9_6, l9_7, l9_9, l9_10, l9_11, l9_12, l9_14, l9_15, l9_16, l9_17, l9_51, l9_52, l9_53, l9_55, l9_56, l9_58, l9_61, l9_73, l9_74, l9_75, l9_76, l9_77, l9_79, l9_80, l9_81, l9_82, l9_83, l9_84, l9_85, l10_59, l10_78, l9_D1, l9_D2, l9_D3, l9_D4, l9_T1, l9_T2, l9_T3, l9_T4]; omega) | decide)) only [e22_0, e22_1, e22_3, e22_4, e22_7, e22_8, e22_11, e22_12, e22_13, e22_14, e22_15, e22_16, e22_17, e22_19, e22_20, e22_24, e22_25, e22_28, e22_29, e22_31, e22_34, e22_37, e22_39, e22_40, e22_43, e22_44, e22_45, e22_46, e22_48, e22_49, e22_50, e22_53, e22_54, e22_56, e22_57, e22_58, e22_59_0, e22_59_1, e22_60, e22_61, e22_62, e22_64, e22_67, e22_70, e22_71, e22_74, e22_75, e22_77, e22_79, e22_80, e22_81, e22_84, e22_87, isD_13, ↓reduceIte, Nat.reduceAdd, Nat.reduceMul, nI_add, pk_mul, n_lt_t, n_lt_f, n_le_t, n_le_f, n_eq_f, n_eq_t, n_z_f, n_z_t, n_lz, n_zl, not_true_eq_false, not_false_eq_true, va_up_n, ht1]
    rw [s22_i (F := va_up F 51 (fun i => if i < k then nI (hB E T o j i) else F 51 i)) (T := T) (E := E) (by rw [va_up_n (by omega)]; exact hO) ho hj hk (by rw [va_up_n (by omega)]; exact hE) ht2, e22_22]
    simp (disch := (first | omega | assumption | rfl | (simp (disch := assumption) only [l9_2, l9_4, l9_5, l9_6, l9_7, l9_9, l9_10, l9_11, l9_12, l9_14, l9_15, l9_16, l9_17, l9_51, l9_52, l9_53, l9_55, l9_56, l9_58, l9_61, l9_73, l9_74, l9_75, l9_76, l9_77, l9_79, l9_80, l9_81, l9_82, l9_83, l9_84, l9_85, l10_59, l10_78, l9_D1, l9_D2, l9_D3, l9_D4, l9_T1, l9_T2, l9_T3, l9_T4]; omega) | decide)) only [e22_0, e22_1, e22_3, e22_4, e22_7, e22_8, e22_11, e22_12, e22_13, e22_14, e22_15, e22_16, e22_17, e22_19, e22_20, e22_24, e22_25, e22_28, e22_29, e22_31, e22_34, e22_37, e22_39, e22_40, e22_43, e22_44, e22_45, e22_46, e22_48, e22_49, e22_50, e22_53, e22_54, e22_56, e22_57, e22_58, e22_59_0, e22_59_1, e22_60, e22_61, e22_62, e22_64, e22_67, e22_70, e22_71, e22_74, e22_75, e22_77, e22_79, e22_80, e22_81, e22_84, e22_87, ↓reduceIte, Nat.reduceAdd, Nat.reduceMul, nI_add, pk_mul, n_lt_t, n_lt_f, n_le_t, n_le_f, n_eq_f, n_eq_t, n_z_f, n_z_t, n_lz, n_zl, not_true_eq_false, not_false_eq_true, n_31, n_rem]
    congr 6
    funext b i
    simp only [q_app, va_app, hB]
    grind
/-- of what was got: times MARKS of a LINE -/
def gmS (G : Nat → Nat) (i : Nat) : Nat → Nat
  | 0 => 0
  | b + 1 => gmS G i b + G b * mk (4 * i + b)
theorem gmS_le {G : Nat → Nat} {i : Nat} (hG : ∀ b, b < 4 → G b < 31) (hi : i < 4) : ∀ k, k ≤ 4 → gmS G i k ≤ 900 * k
  | 0, _ => by simp only [gmS]; omega
  | k + 1, hk => by
    have ih := gmS_le hG hi k (by omega)
    have h1 := hG k (by omega)
    have h2 := mk_le (4 * i + k) (by omega)
    have h3 : G k * mk (4 * i + k) ≤ 30 * 30 := Nat.mul_le_mul (by omega) (by omega)
    simp only [gmS]
    omega
/-- LEARNT for i, anew, out of what was got -/
def nv (G : Nat → Nat) (i : Nat) : Nat := gmS G i 4 % 31 * 8 % 31
theorem nv_e (G : Nat → Nat) (i : Nat) : gmS G i 4 % 31 * 8 % 31 = nv G i := rfl
/-- how many of the first k are others -/
def ocS (f : Nat → Int32) (g : Nat → Nat) (o c : Nat) : Nat → Nat
  | 0 => 0
  | k + 1 => if bt o k = 1 ∧ ¬ f (c + k) = nI (g k) then ocS f g o c k + 1 else ocS f g o c k
theorem ocS_le {f : Nat → Int32} {g : Nat → Nat} {o c : Nat} : ∀ k, ocS f g o c k ≤ k
  | 0 => Nat.le_refl _
  | k + 1 => by
    have ih := ocS_le (f := f) (g := g) (o := o) (c := c) k
    simp only [ocS]
    split <;> omega
theorem s23_i {i j : Nat} {G : Nat → Nat} {c3 : Int32} (hi : i < 4) (hG : rowN (F 51) G 4 31) : q_ex X (23, 26, [.ref 50, .ref 13, .int (nI j), .int c3, .int (nI i), .int (nI 0), .int (nI 0)], [], q_w t u F J) = q_ex X (23, 26, [.ref 50, .ref 13, .int (nI j), .int c3, .int (nI i), .int (nI (gmS G i 4)), .int (nI 4)], [], q_w t u F J) := by
  refine q_iter0 (X := X) (fun k => (23, 26, [.ref 50, .ref 13, .int (nI j), .int c3, .int (nI i), .int (nI (gmS G i k)), .int (nI k)], [], q_w t u F J)) 4 (fun k hk => ?_)
  try dsimp only
  rw [e23_26]
  obtain ⟨he1, he2⟩ := hG k (by omega)
  have hm := mk_x (i := 4 * i + k) (by omega)
  simp (disch := (first | omega | assumption | rfl | (simp (disch := assumption) only [l9_2, l9_4, l9_5, l9_6, l9_7, l9_9, l9_10, l9_11, l9_12, l9_14, l9_15, l9_16, l9_17, l9_51, l9_52, l9_53, l9_55, l9_56, l9_58, l9_61, l9_73, l9_74, l9_75, l9_76, l9_77, l9_79, l9_80, l9_81, l9_82, l9_83, l9_84, l9_85, l10_59, l10_78, l9_D1, l9_D2, l9_D3, l9_D4, l9_T1, l9_T2, l9_T3, l9_T4]; omega) | decide)) only [e23_0, e23_1, e23_2, e23_3, e23_7, e23_8, e23_11, e23_12, e23_14, e23_17, e23_20, e23_21, e23_23, e23_24, e23_28, e23_29, e23_32, e23_34, e23_35, e23_38, e23_40, e23_41, e23_44, e23_45, e23_47, e23_48, e23_50, e23_51_0, e23_51_1, e23_52, e23_53, e23_54, e23_56, e23_59, e23_62, e23_64, e23_66, e23_67, e23_69, e23_70, e23_72, e23_73, e23_75, e23_76, e23_79, e23_80, e23_81, e23_82, e23_84, e23_85, e23_86, e23_88, e23_91, e23_92, e23_95, e23_96, e23_97, e23_98, e23_100, e23_101, e23_103, e23_104, e23_107, e23_110, e23_113, e23_114, ↓reduceIte, Nat.reduceAdd, Nat.reduceMul, nI_add, pk_mul, n_lt_t, n_lt_f, n_le_t, n_le_f, n_eq_f, n_eq_t, n_z_f, n_z_t, n_lz, n_zl, not_true_eq_false, not_false_eq_true, he1, hm]
  simp only [gmS]
theorem s23 {o j : Nat} {G : Nat → Nat} (hO : F 13 0 = nI o) (ho : o < 16) (hj : j < 4) (hG : rowN (F 51) G 4 31) : q_ex X (23, 0, [.ref 50, .ref 13, .int (nI j), .null, .null, .null, .null], [], q_w t u F J) = some (some (.int (nI (ocS (F 15) (fun i => nv G i) o (4 * j) 4))), q_w t u (va_up F 15 (fun x => if 4 * j ≤ x ∧ x < 4 * j + 4 ∧ bt o (x - 4 * j) = 1 then nI (nv G (x - 4 * j)) else F 15 x)) J) := by
  have h := q_iter (X := X) (δ := Value × Value) (fun k d => (23, 5, [.ref 50, .ref 13, .int (nI j), .int (nI (ocS (F 15) (fun i => nv G i) o (4 * j) k)), .int (nI k), d.1, d.2], [], q_w t u (va_up F 15 (fun x => if 4 * j ≤ x ∧ x < 4 * j + k ∧ bt o (x - 4 * j) = 1 then nI (nv G (x - 4 * j)) else F 15 x)) J)) 4 (fun k hk d => ?_) (.null, .null)
  · obtain ⟨d, h⟩ := h
    simp only [e23_0, e23_1, e23_2, e23_3]
    refine Eq.trans ?_ (h.trans ?_)
    · simp only [ocS]
      congr 6
      funext b i
      simp only [va_app]
      grind
    · rw [e23_5]
      simp (disch := (first | omega | assumption | rfl | (simp (disch := assumption) only [l9_2, l9_4, l9_5, l9_6, l9_7, l9_9, l9_10, l9_11, l9_12, l9_14, l9_15, l9_16, l9_17, l9_51, l9_52, l9_53, l9_55, l9_56, l9_58, l9_61, l9_73, l9_74, l9_75, l9_76, l9_77, l9_79, l9_80, l9_81, l9_82, l9_83, l9_84, l9_85, l10_59, l10_78, l9_D1, l9_D2, l9_D3, l9_D4, l9_T1, l9_T2, l9_T3, l9_T4]; omega) | decide)) only [e23_0, e23_1, e23_2, e23_3, e23_7, e23_8, e23_11, e23_12, e23_14, e23_17, e23_20, e23_21, e23_23, e23_24, e23_28, e23_29, e23_32, e23_34, e23_35, e23_38, e23_40, e23_41, e23_44, e23_45, e23_47, e23_48, e23_50, e23_51_0, e23_51_1, e23_52, e23_53, e23_54, e23_56, e23_59, e23_62, e23_64, e23_66, e23_67, e23_69, e23_70, e23_72, e23_73, e23_75, e23_76, e23_79, e23_80, e23_81, e23_82, e23_84, e23_85, e23_86, e23_88, e23_91, e23_92, e23_95, e23_96, e23_97, e23_98, e23_100, e23_101, e23_103, e23_104, e23_107, e23_110, e23_113, e23_114, ↓reduceIte, Nat.reduceAdd, Nat.reduceMul, nI_add, pk_mul, n_lt_t, n_lt_f, n_le_t, n_le_f, n_eq_f, n_eq_t, n_z_f, n_z_t, n_lz, n_zl, not_true_eq_false, not_false_eq_true]
  · by_cases h2 : bt o k = 1
    · refine ⟨(.int (nI (gmS G k 4)), .int (nI (nv G k))), ?_⟩
      try dsimp only
      rw [e23_5]
      have hle := gmS_le (G := G) (i := k) (fun b hb => (hG b hb).2) hk 4 (by omega)
      have hoc := ocS_le (f := F 15) (g := fun i => nv G i) (o := o) (c := 4 * j) k
      simp (disch := (first | omega | assumption | rfl | (simp (disch := assumption) only [l9_2, l9_4, l9_5, l9_6, l9_7, l9_9, l9_10, l9_11, l9_12, l9_14, l9_15, l9_16, l9_17, l9_51, l9_52, l9_53, l9_55, l9_56, l9_58, l9_61, l9_73, l9_74, l9_75, l9_76, l9_77, l9_79, l9_80, l9_81, l9_82, l9_83, l9_84, l9_85, l10_59, l10_78, l9_D1, l9_D2, l9_D3, l9_D4, l9_T1, l9_T2, l9_T3, l9_T4]; omega) | decide)) only [e23_0, e23_1, e23_2, e23_3, e23_7, e23_8, e23_11, e23_12, e23_14, e23_17, e23_20, e23_21, e23_23, e23_24, e23_28, e23_29, e23_32, e23_34, e23_35, e23_38, e23_40, e23_41, e23_44, e23_45, e23_47, e23_48, e23_50, e23_51_0, e23_51_1, e23_52, e23_53, e23_54, e23_56, e23_59, e23_62, e23_64, e23_66, e23_67, e23_69, e23_70, e23_72, e23_73, e23_75, e23_76, e23_79, e23_80, e23_81, e23_82, e23_84, e23_85, e23_86, e23_88, e23_91, e23_92, e23_95, e23_96, e23_97, e23_98, e23_100, e23_101, e23_103, e23_104, e23_107, e23_110, e23_113, e23_114, isD_13, ↓reduceIte, Nat.reduceAdd, Nat.reduceMul, nI_add, pk_mul, n_lt_t, n_lt_f, n_le_t, n_le_f, n_eq_f, n_eq_t, n_z_f, n_z_t, n_lz, n_zl, not_true_eq_false, not_false_eq_true, va_up_n, s4 (F := va_up F 15 (fun x => if 4 * j ≤ x ∧ x < 4 * j + k ∧ bt o (x - 4 * j) = 1 then nI (nv G (x - 4 * j)) else F 15 x)) (by rw [va_up_n (by omega)]; exact hO) ho hk, Option.bind_some, Option.toList_some, Option.toList_none, List.cons_append, List.nil_append, h2]
      rw [s23_i (F := va_up F 15 (fun x => if 4 * j ≤ x ∧ x < 4 * j + k ∧ bt o (x - 4 * j) = 1 then nI (nv G (x - 4 * j)) else F 15 x)) (G := G) hk (by rw [va_up_n (by omega)]; exact hG), e23_26]
      have hno : ¬ (4 * j ≤ 4 * j + k ∧ 4 * j + k < 4 * j + k ∧ bt o (4 * j + k - 4 * j) = 1) := by omega
      by_cases h3 : F 15 (4 * j + k) = nI (nv G k)
      · simp (disch := (first | omega | assumption | rfl | (simp (disch := assumption) only [l9_2, l9_4, l9_5, l9_6, l9_7, l9_9, l9_10, l9_11, l9_12, l9_14, l9_15, l9_16, l9_17, l9_51, l9_52, l9_53, l9_55, l9_56, l9_58, l9_61, l9_73, l9_74, l9_75, l9_76, l9_77, l9_79, l9_80, l9_81, l9_82, l9_83, l9_84, l9_85, l10_59, l10_78, l9_D1, l9_D2, l9_D3, l9_D4, l9_T1, l9_T2, l9_T3, l9_T4]; omega) | decide)) only [e23_0, e23_1, e23_2, e23_3, e23_7, e23_8, e23_11, e23_12, e23_14, e23_17, e23_20, e23_21, e23_23, e23_24, e23_28, e23_29, e23_32, e23_34, e23_35, e23_38, e23_40, e23_41, e23_44, e23_45, e23_47, e23_48, e23_50, e23_51_0, e23_51_1, e23_52, e23_53, e23_54, e23_56, e23_59, e23_62, e23_64, e23_66, e23_67, e23_69, e23_70, e23_72, e23_73, e23_75, e23_76, e23_79, e23_80, e23_81, e23_82, e23_84, e23_85, e23_86, e23_88, e23_91, e23_92, e23_95, e23_96, e23_97, e23_98, e23_100, e23_101, e23_103, e23_104, e23_107, e23_110, e23_113, e23_114, isD_13, ↓reduceIte, Nat.reduceAdd, Nat.reduceMul, nI_add, pk_mul, n_lt_t, n_lt_f, n_le_t, n_le_f, n_eq_f, n_eq_t, n_z_f, n_z_t, n_lz, n_zl, not_true_eq_false, not_false_eq_true, n_31, n_rem, nv_e, va_up_s, hno, h3]
        simp only [ocS, h2, h3, not_true_eq_false, and_false, ↓reduceIte]
        congr 6
        funext b i
        simp only [q_app, va_app]
        grind
      · simp (disch := (first | omega | assumption | rfl | (simp (disch := assumption) only [l9_2, l9_4, l9_5, l9_6, l9_7, l9_9, l9_10, l9_11, l9_12, l9_14, l9_15, l9_16, l9_17, l9_51, l9_52, l9_53, l9_55, l9_56, l9_58, l9_61, l9_73, l9_74, l9_75, l9_76, l9_77, l9_79, l9_80, l9_81, l9_82, l9_83, l9_84, l9_85, l10_59, l10_78, l9_D1, l9_D2, l9_D3, l9_D4, l9_T1, l9_T2, l9_T3, l9_T4]; omega) | decide)) only [e23_0, e23_1, e23_2, e23_3, e23_7, e23_8, e23_11, e23_12, e23_14, e23_17, e23_20, e23_21, e23_23, e23_24, e23_28, e23_29, e23_32, e23_34, e23_35, e23_38, e23_40, e23_41, e23_44, e23_45, e23_47, e23_48, e23_50, e23_51_0, e23_51_1, e23_52, e23_53, e23_54, e23_56, e23_59, e23_62, e23_64, e23_66, e23_67, e23_69, e23_70, e23_72, e23_73, e23_75, e23_76, e23_79, e23_80, e23_81, e23_82, e23_84, e23_85, e23_86, e23_88, e23_91, e23_92, e23_95, e23_96, e23_97, e23_98, e23_100, e23_101, e23_103, e23_104, e23_107, e23_110, e23_113, e23_114, isD_13, ↓reduceIte, Nat.reduceAdd, Nat.reduceMul, nI_add, pk_mul, n_lt_t, n_lt_f, n_le_t, n_le_f, n_eq_f, n_eq_t, n_z_f, n_z_t, n_lz, n_zl, not_true_eq_false, not_false_eq_true, n_31, n_rem, nv_e, va_up_s, hno, h3]
        simp only [ocS, h2, h3, not_false_eq_true, and_self, ↓reduceIte]
        congr 6
        funext b i
        simp only [q_app, va_app]
        grind
    · have h0 : bt o k = 0 := by have := bt_lt o k; omega
      refine ⟨d, ?_⟩
      try dsimp only
      rw [e23_5]
      simp (disch := (first | omega | assumption | rfl | (simp (disch := assumption) only [l9_2, l9_4, l9_5, l9_6, l9_7, l9_9, l9_10, l9_11, l9_12, l9_14, l9_15, l9_16, l9_17, l9_51, l9_52, l9_53, l9_55, l9_56, l9_58, l9_61, l9_73, l9_74, l9_75, l9_76, l9_77, l9_79, l9_80, l9_81, l9_82, l9_83, l9_84, l9_85, l10_59, l10_78, l9_D1, l9_D2, l9_D3, l9_D4, l9_T1, l9_T2, l9_T3, l9_T4]; omega) | decide)) only [e23_0, e23_1, e23_2, e23_3, e23_7, e23_8, e23_11, e23_12, e23_14, e23_17, e23_20, e23_21, e23_23, e23_24, e23_28, e23_29, e23_32, e23_34, e23_35, e23_38, e23_40, e23_41, e23_44, e23_45, e23_47, e23_48, e23_50, e23_51_0, e23_51_1, e23_52, e23_53, e23_54, e23_56, e23_59, e23_62, e23_64, e23_66, e23_67, e23_69, e23_70, e23_72, e23_73, e23_75, e23_76, e23_79, e23_80, e23_81, e23_82, e23_84, e23_85, e23_86, e23_88, e23_91, e23_92, e23_95, e23_96, e23_97, e23_98, e23_100, e23_101, e23_103, e23_104, e23_107, e23_110, e23_113, e23_114, isD_13, ↓reduceIte, Nat.reduceAdd, Nat.reduceMul, nI_add, pk_mul, n_lt_t, n_lt_f, n_le_t, n_le_f, n_eq_f, n_eq_t, n_z_f, n_z_t, n_lz, n_zl, not_true_eq_false, not_false_eq_true, s4 (F := va_up F 15 (fun x => if 4 * j ≤ x ∧ x < 4 * j + k ∧ bt o (x - 4 * j) = 1 then nI (nv G (x - 4 * j)) else F 15 x)) (by rw [va_up_n (by omega)]; exact hO) ho hk, Option.bind_some, Option.toList_some, Option.toList_none, List.cons_append, List.nil_append, h0]
      simp only [ocS, h0, Nat.zero_ne_one, false_and, ↓reduceIte]
      congr 6
      funext b i
      simp only [va_app]
      grind
end S40
section S40b
variable {X : Nat × (Nat → Int32)} {t u : Nat} {F : Nat → Nat → Int32} {J : Nat → Int64} {w : q_M}
theorem ocS_congr {f f' : Nat → Int32} {g : Nat → Nat} {o c : Nat} : ∀ k, (∀ i, i < k → f (c + i) = f' (c + i)) → ocS f g o c k = ocS f' g o c k
  | 0, _ => rfl
  | k + 1, h => by
    have ih := ocS_congr (f := f) (f' := f') (g := g) (o := o) (c := c) k (fun i hi => h i (by omega))
    simp only [ocS, ih, h k (by omega)]
/-- all LEARNT anew: the first k LINES' -/
def lrS (f : Nat → Int32) (E T : Nat → Nat) (o k : Nat) : Nat → Int32 := fun x => if x < 4 * k ∧ bt o (x / 4) = 1 ∧ bt o (x % 4) = 1 then nI (nv (hB E T o (x / 4)) (x % 4)) else f x
/-- how many are others -/
def otS (f : Nat → Int32) (E T : Nat → Nat) (o : Nat) : Nat → Nat
  | 0 => 0
  | k + 1 => if bt o k = 1 then otS f E T o k + ocS f (nv (hB E T o k)) o (4 * k) 4 else otS f E T o k
theorem otS_le {f : Nat → Int32} {E T : Nat → Nat} {o : Nat} : ∀ k, otS f E T o k ≤ 4 * k
  | 0 => Nat.le_refl _
  | k + 1 => by
    have ih := otS_le (f := f) (E := E) (T := T) (o := o) k
    have h := ocS_le (f := f) (g := nv (hB E T o k)) (o := o) (c := 4 * k) 4
    simp only [otS]
    split <;> omega
theorem hB_lt (E T : Nat → Nat) (o j b : Nat) : hB E T o j b < 31 := Nat.mod_lt _ (by decide)
theorem s21 {o : Nat} {E T : Nat → Nat} (hO : F 13 0 = nI o) (ho : o < 16) (hE : rowN (F 14) E 16 31) (hT : rowN (F 16) T 16 31) : ∃ g : Nat → Int32, q_ex X (21, 0, [.ref 50, .ref 13, .null, .null], [], q_w t u F J) = some (some (.int (nI (otS (F 15) E T o 4))), q_w t u (fun b i => if b = 15 then lrS (F 15) E T o 4 i else if b = 16 ∧ i < 16 then nI 0 else if b = 51 then g i else F b i) J) := by
  have h := q_iter (X := X) (δ := Nat → Int32) (fun k g => (21, 4, [.ref 50, .ref 13, .int (nI (otS (F 15) E T o k)), .int (nI k)], [], q_w t u (va_up (va_up F 15 (lrS (F 15) E T o k)) 51 g) J)) 4 (fun k hk g => ?_) (F 51)
  · obtain ⟨g, h⟩ := h
    refine ⟨g, ?_⟩
    simp only [e21_0, e21_1, e21_2, e21_3]
    have h' : q_ex X (21, 4, [.ref 50, .ref 13, .int (nI 0), .int (nI 0)], [], q_w t u F J) = q_ex X (21, 4, [.ref 50, .ref 13, .int (nI (otS (F 15) E T o 4)), .int (nI 4)], [], q_w t u (va_up (va_up F 15 (lrS (F 15) E T o 4)) 51 g) J) := by
      refine Eq.trans ?_ h
      simp only [otS]
      congr 6
      funext b i
      simp only [va_app, lrS]
      grind
    rw [h', e21_4]
    simp (disch := (first | omega | assumption | rfl | (simp (disch := assumption) only [l9_2, l9_4, l9_5, l9_6, l9_7, l9_9, l9_10, l9_11, l9_12, l9_14, l9_15, l9_16, l9_17, l9_51, l9_52, l9_53, l9_55, l9_56, l9_58, l9_61, l9_73, l9_74, l9_75, l9_76, l9_77, l9_79, l9_80, l9_81, l9_82, l9_83, l9_84, l9_85, l10_59, l10_78, l9_D1, l9_D2, l9_D3, l9_D4, l9_T1, l9_T2, l9_T3, l9_T4]; omega) | decide)) only [e21_0, e21_1, e21_2, e21_3, e21_5, e21_6, e21_9, e21_10, e21_11, e21_14, e21_17, e21_18, e21_19, e21_20, e21_23, e21_24, e21_25, e21_26, e21_27, e21_30, e21_31, e21_32, e21_35, e21_38, e21_39, e21_42, e21_43, ↓reduceIte, Nat.reduceAdd, Nat.reduceMul, nI_add, pk_mul, n_lt_t, n_lt_f, n_le_t, n_le_f, n_eq_f, n_eq_t, n_z_f, n_z_t, n_lz, n_zl, not_true_eq_false, not_false_eq_true, isD_13, s3, Option.bind_some, Option.toList_some, Option.toList_none, List.cons_append, List.nil_append]
    congr 3
    funext b i
    simp only [va_app]
    grind
  · by_cases h2 : bt o k = 1
    · refine ⟨fun i => if i < 4 then nI (hB E T o k i) else g i, ?_⟩
      try dsimp only
      rw [e21_4]
      have e1 := s4 (X := X) (t := t) (u := u) (J := J) (F := va_up (va_up F 15 (lrS (F 15) E T o k)) 51 g) (o := o) (i := k) (by rw [va_up_n (by omega), va_up_n (by omega)]; exact hO) ho hk
      have e2 := s22 (X := X) (t := t) (u := u) (J := J) (F := va_up (va_up F 15 (lrS (F 15) E T o k)) 51 g) (o := o) (j := k) (E := E) (T := T) (by rw [va_up_n (by omega), va_up_n (by omega)]; exact hO) ho hk (by rw [va_up_n (by omega), va_up_n (by omega)]; exact hE) (by rw [va_up_n (by omega), va_up_n (by omega)]; exact hT)
      have e3 := s23 (X := X) (t := t) (u := u) (J := J) (F := va_up (va_up (va_up F 15 (lrS (F 15) E T o k)) 51 g) 51 (fun i => if i < 4 then nI (hB E T o k i) else g i)) (o := o) (j := k) (G := hB E T o k) (by rw [va_up_n (by omega), va_up_n (by omega), va_up_n (by omega)]; exact hO) ho hk (by rw [va_up_s]; exact fun i hi => ⟨if_pos hi, hB_lt E T o k i⟩)
      rw [va_up_s] at e2
      simp (disch := (first | omega | assumption | rfl | (simp (disch := assumption) only [l9_2, l9_4, l9_5, l9_6, l9_7, l9_9, l9_10, l9_11, l9_12, l9_14, l9_15, l9_16, l9_17, l9_51, l9_52, l9_53, l9_55, l9_56, l9_58, l9_61, l9_73, l9_74, l9_75, l9_76, l9_77, l9_79, l9_80, l9_81, l9_82, l9_83, l9_84, l9_85, l10_59, l10_78, l9_D1, l9_D2, l9_D3, l9_D4, l9_T1, l9_T2, l9_T3, l9_T4]; omega) | decide)) only [va_up_n, va_up_s] at e3
      have hoc : ocS (lrS (F 15) E T o k) (fun i => nv (hB E T o k) i) o (4 * k) 4 = ocS (F 15) (nv (hB E T o k)) o (4 * k) 4 := ocS_congr 4 (fun i hi => by unfold lrS; rw [if_neg (by omega)])
      rw [hoc] at e3
      simp (disch := (first | omega | assumption | rfl | (simp (disch := assumption) only [l9_2, l9_4, l9_5, l9_6, l9_7, l9_9, l9_10, l9_11, l9_12, l9_14, l9_15, l9_16, l9_17, l9_51, l9_52, l9_53, l9_55, l9_56, l9_58, l9_61, l9_73, l9_74, l9_75, l9_76, l9_77, l9_79, l9_80, l9_81, l9_82, l9_83, l9_84, l9_85, l10_59, l10_78, l9_D1, l9_D2, l9_D3, l9_D4, l9_T1, l9_T2, l9_T3, l9_T4]; omega) | decide)) only [e21_0, e21_1, e21_2, e21_3, e21_5, e21_6, e21_9, e21_10, e21_11, e21_14, e21_17, e21_18, e21_19, e21_20, e21_23, e21_24, e21_25, e21_26, e21_27, e21_30, e21_31, e21_32, e21_35, e21_38, e21_39, e21_42, e21_43, ↓reduceIte, Nat.reduceAdd, Nat.reduceMul, nI_add, pk_mul, n_lt_t, n_lt_f, n_le_t, n_le_f, n_eq_f, n_eq_t, n_z_f, n_z_t, n_lz, n_zl, not_true_eq_false, not_false_eq_true, e1, e2, e3, h2, Option.bind_some, Option.toList_some, Option.toList_none, List.cons_append, List.nil_append]
      simp only [otS, h2, ↓reduceIte]
      congr 6
      funext b i
      simp only [va_app, lrS]
      by_cases hb : b = 15
      · subst hb
        by_cases hi : 4 * k ≤ i ∧ i < 4 * k + 4
        · have hq : i / 4 = k := by omega
          have hm : i % 4 = i - 4 * k := by omega
          rw [hq, hm]
          grind
        · grind
      · grind
    · have h0 : bt o k = 0 := by have := bt_lt o k; omega
      refine ⟨g, ?_⟩
      try dsimp only
      rw [e21_4]
      have e1 := s4 (X := X) (t := t) (u := u) (J := J) (F := va_up (va_up F 15 (lrS (F 15) E T o k)) 51 g) (o := o) (i := k) (by rw [va_up_n (by omega), va_up_n (by omega)]; exact hO) ho hk
      simp (disch := (first | omega | assumption | rfl | (simp (disch := assumption) only [l9_2, l9_4, l9_5, l9_6, l9_7, l9_9, l9_10, l9_11, l9_12, l9_14, l9_15, l9_16, l9_17, l9_51, l9_52, l9_53, l9_55, l9_56, l9_58, l9_61, l9_73, l9_74, l9_75, l9_76, l9_77, l9_79, l9_80, l9_81, l9_82, l9_83, l9_84, l9_85, l10_59, l10_78, l9_D1, l9_D2, l9_D3, l9_D4, l9_T1, l9_T2, l9_T3, l9_T4]; omega) | decide)) only [e21_0, e21_1, e21_2, e21_3, e21_5, e21_6, e21_9, e21_10, e21_11, e21_14, e21_17, e21_18, e21_19, e21_20, e21_23, e21_24, e21_25, e21_26, e21_27, e21_30, e21_31, e21_32, e21_35, e21_38, e21_39, e21_42, e21_43, ↓reduceIte, Nat.reduceAdd, Nat.reduceMul, nI_add, pk_mul, n_lt_t, n_lt_f, n_le_t, n_le_f, n_eq_f, n_eq_t, n_z_f, n_z_t, n_lz, n_zl, not_true_eq_false, not_false_eq_true, e1, h0, Option.bind_some, Option.toList_some, Option.toList_none, List.cons_append, List.nil_append]
      simp only [otS, h0, Nat.zero_ne_one, ↓reduceIte]
      congr 6
      funext b i
      simp only [va_app, lrS]
      by_cases hi : 4 * k ≤ i ∧ i < 4 * k + 4
      · have hq : i / 4 = k := by omega
        rw [hq, h0]
        grind
      · grind
end S40b
