/-! ===== THE TEXT: letters x, l of them ===== -/
def skS (x : Nat → Nat) (l : Nat) : Nat → Nat → Nat
  | 0, p => p
  | n + 1, p => if p < l ∧ x p = 32 then skS x l n (p + 1) else p
def sk (x : Nat → Nat) (l p : Nat) : Nat := skS x l l p
theorem skS_le {x : Nat → Nat} {l : Nat} : ∀ n p, p ≤ skS x l n p ∧ (p ≤ l → skS x l n p ≤ l)
  | 0, p => ⟨Nat.le_refl _, fun h => h⟩
  | n + 1, p => by
    have ih := skS_le (x := x) (l := l) n (p + 1)
    simp only [skS]
    by_cases h : p < l ∧ x p = 32
    · rw [if_pos h]; exact ⟨by omega, fun _ => ih.2 (by omega)⟩
    · rw [if_neg h]; exact ⟨Nat.le_refl _, fun h => h⟩
theorem sk_ge {x : Nat → Nat} {l p : Nat} : p ≤ sk x l p := (skS_le l p).1
theorem sk_le {x : Nat → Nat} {l p : Nat} (h : p ≤ l) : sk x l p ≤ l := (skS_le l p).2 h
/-- how many figures from p on -/
def ddS (x : Nat → Nat) (l : Nat) : Nat → Nat → Nat
  | 0, _ => 0
  | n + 1, p => if p < l ∧ 48 ≤ x p ∧ x p ≤ 57 then ddS x l n (p + 1) + 1 else 0
def dd (x : Nat → Nat) (l p : Nat) : Nat := ddS x l l p
theorem ddS_le {x : Nat → Nat} {l : Nat} : ∀ n p, p ≤ l → p + ddS x l n p ≤ l
  | 0, p, h => by simpa [ddS] using h
  | n + 1, p, h => by
    simp only [ddS]
    by_cases hc : p < l ∧ 48 ≤ x p ∧ x p ≤ 57
    · have ih := ddS_le (x := x) (l := l) n (p + 1) (by omega)
      rw [if_pos hc]; omega
    · rw [if_neg hc]; omega
theorem ddS_dig {x : Nat → Nat} {l : Nat} : ∀ n p i, i < ddS x l n p → p + i < l ∧ 48 ≤ x (p + i) ∧ x (p + i) ≤ 57
  | 0, p, i, h => by simp [ddS] at h
  | n + 1, p, i, h => by
    simp only [ddS] at h
    by_cases hc : p < l ∧ 48 ≤ x p ∧ x p ≤ 57
    · rw [if_pos hc] at h
      by_cases hi : i = 0
      · subst hi; exact hc
      · have ih := ddS_dig (x := x) (l := l) n (p + 1) (i - 1) (by omega)
        rw [show p + 1 + (i - 1) = p + i by omega] at ih
        exact ih
    · rw [if_neg hc] at h; omega
theorem dd_pos {x : Nat → Nat} {l p : Nat} (h : p < l ∧ 48 ≤ x p ∧ x p ≤ 57) : 0 < dd x l p := by
  have h1 : ∀ n, 0 < n → 0 < ddS x l n p := by
    intro n hn
    obtain ⟨m, rfl⟩ : ∃ m, n = m + 1 := ⟨n - 1, by omega⟩
    simp only [ddS, if_pos h]
    omega
  exact h1 l (by omega)
theorem dd_0 {x : Nat → Nat} {l p : Nat} (h : ¬ (p < l ∧ 48 ≤ x p ∧ x p ≤ 57)) : dd x l p = 0 := by
  have h1 : ∀ n, ddS x l n p = 0 := by
    intro n
    cases n with
    | zero => rfl
    | succ n => simp only [ddS, if_neg h]
  exact h1 l
/-- what the class reads of figures: of the first two -/
def cv (x : Nat → Nat) (p : Nat) : Nat → Nat
  | 0 => 0
  | k + 1 => if k < 2 then 10 * cv x p k + x (p + k) - 48 else cv x p k
abbrev fgo (x : Nat → Nat) (l q : Nat) : Prop := dd x l q = 1 ∨ (dd x l q = 2 ∧ 9 < cv x q 2)
theorem cv_2 {x : Nat → Nat} {p : Nat} : ∀ k, cv x p (2 + k) = cv x p 2
  | 0 => rfl
  | k + 1 => by
    have ih := cv_2 (x := x) (p := p) k
    show cv x p (2 + k + 1) = cv x p 2
    rw [cv, if_neg (by omega), ih]
theorem cv1 {x : Nat → Nat} {p : Nat} : cv x p 1 = x p - 48 := by simp [cv]
theorem cv2 {x : Nat → Nat} {p : Nat} : cv x p 2 = 10 * (x p - 48) + x (p + 1) - 48 := by simp [cv]
theorem cv_le {x : Nat → Nat} {p : Nat} (hx : ∀ i, x i < 256) : ∀ k, cv x p k ≤ 3000
  | 0 => by simp [cv]
  | 1 => by have := hx p; rw [cv1]; omega
  | 2 => by have h0 := hx p; have h1 := hx (p + 1); rw [cv2]; omega
  | k + 3 => by
    have h2 := cv_2 (x := x) (p := p) (k + 1)
    rw [show 2 + (k + 1) = k + 3 by omega] at h2
    have h0 := hx p; have h1 := hx (p + 1)
    rw [h2, cv2]; omega
/-- faults: 0 none, else behind its place -/
def fC (f : Nat) : Int32 := if f = 0 then -1 else nI (f - 1)
def fM (f : Nat) : Int32 := if f = 0 then -9 else nI (f - 1)
theorem n_mm1 {b : Nat} (h : b < 2 ^ 31) : (nI b = -1) = False := eq_false (fun z => by
  have h1 := congrArg Int32.toInt z
  rw [nI_toInt h] at h1
  have h2 : (-1 : Int32).toInt = -1 := by decide
  rw [h2] at h1
  omega)
theorem n_m1l {b : Nat} (h : b < 2 ^ 31) : ((-1 : Int32) < nI b) = True := eq_true (by
  rw [Int32.lt_iff_toInt_lt, nI_toInt h]
  have h2 : (-1 : Int32).toInt = -1 := by decide
  omega)
/-- the class's reading: at p, fault f -/
def cm (F : Nat → Nat → Int32) (p f : Nat) : Nat → Nat → Int32 := fun b i => if b = 1 ∧ i = 2 then nI p else if b = 1 ∧ i = 3 then fC f else F b i
section S60
variable {X : Nat × (Nat → Int32)} {t u : Nat} {F : Nat → Nat → Int32} {J : Nat → Int64} {w : q_M}
theorem cm_n {p f b : Nat} (h : b ≠ 1) : cm F p f b = F b := by
  funext i
  simp only [cm]
  rw [if_neg (by omega), if_neg (by omega)]
theorem cm_1 {p f : Nat} : cm F p f 1 1 = F 1 1 := by simp [cm]
theorem cm_2 {p f : Nat} : cm F p f 1 2 = nI p := by simp [cm]
theorem cm_3 {p f : Nat} : cm F p f 1 3 = fC f := by simp [cm]
theorem cm_u2 {p f p' : Nat} : q_up (cm F p f) 1 2 (nI p') = cm F p' f := by
  funext b i
  simp only [q_app, cm]
  grind
theorem cm_u3 {p f f' : Nat} : q_up (cm F p f) 1 3 (fC f') = cm F p f' := by
  funext b i
  simp only [q_app, cm]
  grind
theorem cm_u3n {p f e : Nat} : q_up (cm F p f) 1 3 (nI e) = cm F p (e + 1) := by
  have h : nI e = fC (e + 1) := by simp [fC]
  rw [h]
  exact cm_u3
theorem fC_0 : fC 0 = -1 := rfl
theorem fC_s {f : Nat} (h : f ≠ 0) : fC f = nI (f - 1) := if_neg h
theorem s33_l {x : Nat → Nat} {l f : Nat} (hl : l ≤ 160) (hL : F 1 1 = nI l) (hx : ∀ i, i < l → F 2 i = nI (x i)) (hxb : ∀ i, x i < 256) : ∀ n p, l ≤ n + p → p ≤ 160 → q_ex X (33, 0, [.ref 1], [], q_w t u (cm F p f) J) = some (none, q_w t u (cm F (skS x l n p) f) J)
  | 0, p, h, hp => by
    rw [e33_0]
    simp (disch := (first | omega | assumption | rfl | (simp (disch := assumption) only [l9_2, l9_4, l9_5, l9_6, l9_7, l9_9, l9_10, l9_11, l9_12, l9_14, l9_15, l9_16, l9_17, l9_51, l9_52, l9_53, l9_55, l9_56, l9_58, l9_61, l9_73, l9_74, l9_75, l9_76, l9_77, l9_79, l9_80, l9_81, l9_82, l9_83, l9_84, l9_85, l10_59, l10_78, l9_D1, l9_D2, l9_D3, l9_D4, l9_T1, l9_T2, l9_T3, l9_T4]; omega) | decide)) only [e33_1, e33_4, e33_5, e33_8, e33_11, e33_12, e33_15, e33_16, e33_19, e33_20, e33_22, e33_25, e33_26, e33_27, e33_30, e33_31, e33_32, e33_35, e33_38, ↓reduceIte, Nat.reduceAdd, Nat.reduceMul, nI_add, pk_mul, n_lt_t, n_lt_f, n_le_t, n_le_f, n_eq_f, n_eq_t, n_z_f, n_z_t, n_lz, n_zl, not_true_eq_false, not_false_eq_true, cm_1, cm_2, hL, skS]
  | n + 1, p, h, hp => by
    rw [e33_0]
    by_cases h1 : p < l
    · have h2 := hx p h1
      have h3 := hxb p
      by_cases h4 : x p = 32
      · have ih := s33_l (f := f) hl hL hx hxb n (p + 1) (by omega) (by omega)
        simp (disch := (first | omega | assumption | rfl | (simp (disch := assumption) only [l9_2, l9_4, l9_5, l9_6, l9_7, l9_9, l9_10, l9_11, l9_12, l9_14, l9_15, l9_16, l9_17, l9_51, l9_52, l9_53, l9_55, l9_56, l9_58, l9_61, l9_73, l9_74, l9_75, l9_76, l9_77, l9_79, l9_80, l9_81, l9_82, l9_83, l9_84, l9_85, l10_59, l10_78, l9_D1, l9_D2, l9_D3, l9_D4, l9_T1, l9_T2, l9_T3, l9_T4]; omega) | decide)) only [e33_1, e33_4, e33_5, e33_8, e33_11, e33_12, e33_15, e33_16, e33_19, e33_20, e33_22, e33_25, e33_26, e33_27, e33_30, e33_31, e33_32, e33_35, e33_38, ↓reduceIte, Nat.reduceAdd, Nat.reduceMul, nI_add, pk_mul, n_lt_t, n_lt_f, n_le_t, n_le_f, n_eq_f, n_eq_t, n_z_f, n_z_t, n_lz, n_zl, not_true_eq_false, not_false_eq_true, cm_1, cm_2, cm_n, hL, h2, h4, cm_u2, ih]
        simp only [skS, h1, h4, and_self, if_true]
      · simp (disch := (first | omega | assumption | rfl | (simp (disch := assumption) only [l9_2, l9_4, l9_5, l9_6, l9_7, l9_9, l9_10, l9_11, l9_12, l9_14, l9_15, l9_16, l9_17, l9_51, l9_52, l9_53, l9_55, l9_56, l9_58, l9_61, l9_73, l9_74, l9_75, l9_76, l9_77, l9_79, l9_80, l9_81, l9_82, l9_83, l9_84, l9_85, l10_59, l10_78, l9_D1, l9_D2, l9_D3, l9_D4, l9_T1, l9_T2, l9_T3, l9_T4]; omega) | decide)) only [e33_1, e33_4, e33_5, e33_8, e33_11, e33_12, e33_15, e33_16, e33_19, e33_20, e33_22, e33_25, e33_26, e33_27, e33_30, e33_31, e33_32, e33_35, e33_38, ↓reduceIte, Nat.reduceAdd, Nat.reduceMul, nI_add, pk_mul, n_lt_t, n_lt_f, n_le_t, n_le_f, n_eq_f, n_eq_t, n_z_f, n_z_t, n_lz, n_zl, not_true_eq_false, not_false_eq_true, cm_1, cm_2, cm_n, hL, h2]
        simp only [skS, h4, and_false, if_false]
    · simp (disch := (first | omega | assumption | rfl | (simp (disch := assumption) only [l9_2, l9_4, l9_5, l9_6, l9_7, l9_9, l9_10, l9_11, l9_12, l9_14, l9_15, l9_16, l9_17, l9_51, l9_52, l9_53, l9_55, l9_56, l9_58, l9_61, l9_73, l9_74, l9_75, l9_76, l9_77, l9_79, l9_80, l9_81, l9_82, l9_83, l9_84, l9_85, l10_59, l10_78, l9_D1, l9_D2, l9_D3, l9_D4, l9_T1, l9_T2, l9_T3, l9_T4]; omega) | decide)) only [e33_1, e33_4, e33_5, e33_8, e33_11, e33_12, e33_15, e33_16, e33_19, e33_20, e33_22, e33_25, e33_26, e33_27, e33_30, e33_31, e33_32, e33_35, e33_38, ↓reduceIte, Nat.reduceAdd, Nat.reduceMul, nI_add, pk_mul, n_lt_t, n_lt_f, n_le_t, n_le_f, n_eq_f, n_eq_t, n_z_f, n_z_t, n_lz, n_zl, not_true_eq_false, not_false_eq_true, cm_1, cm_2, hL]
      simp only [skS, h1, false_and, if_false]
theorem s33 {x : Nat → Nat} {l f p : Nat} (hl : l ≤ 160) (hL : F 1 1 = nI l) (hx : ∀ i, i < l → F 2 i = nI (x i)) (hxb : ∀ i, x i < 256) (hp : p ≤ 160) : q_ex X (33, 0, [.ref 1], [], q_w t u (cm F p f) J) = some (none, q_w t u (cm F (sk x l p) f) J) := s33_l hl hL hx hxb l p (by omega) hp
theorem s41_l {x : Nat → Nat} {l f p : Nat} (hl : l ≤ 160) (hL : F 1 1 = nI l) (hx : ∀ i, i < l → F 2 i = nI (x i)) (hxb : ∀ i, x i < 256) : ∀ n k, l ≤ n + (p + k) → p + k ≤ 160 → q_ex X (41, 7, [.ref 1, .int (nI p), .int (nI (cv x p k)), .null, .null], [], q_w t u (cm F (p + k) f) J) = q_ex X (41, 87, [.ref 1, .int (nI p), .int (nI (cv x p (k + ddS x l n (p + k)))), .null, .null], [], q_w t u (cm F (p + k + ddS x l n (p + k)) f) J)
  | 0, k, h, hp => by
    rw [e41_7]
    simp (disch := (first | omega | assumption | rfl | (simp (disch := assumption) only [l9_2, l9_4, l9_5, l9_6, l9_7, l9_9, l9_10, l9_11, l9_12, l9_14, l9_15, l9_16, l9_17, l9_51, l9_52, l9_53, l9_55, l9_56, l9_58, l9_61, l9_73, l9_74, l9_75, l9_76, l9_77, l9_79, l9_80, l9_81, l9_82, l9_83, l9_84, l9_85, l10_59, l10_78, l9_D1, l9_D2, l9_D3, l9_D4, l9_T1, l9_T2, l9_T3, l9_T4]; omega) | decide)) only [e41_8, e41_11, e41_12, e41_15, ↓reduceIte, Nat.reduceAdd, Nat.reduceMul, nI_add, pk_mul, n_lt_t, n_lt_f, n_le_t, n_le_f, n_eq_f, n_eq_t, n_z_f, n_z_t, n_lz, n_zl, not_true_eq_false, not_false_eq_true, cm_1, cm_2, hL, ddS, Nat.add_zero]
  | n + 1, k, h, hp => by
    have hcl := cv_le (p := p) hxb k
    rw [e41_7]
    by_cases h1 : p + k < l
    · have h2 := hx (p + k) h1
      have h3 := hxb (p + k)
      by_cases h4 : 48 ≤ x (p + k)
      · by_cases h5 : x (p + k) ≤ 57
        · have ih := s41_l (f := f) (p := p) hl hL hx hxb n (k + 1) (by omega) (by omega)
          have hk : p + k + 1 = p + (k + 1) := by omega
          have hd : ddS x l (n + 1) (p + k) = ddS x l n (p + (k + 1)) + 1 := by
            simp only [ddS, if_pos (show p + k < l ∧ 48 ≤ x (p + k) ∧ x (p + k) ≤ 57 from ⟨h1, h4, h5⟩)]
            rw [hk]
          have hps : p + k - p = k := by omega
          rw [hd, show k + (ddS x l n (p + (k + 1)) + 1) = k + 1 + ddS x l n (p + (k + 1)) by omega, show p + k + (ddS x l n (p + (k + 1)) + 1) = p + (k + 1) + ddS x l n (p + (k + 1)) by omega, ← ih]
          by_cases h6 : k < 2
          · simp (disch := (first | omega | assumption | rfl | (simp (disch := assumption) only [l9_2, l9_4, l9_5, l9_6, l9_7, l9_9, l9_10, l9_11, l9_12, l9_14, l9_15, l9_16, l9_17, l9_51, l9_52, l9_53, l9_55, l9_56, l9_58, l9_61, l9_73, l9_74, l9_75, l9_76, l9_77, l9_79, l9_80, l9_81, l9_82, l9_83, l9_84, l9_85, l10_59, l10_78, l9_D1, l9_D2, l9_D3, l9_D4, l9_T1, l9_T2, l9_T3, l9_T4]; omega) | decide)) only [e41_0, e41_1, e41_4, e41_5, e41_6, e41_8, e41_11, e41_12, e41_15, e41_18, e41_19, e41_22, e41_23, e41_26, e41_27, e41_29, e41_32, e41_33, e41_36, e41_37, e41_40, e41_41, e41_43, e41_46, e41_47, e41_50, e41_51, e41_52, e41_53, e41_56, e41_58, e41_59, e41_60, e41_61, e41_64, e41_65, e41_68, e41_69, e41_70, e41_72, e41_73, e41_74, e41_75, e41_76, e41_79, e41_80, e41_81, e41_84, e41_88, e41_91, e41_92, e41_93, e41_94, e41_95, e41_96, e41_99, e41_100, e41_101, e41_104, e41_105, e41_107, e41_110, e41_111, e41_114, e41_115, e41_117, e41_119, e41_122, e41_123, e41_126, e41_127, ↓reduceIte, Nat.reduceAdd, Nat.reduceMul, nI_add, pk_mul, n_lt_t, n_lt_f, n_le_t, n_le_f, n_eq_f, n_eq_t, n_z_f, n_z_t, n_lz, n_zl, not_true_eq_false, not_false_eq_true, cm_1, cm_2, cm_n, hL, h2, n_sub, hps, cm_u2, hk]
            rw [cv, if_pos h6]
          · simp (disch := (first | omega | assumption | rfl | (simp (disch := assumption) only [l9_2, l9_4, l9_5, l9_6, l9_7, l9_9, l9_10, l9_11, l9_12, l9_14, l9_15, l9_16, l9_17, l9_51, l9_52, l9_53, l9_55, l9_56, l9_58, l9_61, l9_73, l9_74, l9_75, l9_76, l9_77, l9_79, l9_80, l9_81, l9_82, l9_83, l9_84, l9_85, l10_59, l10_78, l9_D1, l9_D2, l9_D3, l9_D4, l9_T1, l9_T2, l9_T3, l9_T4]; omega) | decide)) only [e41_0, e41_1, e41_4, e41_5, e41_6, e41_8, e41_11, e41_12, e41_15, e41_18, e41_19, e41_22, e41_23, e41_26, e41_27, e41_29, e41_32, e41_33, e41_36, e41_37, e41_40, e41_41, e41_43, e41_46, e41_47, e41_50, e41_51, e41_52, e41_53, e41_56, e41_58, e41_59, e41_60, e41_61, e41_64, e41_65, e41_68, e41_69, e41_70, e41_72, e41_73, e41_74, e41_75, e41_76, e41_79, e41_80, e41_81, e41_84, e41_88, e41_91, e41_92, e41_93, e41_94, e41_95, e41_96, e41_99, e41_100, e41_101, e41_104, e41_105, e41_107, e41_110, e41_111, e41_114, e41_115, e41_117, e41_119, e41_122, e41_123, e41_126, e41_127, ↓reduceIte, Nat.reduceAdd, Nat.reduceMul, nI_add, pk_mul, n_lt_t, n_lt_f, n_le_t, n_le_f, n_eq_f, n_eq_t, n_z_f, n_z_t, n_lz, n_zl, not_true_eq_false, not_false_eq_true, cm_1, cm_2, cm_n, hL, h2, n_sub, hps, cm_u2, hk]
            rw [cv, if_neg h6]
        · simp (disch := (first | omega | assumption | rfl | (simp (disch := assumption) only [l9_2, l9_4, l9_5, l9_6, l9_7, l9_9, l9_10, l9_11, l9_12, l9_14, l9_15, l9_16, l9_17, l9_51, l9_52, l9_53, l9_55, l9_56, l9_58, l9_61, l9_73, l9_74, l9_75, l9_76, l9_77, l9_79, l9_80, l9_81, l9_82, l9_83, l9_84, l9_85, l10_59, l10_78, l9_D1, l9_D2, l9_D3, l9_D4, l9_T1, l9_T2, l9_T3, l9_T4]; omega) | decide)) only [e41_0, e41_1, e41_4, e41_5, e41_6, e41_8, e41_11, e41_12, e41_15, e41_18, e41_19, e41_22, e41_23, e41_26, e41_27, e41_29, e41_32, e41_33, e41_36, e41_37, e41_40, e41_41, e41_43, e41_46, e41_47, e41_50, e41_51, e41_52, e41_53, e41_56, e41_58, e41_59, e41_60, e41_61, e41_64, e41_65, e41_68, e41_69, e41_70, e41_72, e41_73, e41_74, e41_75, e41_76, e41_79, e41_80, e41_81, e41_84, e41_88, e41_91, e41_92, e41_93, e41_94, e41_95, e41_96, e41_99, e41_100, e41_101, e41_104, e41_105, e41_107, e41_110, e41_111, e41_114, e41_115, e41_117, e41_119, e41_122, e41_123, e41_126, e41_127, ↓reduceIte, Nat.reduceAdd, Nat.reduceMul, nI_add, pk_mul, n_lt_t, n_lt_f, n_le_t, n_le_f, n_eq_f, n_eq_t, n_z_f, n_z_t, n_lz, n_zl, not_true_eq_false, not_false_eq_true, cm_1, cm_2, cm_n, hL, h2]
          simp only [ddS, if_neg (show ¬ (p + k < l ∧ 48 ≤ x (p + k) ∧ x (p + k) ≤ 57) from fun z => h5 z.2.2), Nat.add_zero]
      · simp (disch := (first | omega | assumption | rfl | (simp (disch := assumption) only [l9_2, l9_4, l9_5, l9_6, l9_7, l9_9, l9_10, l9_11, l9_12, l9_14, l9_15, l9_16, l9_17, l9_51, l9_52, l9_53, l9_55, l9_56, l9_58, l9_61, l9_73, l9_74, l9_75, l9_76, l9_77, l9_79, l9_80, l9_81, l9_82, l9_83, l9_84, l9_85, l10_59, l10_78, l9_D1, l9_D2, l9_D3, l9_D4, l9_T1, l9_T2, l9_T3, l9_T4]; omega) | decide)) only [e41_0, e41_1, e41_4, e41_5, e41_6, e41_8, e41_11, e41_12, e41_15, e41_18, e41_19, e41_22, e41_23, e41_26, e41_27, e41_29, e41_32, e41_33, e41_36, e41_37, e41_40, e41_41, e41_43, e41_46, e41_47, e41_50, e41_51, e41_52, e41_53, e41_56, e41_58, e41_59, e41_60, e41_61, e41_64, e41_65, e41_68, e41_69, e41_70, e41_72, e41_73, e41_74, e41_75, e41_76, e41_79, e41_80, e41_81, e41_84, e41_88, e41_91, e41_92, e41_93, e41_94, e41_95, e41_96, e41_99, e41_100, e41_101, e41_104, e41_105, e41_107, e41_110, e41_111, e41_114, e41_115, e41_117, e41_119, e41_122, e41_123, e41_126, e41_127, ↓reduceIte, Nat.reduceAdd, Nat.reduceMul, nI_add, pk_mul, n_lt_t, n_lt_f, n_le_t, n_le_f, n_eq_f, n_eq_t, n_z_f, n_z_t, n_lz, n_zl, not_true_eq_false, not_false_eq_true, cm_1, cm_2, cm_n, hL, h2]
        simp only [ddS, if_neg (show ¬ (p + k < l ∧ 48 ≤ x (p + k) ∧ x (p + k) ≤ 57) from fun z => h4 z.2.1), Nat.add_zero]
    · simp (disch := (first | omega | assumption | rfl | (simp (disch := assumption) only [l9_2, l9_4, l9_5, l9_6, l9_7, l9_9, l9_10, l9_11, l9_12, l9_14, l9_15, l9_16, l9_17, l9_51, l9_52, l9_53, l9_55, l9_56, l9_58, l9_61, l9_73, l9_74, l9_75, l9_76, l9_77, l9_79, l9_80, l9_81, l9_82, l9_83, l9_84, l9_85, l10_59, l10_78, l9_D1, l9_D2, l9_D3, l9_D4, l9_T1, l9_T2, l9_T3, l9_T4]; omega) | decide)) only [e41_0, e41_1, e41_4, e41_5, e41_6, e41_8, e41_11, e41_12, e41_15, e41_18, e41_19, e41_22, e41_23, e41_26, e41_27, e41_29, e41_32, e41_33, e41_36, e41_37, e41_40, e41_41, e41_43, e41_46, e41_47, e41_50, e41_51, e41_52, e41_53, e41_56, e41_58, e41_59, e41_60, e41_61, e41_64, e41_65, e41_68, e41_69, e41_70, e41_72, e41_73, e41_74, e41_75, e41_76, e41_79, e41_80, e41_81, e41_84, e41_88, e41_91, e41_92, e41_93, e41_94, e41_95, e41_96, e41_99, e41_100, e41_101, e41_104, e41_105, e41_107, e41_110, e41_111, e41_114, e41_115, e41_117, e41_119, e41_122, e41_123, e41_126, e41_127, ↓reduceIte, Nat.reduceAdd, Nat.reduceMul, nI_add, pk_mul, n_lt_t, n_lt_f, n_le_t, n_le_f, n_eq_f, n_eq_t, n_z_f, n_z_t, n_lz, n_zl, not_true_eq_false, not_false_eq_true, cm_1, cm_2, hL]
      simp only [ddS, if_neg (show ¬ (p + k < l ∧ 48 ≤ x (p + k) ∧ x (p + k) ≤ 57) from fun z => h1 z.1), Nat.add_zero]
/-- a NUMBER's value, if it is sound -/
def fgv (x : Nat → Nat) (l q : Nat) : Nat := cv x q (dd x l q)
theorem s41_t {x : Nat → Nat} {l f p : Nat} (hl : l ≤ 160) (hL : F 1 1 = nI l) (hx : ∀ i, i < l → F 2 i = nI (x i)) (hxb : ∀ i, x i < 256) (hp : p ≤ l) (ho : fgo x l p) : q_ex X (41, 0, [.ref 1, .null, .null, .null, .null], [], q_w t u (cm F p f) J) = some (some (.int (nI (fgv x l p))), q_w t u (cm F (p + dd x l p) f) J) := by
  have h1 := s41_l (X := X) (t := t) (u := u) (J := J) (f := f) (p := p) hl hL hx hxb l 0 (by omega) (by omega)
  have hcl := cv_le (p := p) hxb (dd x l p)
  have hdl : p + dd x l p ≤ l := ddS_le l p hp
  have hps : p + dd x l p - p = dd x l p := by omega
  simp only [Nat.add_zero, Nat.zero_add] at h1
  have h1' : q_ex X (41, 7, [.ref 1, .int (nI p), .int (nI 0), .null, .null], [], q_w t u (cm F p f) J) = q_ex X (41, 87, [.ref 1, .int (nI p), .int (nI (cv x p (dd x l p))), .null, .null], [], q_w t u (cm F (p + dd x l p) f) J) := h1
  simp (disch := (first | omega | assumption | rfl | (simp (disch := assumption) only [l9_2, l9_4, l9_5, l9_6, l9_7, l9_9, l9_10, l9_11, l9_12, l9_14, l9_15, l9_16, l9_17, l9_51, l9_52, l9_53, l9_55, l9_56, l9_58, l9_61, l9_73, l9_74, l9_75, l9_76, l9_77, l9_79, l9_80, l9_81, l9_82, l9_83, l9_84, l9_85, l10_59, l10_78, l9_D1, l9_D2, l9_D3, l9_D4, l9_T1, l9_T2, l9_T3, l9_T4]; omega) | decide)) only [e41_0, e41_1, e41_4, e41_5, e41_6, cm_2]
  rw [h1']
  rcases ho with e | ⟨e, e2⟩
  · simp (disch := (first | omega | assumption | rfl | (simp (disch := assumption) only [l9_2, l9_4, l9_5, l9_6, l9_7, l9_9, l9_10, l9_11, l9_12, l9_14, l9_15, l9_16, l9_17, l9_51, l9_52, l9_53, l9_55, l9_56, l9_58, l9_61, l9_73, l9_74, l9_75, l9_76, l9_77, l9_79, l9_80, l9_81, l9_82, l9_83, l9_84, l9_85, l10_59, l10_78, l9_D1, l9_D2, l9_D3, l9_D4, l9_T1, l9_T2, l9_T3, l9_T4]; omega) | decide)) only [e41_0, e41_1, e41_4, e41_5, e41_6, e41_8, e41_11, e41_12, e41_15, e41_18, e41_19, e41_22, e41_23, e41_26, e41_27, e41_29, e41_32, e41_33, e41_36, e41_37, e41_40, e41_41, e41_43, e41_46, e41_47, e41_50, e41_51, e41_52, e41_53, e41_56, e41_58, e41_59, e41_60, e41_61, e41_64, e41_65, e41_68, e41_69, e41_70, e41_72, e41_73, e41_74, e41_75, e41_76, e41_79, e41_80, e41_81, e41_84, e41_87, e41_88, e41_91, e41_92, e41_93, e41_94, e41_95, e41_96, e41_99, e41_100, e41_101, e41_104, e41_105, e41_107, e41_110, e41_111, e41_114, e41_115, e41_117, e41_119, e41_122, e41_123, e41_126, e41_127, ↓reduceIte, Nat.reduceAdd, Nat.reduceMul, nI_add, pk_mul, n_lt_t, n_lt_f, n_le_t, n_le_f, n_eq_f, n_eq_t, n_z_f, n_z_t, n_lz, n_zl, not_true_eq_false, not_false_eq_true, cm_2, n_sub, hps, e]
    simp only [fgv, e]
  · have hc2 := cv_le (p := p) hxb 2
    simp (disch := (first | omega | assumption | rfl | (simp (disch := assumption) only [l9_2, l9_4, l9_5, l9_6, l9_7, l9_9, l9_10, l9_11, l9_12, l9_14, l9_15, l9_16, l9_17, l9_51, l9_52, l9_53, l9_55, l9_56, l9_58, l9_61, l9_73, l9_74, l9_75, l9_76, l9_77, l9_79, l9_80, l9_81, l9_82, l9_83, l9_84, l9_85, l10_59, l10_78, l9_D1, l9_D2, l9_D3, l9_D4, l9_T1, l9_T2, l9_T3, l9_T4]; omega) | decide)) only [e41_0, e41_1, e41_4, e41_5, e41_6, e41_8, e41_11, e41_12, e41_15, e41_18, e41_19, e41_22, e41_23, e41_26, e41_27, e41_29, e41_32, e41_33, e41_36, e41_37, e41_40, e41_41, e41_43, e41_46, e41_47, e41_50, e41_51, e41_52, e41_53, e41_56, e41_58, e41_59, e41_60, e41_61, e41_64, e41_65, e41_68, e41_69, e41_70, e41_72, e41_73, e41_74, e41_75, e41_76, e41_79, e41_80, e41_81, e41_84, e41_87, e41_88, e41_91, e41_92, e41_93, e41_94, e41_95, e41_96, e41_99, e41_100, e41_101, e41_104, e41_105, e41_107, e41_110, e41_111, e41_114, e41_115, e41_117, e41_119, e41_122, e41_123, e41_126, e41_127, ↓reduceIte, Nat.reduceAdd, Nat.reduceMul, nI_add, pk_mul, n_lt_t, n_lt_f, n_le_t, n_le_f, n_eq_f, n_eq_t, n_z_f, n_z_t, n_lz, n_zl, not_true_eq_false, not_false_eq_true, cm_2, n_sub, hps, e]
    simp only [fgv, e]
theorem s41_f {x : Nat → Nat} {l f p : Nat} (hl : l ≤ 160) (hL : F 1 1 = nI l) (hx : ∀ i, i < l → F 2 i = nI (x i)) (hxb : ∀ i, x i < 256) (hp : p ≤ l) (ho : ¬ fgo x l p) : q_ex X (41, 0, [.ref 1, .null, .null, .null, .null], [], q_w t u (cm F p f) J) = some (some (.int (-1)), q_w t u (cm F (p + dd x l p) f) J) := by
  have h1 := s41_l (X := X) (t := t) (u := u) (J := J) (f := f) (p := p) hl hL hx hxb l 0 (by omega) (by omega)
  have hcl := cv_le (p := p) hxb (dd x l p)
  have hdl : p + dd x l p ≤ l := ddS_le l p hp
  have hps : p + dd x l p - p = dd x l p := by omega
  simp only [Nat.add_zero, Nat.zero_add] at h1
  have h1' : q_ex X (41, 7, [.ref 1, .int (nI p), .int (nI 0), .null, .null], [], q_w t u (cm F p f) J) = q_ex X (41, 87, [.ref 1, .int (nI p), .int (nI (cv x p (dd x l p))), .null, .null], [], q_w t u (cm F (p + dd x l p) f) J) := h1
  have e1 : dd x l p ≠ 1 := fun z => ho (Or.inl z)
  simp (disch := (first | omega | assumption | rfl | (simp (disch := assumption) only [l9_2, l9_4, l9_5, l9_6, l9_7, l9_9, l9_10, l9_11, l9_12, l9_14, l9_15, l9_16, l9_17, l9_51, l9_52, l9_53, l9_55, l9_56, l9_58, l9_61, l9_73, l9_74, l9_75, l9_76, l9_77, l9_79, l9_80, l9_81, l9_82, l9_83, l9_84, l9_85, l10_59, l10_78, l9_D1, l9_D2, l9_D3, l9_D4, l9_T1, l9_T2, l9_T3, l9_T4]; omega) | decide)) only [e41_0, e41_1, e41_4, e41_5, e41_6, cm_2]
  rw [h1']
  by_cases e : dd x l p = 2
  · have e2 : cv x p 2 ≤ 9 := by
      have : ¬ 9 < cv x p 2 := fun z => ho (Or.inr ⟨e, z⟩)
      omega
    rw [e] at hps ⊢
    simp (disch := (first | omega | assumption | rfl | (simp (disch := assumption) only [l9_2, l9_4, l9_5, l9_6, l9_7, l9_9, l9_10, l9_11, l9_12, l9_14, l9_15, l9_16, l9_17, l9_51, l9_52, l9_53, l9_55, l9_56, l9_58, l9_61, l9_73, l9_74, l9_75, l9_76, l9_77, l9_79, l9_80, l9_81, l9_82, l9_83, l9_84, l9_85, l10_59, l10_78, l9_D1, l9_D2, l9_D3, l9_D4, l9_T1, l9_T2, l9_T3, l9_T4]; omega) | decide)) only [e41_0, e41_1, e41_4, e41_5, e41_6, e41_8, e41_11, e41_12, e41_15, e41_18, e41_19, e41_22, e41_23, e41_26, e41_27, e41_29, e41_32, e41_33, e41_36, e41_37, e41_40, e41_41, e41_43, e41_46, e41_47, e41_50, e41_51, e41_52, e41_53, e41_56, e41_58, e41_59, e41_60, e41_61, e41_64, e41_65, e41_68, e41_69, e41_70, e41_72, e41_73, e41_74, e41_75, e41_76, e41_79, e41_80, e41_81, e41_84, e41_87, e41_88, e41_91, e41_92, e41_93, e41_94, e41_95, e41_96, e41_99, e41_100, e41_101, e41_104, e41_105, e41_107, e41_110, e41_111, e41_114, e41_115, e41_117, e41_119, e41_122, e41_123, e41_126, e41_127, ↓reduceIte, Nat.reduceAdd, Nat.reduceMul, nI_add, pk_mul, n_lt_t, n_lt_f, n_le_t, n_le_f, n_eq_f, n_eq_t, n_z_f, n_z_t, n_lz, n_zl, not_true_eq_false, not_false_eq_true, cm_2, n_sub, hps]
  · simp (disch := (first | omega | assumption | rfl | (simp (disch := assumption) only [l9_2, l9_4, l9_5, l9_6, l9_7, l9_9, l9_10, l9_11, l9_12, l9_14, l9_15, l9_16, l9_17, l9_51, l9_52, l9_53, l9_55, l9_56, l9_58, l9_61, l9_73, l9_74, l9_75, l9_76, l9_77, l9_79, l9_80, l9_81, l9_82, l9_83, l9_84, l9_85, l10_59, l10_78, l9_D1, l9_D2, l9_D3, l9_D4, l9_T1, l9_T2, l9_T3, l9_T4]; omega) | decide)) only [e41_0, e41_1, e41_4, e41_5, e41_6, e41_8, e41_11, e41_12, e41_15, e41_18, e41_19, e41_22, e41_23, e41_26, e41_27, e41_29, e41_32, e41_33, e41_36, e41_37, e41_40, e41_41, e41_43, e41_46, e41_47, e41_50, e41_51, e41_52, e41_53, e41_56, e41_58, e41_59, e41_60, e41_61, e41_64, e41_65, e41_68, e41_69, e41_70, e41_72, e41_73, e41_74, e41_75, e41_76, e41_79, e41_80, e41_81, e41_84, e41_87, e41_88, e41_91, e41_92, e41_93, e41_94, e41_95, e41_96, e41_99, e41_100, e41_101, e41_104, e41_105, e41_107, e41_110, e41_111, e41_114, e41_115, e41_117, e41_119, e41_122, e41_123, e41_126, e41_127, ↓reduceIte, Nat.reduceAdd, Nat.reduceMul, nI_add, pk_mul, n_lt_t, n_lt_f, n_le_t, n_le_f, n_eq_f, n_eq_t, n_z_f, n_z_t, n_lz, n_zl, not_true_eq_false, not_false_eq_true, cm_2, n_sub, hps]
end S60
