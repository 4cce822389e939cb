/-! ===== ROUNDS ===== -/
def pz (P : Nat → Int32) (j : Nat) : Nat → Int32 := fun i => if 3 * j ≤ i ∧ i < 3 * j + 3 then nI 0 else P i
theorem lev_congr {N P P' L : Nat → Int32} {o j c : Nat} (hj : j < 4) (h : ∀ i, i < 4 → P (3 * i + c) = P' (3 * i + c)) : ∀ k, k ≤ 4 → levS N P L o j c k = levS N P' L o j c k
  | 0, _ => by simp only [levS, h j hj]
  | k + 1, hk => by
    have ih := lev_congr (N := N) (L := L) (o := o) hj h k (by omega)
    simp only [levS, ih, h k (by omega)]
/-- one unit -/
def fs (j : Nat) (m : Int32) (s : (Nat → Int32) × (Nat → Int32)) : (Nat → Int32) × (Nat → Int32) := if qu s.1 s.2 j m 3 = 3 then s else (upd s.1 (3 * j + qu s.1 s.2 j m 3) (s.1 (3 * j + qu s.1 s.2 j m 3) + nI 1), upd s.2 (qu s.1 s.2 j m 3) (s.2 (qu s.1 s.2 j m 3) + nI 1))
def fsN (j : Nat) (m : Int32) : Nat → (Nat → Int32) × (Nat → Int32) → (Nat → Int32) × (Nat → Int32)
  | 0, s => s
  | n + 1, s => fsN j m n (fs j m s)
theorem fsN_fix {j : Nat} {m : Int32} {s : (Nat → Int32) × (Nat → Int32)} (h : qu s.1 s.2 j m 3 = 3) : ∀ n, fsN j m n s = s
  | 0 => rfl
  | n + 1 => by
    have h1 : fs j m s = s := by unfold fs; rw [if_pos h]
    rw [fsN, h1]
    exact fsN_fix h n
section S33
variable {X : Nat × (Nat → Int32)} {t u : Nat} {F : Nat → Nat → Int32} {J : Nat → Int64} {w : q_M}
theorem p_l9 {p : Nat} (hp : p = 17 ∨ p = 56) : k_l9 p = 12 := by rcases hp with rfl | rfl <;> rfl
theorem s12_l1 {a o p j : Nat} (ha : q_isT a = true) (hp : p = 17 ∨ p = 56) (ho : o < 16) (hj : j < 4) {v6 : Value} : q_ex X (12, 0, [.ref 54, .ref a, .int (nI o), .ref p, .int (nI j), .null, v6], [], q_w t u F J) = q_ex X (12, 42, [.ref 54, .ref a, .int (nI o), .ref p, .int (nI j), .int (nI 3), v6], [], q_w t u (va_up (va_up F p (pz (F p) j)) 55 (fun i => if i < 3 then levS (F (a + 3)) (pz (F p) j) (F (a + 2)) o j i 4 else F 55 i)) J) := by
  have hl := p_l9 hp
  have ha2 := isT_cases ha
  have h := q_iter0 (X := X) (fun k => (12, 3, [.ref 54, .ref a, .int (nI o), .ref p, .int (nI j), .int (nI k), v6], [], q_w t u (va_up (va_up F p (fun i => if 3 * j ≤ i ∧ i < 3 * j + k then nI 0 else F p i)) 55 (fun i => if i < k then levS (F (a + 3)) (pz (F p) j) (F (a + 2)) o j i 4 else F 55 i)) J)) 3 (fun k hk => ?_)
  · simp only [e12_0, e12_1]
    refine Eq.trans ?_ (h.trans ?_)
    · congr 6
      funext b i
      simp only [va_app]
      grind
    · rw [e12_3]
      simp (disch := (first | omega | assumption | rfl | (simp (disch := assumption) only [l9_2, l9_4, l9_5, l9_6, l9_7, l9_9, l9_10, l9_11, l9_12, l9_14, l9_15, l9_16, l9_17, l9_51, l9_52, l9_53, l9_55, l9_56, l9_58, l9_61, l9_73, l9_74, l9_75, l9_76, l9_77, l9_79, l9_80, l9_81, l9_82, l9_83, l9_84, l9_85, l10_59, l10_78, l9_D1, l9_D2, l9_D3, l9_D4, l9_T1, l9_T2, l9_T3, l9_T4]; omega) | decide)) only [e12_5, e12_6, ↓reduceIte, nI_add, pk_mul, n_lt_t, n_lt_f, n_le_t, n_le_f, n_eq_f, n_eq_t, n_z_f, n_z_t, n_lz, n_zl, not_true_eq_false, not_false_eq_true]
      rfl
  · try dsimp only
    rw [e12_3]
    simp (disch := (first | omega | assumption | rfl | (simp (disch := assumption) only [l9_2, l9_4, l9_5, l9_6, l9_7, l9_9, l9_10, l9_11, l9_12, l9_14, l9_15, l9_16, l9_17, l9_51, l9_52, l9_53, l9_55, l9_56, l9_58, l9_61, l9_73, l9_74, l9_75, l9_76, l9_77, l9_79, l9_80, l9_81, l9_82, l9_83, l9_84, l9_85, l10_59, l10_78, l9_D1, l9_D2, l9_D3, l9_D4, l9_T1, l9_T2, l9_T3, l9_T4]; omega) | decide)) only [e12_0, e12_1, e12_5, e12_6, e12_9, e12_10, e12_11, e12_13, e12_14, e12_16, e12_17, e12_18, e12_19, e12_20, e12_23, e12_25, e12_26, e12_27, e12_28, e12_30, e12_32, e12_35, e12_36, e12_39, e12_42, e12_43, e12_45, e12_47, e12_48, e12_51, e12_53, e12_54, e12_57, e12_58, e12_59, e12_61, e12_62, e12_65, e12_68, e12_70, e12_72, e12_74, e12_77, e12_78, e12_79, e12_80, e12_82, e12_83, e12_85, e12_86, e12_87, e12_88, e12_89, e12_90, e12_91, e12_92, e12_95, e12_97, e12_98, e12_99, e12_100, e12_101, e12_102, e12_105, e12_108, ↓reduceIte, nI_add, pk_mul, n_lt_t, n_lt_f, n_le_t, n_le_f, n_eq_f, n_eq_t, n_z_f, n_z_t, n_lz, n_zl, not_true_eq_false, not_false_eq_true, s10, Option.bind_some, Option.toList_some, Option.toList_none, List.cons_append, List.nil_append, q_up_n, q_up_s, va_up_n, va_up_s]
    congr 6
    have hlev : levS (F (a + 3)) (upd (fun i => if 3 * j ≤ i ∧ i < 3 * j + k then nI 0 else F p i) (3 * j + k) (nI 0)) (F (a + 2)) o j k 4 = levS (F (a + 3)) (pz (F p) j) (F (a + 2)) o j k 4 := lev_congr hj (fun i hi => by simp only [upd, pz]; grind) 4 (Nat.le_refl _)
    rw [hlev]
    funext b i
    simp only [q_app, va_app]
    grind
theorem s12_l2 {a o p j b : Nat} (ha : q_isT a = true) (hp : p = 17 ∨ p = 56) (ho : o < 16) (hj : j < 4) (hb : b < 100) (hB : F (a + 4) j = nI b) : ∀ (n k : Nat) (s : (Nat → Int32) × (Nat → Int32)) (v6 : Value), n + k = b → q_ex X (12, 45, [.ref 54, .ref a, .int (nI o), .ref p, .int (nI j), .int (nI k), v6], [], q_w t u (va_up (va_up F p s.1) 55 s.2) J) = some (none, q_w t u (va_up (va_up F p (fsN j (F a 4) n s).1) 55 (fsN j (F a 4) n s).2) J)
  | 0, k, s, v6, hk => by
    have hl := p_l9 hp
    have ha2 := isT_cases ha
    rw [e12_45]
    simp (disch := (first | omega | assumption | rfl | (simp (disch := assumption) only [l9_2, l9_4, l9_5, l9_6, l9_7, l9_9, l9_10, l9_11, l9_12, l9_14, l9_15, l9_16, l9_17, l9_51, l9_52, l9_53, l9_55, l9_56, l9_58, l9_61, l9_73, l9_74, l9_75, l9_76, l9_77, l9_79, l9_80, l9_81, l9_82, l9_83, l9_84, l9_85, l10_59, l10_78, l9_D1, l9_D2, l9_D3, l9_D4, l9_T1, l9_T2, l9_T3, l9_T4]; omega) | decide)) only [e12_0, e12_1, e12_3, e12_5, e12_6, e12_9, e12_10, e12_11, e12_13, e12_14, e12_16, e12_17, e12_18, e12_19, e12_20, e12_23, e12_25, e12_26, e12_27, e12_28, e12_30, e12_32, e12_35, e12_36, e12_39, e12_42, e12_43, e12_47, e12_48, e12_51, e12_53, e12_54, e12_57, e12_58, e12_59, e12_61, e12_62, e12_65, e12_68, e12_70, e12_72, e12_74, e12_77, e12_78, e12_79, e12_80, e12_82, e12_83, e12_85, e12_86, e12_87, e12_88, e12_89, e12_90, e12_91, e12_92, e12_95, e12_97, e12_98, e12_99, e12_100, e12_101, e12_102, e12_105, e12_108, ↓reduceIte, nI_add, pk_mul, n_lt_t, n_lt_f, n_le_t, n_le_f, n_eq_f, n_eq_t, n_z_f, n_z_t, n_lz, n_zl, not_true_eq_false, not_false_eq_true, va_up_n, va_up_s, hB, fsN]
  | n + 1, k, s, v6, hk => by
    have hl := p_l9 hp
    have ha2 := isT_cases ha
    have hq := qu_le s.1 s.2 j (F a 4) 3 (by omega)
    rw [e12_45]
    by_cases h3 : qu s.1 s.2 j (F a 4) 3 = 3
    · rw [fsN_fix h3]
      simp (disch := (first | omega | assumption | rfl | (simp (disch := assumption) only [l9_2, l9_4, l9_5, l9_6, l9_7, l9_9, l9_10, l9_11, l9_12, l9_14, l9_15, l9_16, l9_17, l9_51, l9_52, l9_53, l9_55, l9_56, l9_58, l9_61, l9_73, l9_74, l9_75, l9_76, l9_77, l9_79, l9_80, l9_81, l9_82, l9_83, l9_84, l9_85, l10_59, l10_78, l9_D1, l9_D2, l9_D3, l9_D4, l9_T1, l9_T2, l9_T3, l9_T4]; omega) | decide)) only [e12_0, e12_1, e12_3, e12_5, e12_6, e12_9, e12_10, e12_11, e12_13, e12_14, e12_16, e12_17, e12_18, e12_19, e12_20, e12_23, e12_25, e12_26, e12_27, e12_28, e12_30, e12_32, e12_35, e12_36, e12_39, e12_42, e12_43, e12_47, e12_48, e12_51, e12_53, e12_54, e12_57, e12_58, e12_59, e12_61, e12_62, e12_65, e12_68, e12_70, e12_72, e12_74, e12_77, e12_78, e12_79, e12_80, e12_82, e12_83, e12_85, e12_86, e12_87, e12_88, e12_89, e12_90, e12_91, e12_92, e12_95, e12_97, e12_98, e12_99, e12_100, e12_101, e12_102, e12_105, e12_108, ↓reduceIte, nI_add, pk_mul, n_lt_t, n_lt_f, n_le_t, n_le_f, n_eq_f, n_eq_t, n_z_f, n_z_t, n_lz, n_zl, not_true_eq_false, not_false_eq_true, va_up_n, va_up_s, hB, s13, Option.bind_some, Option.toList_some, Option.toList_none, List.cons_append, List.nil_append, h3, qv_3]
    · have h4 : qu s.1 s.2 j (F a 4) 3 < 3 := by omega
      have ih := s12_l2 ha hp ho hj hb hB n (k + 1) (fs j (F a 4) s) (.int (nI (qu s.1 s.2 j (F a 4) 3))) (by omega)
      rw [fsN, ← ih]
      simp (disch := (first | omega | assumption | rfl | (simp (disch := assumption) only [l9_2, l9_4, l9_5, l9_6, l9_7, l9_9, l9_10, l9_11, l9_12, l9_14, l9_15, l9_16, l9_17, l9_51, l9_52, l9_53, l9_55, l9_56, l9_58, l9_61, l9_73, l9_74, l9_75, l9_76, l9_77, l9_79, l9_80, l9_81, l9_82, l9_83, l9_84, l9_85, l10_59, l10_78, l9_D1, l9_D2, l9_D3, l9_D4, l9_T1, l9_T2, l9_T3, l9_T4]; omega) | decide)) only [e12_0, e12_1, e12_3, e12_5, e12_6, e12_9, e12_10, e12_11, e12_13, e12_14, e12_16, e12_17, e12_18, e12_19, e12_20, e12_23, e12_25, e12_26, e12_27, e12_28, e12_30, e12_32, e12_35, e12_36, e12_39, e12_42, e12_43, e12_47, e12_48, e12_51, e12_53, e12_54, e12_57, e12_58, e12_59, e12_61, e12_62, e12_65, e12_68, e12_70, e12_72, e12_74, e12_77, e12_78, e12_79, e12_80, e12_82, e12_83, e12_85, e12_86, e12_87, e12_88, e12_89, e12_90, e12_91, e12_92, e12_95, e12_97, e12_98, e12_99, e12_100, e12_101, e12_102, e12_105, e12_108, ↓reduceIte, nI_add, pk_mul, n_lt_t, n_lt_f, n_le_t, n_le_f, n_eq_f, n_eq_t, n_z_f, n_z_t, n_lz, n_zl, not_true_eq_false, not_false_eq_true, va_up_n, va_up_s, q_up_n, q_up_s, hB, s13, Option.bind_some, Option.toList_some, Option.toList_none, List.cons_append, List.nil_append, qv_t h4, n_m9]
      congr 6
      unfold fs
      rw [if_neg h3]
      funext b i
      simp only [q_app, va_app, upd]
      grind
/-- a LINE's POWER is laid -/
def lay (N L : Nat → Int32) (o j b : Nat) (m : Int32) (P V : Nat → Int32) : (Nat → Int32) × (Nat → Int32) := fsN j m b (pz P j, fun i => if i < 3 then levS N (pz P j) L o j i 4 else V i)
theorem s12 {a o p j b : Nat} (ha : q_isT a = true) (hp : p = 17 ∨ p = 56) (ho : o < 16) (hj : j < 4) (hb : b < 100) (hB : F (a + 4) j = nI b) : q_ex X (12, 0, [.ref 54, .ref a, .int (nI o), .ref p, .int (nI j), .null, .null], [], q_w t u F J) = some (none, q_w t u (va_up (va_up F p (lay (F (a + 3)) (F (a + 2)) o j b (F a 4) (F p) (F 55)).1) 55 (lay (F (a + 3)) (F (a + 2)) o j b (F a 4) (F p) (F 55)).2) J) := by
  rw [s12_l1 ha hp ho hj]
  simp (disch := (first | omega | assumption | rfl | (simp (disch := assumption) only [l9_2, l9_4, l9_5, l9_6, l9_7, l9_9, l9_10, l9_11, l9_12, l9_14, l9_15, l9_16, l9_17, l9_51, l9_52, l9_53, l9_55, l9_56, l9_58, l9_61, l9_73, l9_74, l9_75, l9_76, l9_77, l9_79, l9_80, l9_81, l9_82, l9_83, l9_84, l9_85, l10_59, l10_78, l9_D1, l9_D2, l9_D3, l9_D4, l9_T1, l9_T2, l9_T3, l9_T4]; omega) | decide)) only [e12_42, e12_43]
  exact s12_l2 ha hp ho hj hb hB b 0 (pz (F p) j, fun i => if i < 3 then levS (F (a + 3)) (pz (F p) j) (F (a + 2)) o j i 4 else F 55 i) .null rfl
end S33
