/-! ===== bitCount; QuietPairs$Tried ===== -/
section S44
variable {X : Nat × (Nat → Int32)} {t u : Nat} {F : Nat → Nat → Int32} {J : Nat → Int64} {w : q_M}
theorem s148 {x : Nat} (h : x < 65536) : q_ex X (148, 0, [.int (nI x)], [], w) = some (some (.int (nI (pcS x 16))), w) := by
  rw [← pcA_eq h]
  have h1 : (x / 2 ^ 1 &&& 1431655765) ≤ x := Nat.le_trans Nat.and_le_left (Nat.div_le_self _ _)
  have h2 : x - (x / 2 ^ 1 &&& 1431655765) < 65536 := by omega
  have h3 : ((x - (x / 2 ^ 1 &&& 1431655765)) &&& 858993459) ≤ x - (x / 2 ^ 1 &&& 1431655765) := Nat.and_le_left
  have h4 : ((x - (x / 2 ^ 1 &&& 1431655765)) / 2 ^ 2 &&& 858993459) ≤ (x - (x / 2 ^ 1 &&& 1431655765)) := Nat.le_trans Nat.and_le_left (Nat.div_le_self _ _)
  have h5 : (((x - (x / 2 ^ 1 &&& 1431655765)) &&& 858993459) + ((x - (x / 2 ^ 1 &&& 1431655765)) / 2 ^ 2 &&& 858993459) + (((x - (x / 2 ^ 1 &&& 1431655765)) &&& 858993459) + ((x - (x / 2 ^ 1 &&& 1431655765)) / 2 ^ 2 &&& 858993459)) / 2 ^ 4 &&& 252645135) ≤ 252645135 := Nat.and_le_right
  simp (disch := (first | omega | assumption | rfl | (simp (disch := assumption) only [l9_2, l9_4, l9_5, l9_6, l9_7, l9_9, l9_10, l9_11, l9_12, l9_14, l9_15, l9_16, l9_17, l9_51, l9_52, l9_53, l9_55, l9_56, l9_58, l9_61, l9_73, l9_74, l9_75, l9_76, l9_77, l9_79, l9_80, l9_81, l9_82, l9_83, l9_84, l9_85, l10_59, l10_78, l9_D1, l9_D2, l9_D3, l9_D4, l9_T1, l9_T2, l9_T3, l9_T4]; omega) | decide)) only [e148_0, e148_1, e148_2, e148_3, e148_4, e148_7, e148_8, e148_9, e148_10, e148_11, e148_14, e148_15, e148_16, e148_17, e148_18, e148_21, e148_22, e148_23, e148_24, e148_25, e148_26, e148_27, e148_28, e148_29, e148_32, e148_33, e148_34, e148_35, e148_36, e148_38, e148_39, e148_40, e148_41, e148_42, e148_43, e148_45, e148_46, e148_47, e148_48, e148_49, e148_51, e148_52, n_and, n_ushr, n_sub, nI_add]
  rfl
theorem s46_t {a s v n : Nat} (ha : a < 4) (hs : s < 16) (hv : v < 2) (hn : n < 8) (h1 : F 57 2 = nI n) : q_ex X (46, 0, [.ref 57, .int (nI a), .int (nI s), .int (nI v)], [], q_w t u F J) = some (some (.int (nI 1)), q_w t u (q_up (q_up (q_up F 58 n (nI (s * 2 ^ (4 * a)))) 59 n (nI v)) 57 2 (nI (n + 1))) J) := by
  have hb : s * 2 ^ (4 * a) < 2 ^ 32 := by
    have h2 : 2 ^ (4 * a) ≤ 2 ^ 12 := Nat.pow_le_pow_right (by decide) (by omega)
    have h3 : s * 2 ^ (4 * a) ≤ 15 * 2 ^ 12 := Nat.mul_le_mul (by omega) h2
    omega
  by_cases hv1 : v = 1
  · subst hv1
    simp (disch := (first | omega | assumption | rfl | (simp (disch := assumption) only [l9_2, l9_4, l9_5, l9_6, l9_7, l9_9, l9_10, l9_11, l9_12, l9_14, l9_15, l9_16, l9_17, l9_51, l9_52, l9_53, l9_55, l9_56, l9_58, l9_61, l9_73, l9_74, l9_75, l9_76, l9_77, l9_79, l9_80, l9_81, l9_82, l9_83, l9_84, l9_85, l10_59, l10_78, l9_D1, l9_D2, l9_D3, l9_D4, l9_T1, l9_T2, l9_T3, l9_T4]; omega) | decide)) only [e46_0, e46_1, e46_4, e46_6, e46_9, e46_10, e46_11, e46_12, e46_15, e46_16, e46_19, e46_20, e46_21, e46_22, e46_23, e46_24, e46_25, e46_26, e46_29, e46_30, e46_33, e46_34, e46_35, e46_38, e46_39, e46_42, e46_43, e46_44, e46_45, e46_46, e46_49, e46_50, e46_51, e46_54, e46_55, ↓reduceIte, Nat.reduceAdd, Nat.reduceMul, nI_add, pk_mul, n_lt_t, n_lt_f, n_le_t, n_le_f, n_eq_f, n_eq_t, n_z_f, n_z_t, n_lz, n_zl, not_true_eq_false, not_false_eq_true, q_up_n, h1, n_shl, l10_59]
  · obtain rfl : v = 0 := by omega
    simp (disch := (first | omega | assumption | rfl | (simp (disch := assumption) only [l9_2, l9_4, l9_5, l9_6, l9_7, l9_9, l9_10, l9_11, l9_12, l9_14, l9_15, l9_16, l9_17, l9_51, l9_52, l9_53, l9_55, l9_56, l9_58, l9_61, l9_73, l9_74, l9_75, l9_76, l9_77, l9_79, l9_80, l9_81, l9_82, l9_83, l9_84, l9_85, l10_59, l10_78, l9_D1, l9_D2, l9_D3, l9_D4, l9_T1, l9_T2, l9_T3, l9_T4]; omega) | decide)) only [e46_0, e46_1, e46_4, e46_6, e46_9, e46_10, e46_11, e46_12, e46_15, e46_16, e46_19, e46_20, e46_21, e46_22, e46_23, e46_24, e46_25, e46_26, e46_29, e46_30, e46_33, e46_34, e46_35, e46_38, e46_39, e46_42, e46_43, e46_44, e46_45, e46_46, e46_49, e46_50, e46_51, e46_54, e46_55, ↓reduceIte, Nat.reduceAdd, Nat.reduceMul, nI_add, pk_mul, n_lt_t, n_lt_f, n_le_t, n_le_f, n_eq_f, n_eq_t, n_z_f, n_z_t, n_lz, n_zl, not_true_eq_false, not_false_eq_true, q_up_n, h1, n_shl, l10_59]
theorem s46_f {a s v : Int32} (h1 : F 57 2 = nI 8) : q_ex X (46, 0, [.ref 57, .int a, .int s, .int v], [], q_w t u F J) = some (some (.int (nI 0)), q_w t u F J) := by
  simp (disch := (first | omega | assumption | rfl | (simp (disch := assumption) only [l9_2, l9_4, l9_5, l9_6, l9_7, l9_9, l9_10, l9_11, l9_12, l9_14, l9_15, l9_16, l9_17, l9_51, l9_52, l9_53, l9_55, l9_56, l9_58, l9_61, l9_73, l9_74, l9_75, l9_76, l9_77, l9_79, l9_80, l9_81, l9_82, l9_83, l9_84, l9_85, l10_59, l10_78, l9_D1, l9_D2, l9_D3, l9_D4, l9_T1, l9_T2, l9_T3, l9_T4]; omega) | decide)) only [e46_0, e46_1, e46_4, e46_6, e46_9, e46_10, e46_11, e46_12, e46_15, e46_16, e46_19, e46_20, e46_21, e46_22, e46_23, e46_24, e46_25, e46_26, e46_29, e46_30, e46_33, e46_34, e46_35, e46_38, e46_39, e46_42, e46_43, e46_44, e46_45, e46_46, e46_49, e46_50, e46_51, e46_54, e46_55, ↓reduceIte, Nat.reduceAdd, Nat.reduceMul, nI_add, pk_mul, n_lt_t, n_lt_f, n_le_t, n_le_f, n_eq_f, n_eq_t, n_z_f, n_z_t, n_lz, n_zl, not_true_eq_false, not_false_eq_true, h1]
end S44
/-- EARS of LINES that are ON, for such, as bits -/
def suI (o : Nat) : Nat → Nat
  | 0 => 0
  | k + 1 => if bt o k = 1 then suI o k ||| o * 2 ^ (4 * k) else suI o k
theorem suI_lt {o k : Nat} (ho : o < 16) (hk : k ≤ 4) : suI o k < 65536 := by
  have h : ∀ o, o < 16 → ∀ k, k < 5 → suI o k < 65536 := by decide +kernel
  exact h o ho k (by omega)
/-- those that all that was TRIED leaves -/
def suT (H V : Nat → Nat) (e : Nat) : Nat → Nat
  | 0 => e
  | k + 1 => suT H V e k &&& (if V k = 0 then H k else H k ^^^ 4294967295)
theorem suT_le (H V : Nat → Nat) (e : Nat) : ∀ k, suT H V e k ≤ e
  | 0 => Nat.le_refl _
  | k + 1 => Nat.le_trans Nat.and_le_left (suT_le H V e k)
/-- the least bit from k on, n looked at -/
def lsS (x : Nat) : Nat → Nat → Int32
  | 0, _ => -9
  | n + 1, k => if bt x k = 1 then nI k else lsS x n (k + 1)
/-- the best to try next: of the first k -/
def bgr (e al k : Nat) : Nat := if pcS (e &&& k % 16 * 2 ^ (4 * (k / 16))) 16 < al - pcS (e &&& k % 16 * 2 ^ (4 * (k / 16))) 16 then al - pcS (e &&& k % 16 * 2 ^ (4 * (k / 16))) 16 else pcS (e &&& k % 16 * 2 ^ (4 * (k / 16))) 16
def bsS (e al o : Nat) : Nat → Nat × Nat
  | 0 => (64, al + 1)
  | k + 1 => if bt o (k / 16) = 1 ∧ (k % 16 &&& (o ^^^ 4294967295)) = 0 ∧ bgr e al k < (bsS e al o k).2 then (k, bgr e al k) else bsS e al o k
def bv (b : Nat) : Int32 := if b < 64 then nI b else -9
theorem pcS_and {e x : Nat} : ∀ k, pcS (e &&& x) k ≤ pcS e k
  | 0 => Nat.le_refl _
  | k + 1 => by
    have ih := pcS_and (e := e) (x := x) k
    have h1 : bt (e &&& x) k ≤ bt e k := by
      have h2 : ∀ y, bt y k = (y.testBit k).toNat := by
        intro y
        simp only [bt, Nat.testBit_eq_decide_div_mod_eq]
        have := Nat.mod_two_eq_zero_or_one (y / 2 ^ k)
        rcases this with h | h <;> simp [h]
      rw [h2, h2, Nat.testBit_and]
      cases e.testBit k <;> cases x.testBit k <;> simp
    simp only [pcS]
    omega
section S45
variable {X : Nat × (Nat → Int32)} {t u : Nat} {F : Nat → Nat → Int32} {J : Nat → Int64} {w : q_M}
theorem s47 {o m : Nat} {H V : Nat → Nat} (ho : o < 16) (hm : m ≤ 8) (h1 : F 57 2 = nI m) (hH : ∀ i, i < m → F 58 i = nI (H i)) (hV : ∀ i, i < m → F 59 i = nI (V i) ∧ V i < 2) : q_ex X (47, 0, [.ref 57, .int (nI o), .null, .null], [], q_w t u F J) = some (some (.int (nI (suT H V (suI o 4) m))), q_w t u F J) := by
  have hl1 := q_iter0 (X := X) (fun k => (47, 4, [.ref 57, .int (nI o), .int (nI (suI o k)), .int (nI k)], [], q_w t u F J)) 4 (fun k hk => ?_)
  have hl2 := q_iter0 (X := X) (fun k => (47, 34, [.ref 57, .int (nI o), .int (nI (suT H V (suI o 4) k)), .int (nI k)], [], q_w t u F J)) m (fun k hk => ?_)
  · simp only [e47_0, e47_1, e47_2, e47_3]
    have hl1' : q_ex X (47, 4, [.ref 57, .int (nI o), .int (nI 0), .int (nI 0)], [], q_w t u F J) = q_ex X (47, 4, [.ref 57, .int (nI o), .int (nI (suI o 4)), .int (nI 4)], [], q_w t u F J) := hl1
    rw [hl1', e47_4]
    simp (disch := (first | omega | assumption | rfl | (simp (disch := assumption) only [l9_2, l9_4, l9_5, l9_6, l9_7, l9_9, l9_10, l9_11, l9_12, l9_14, l9_15, l9_16, l9_17, l9_51, l9_52, l9_53, l9_55, l9_56, l9_58, l9_61, l9_73, l9_74, l9_75, l9_76, l9_77, l9_79, l9_80, l9_81, l9_82, l9_83, l9_84, l9_85, l10_59, l10_78, l9_D1, l9_D2, l9_D3, l9_D4, l9_T1, l9_T2, l9_T3, l9_T4]; omega) | decide)) only [e47_0, e47_1, e47_2, e47_3, e47_5, e47_6, e47_9, e47_10, e47_11, e47_12, e47_13, e47_14, e47_15, e47_18, e47_19, e47_20, e47_21, e47_22, e47_23, e47_24, e47_25, e47_26, e47_29, e47_32, e47_33, e47_35, e47_36, e47_39, e47_42, e47_43, e47_45, e47_48, e47_49, e47_50, e47_53, e47_54, e47_55, e47_58, e47_59, e47_62, e47_63, e47_64, e47_65, e47_66, e47_69, e47_70, e47_73, e47_74, e47_75, e47_76, e47_77, e47_80, e47_83, e47_84, ↓reduceIte, Nat.reduceAdd, Nat.reduceMul, nI_add, pk_mul, n_lt_t, n_lt_f, n_le_t, n_le_f, n_eq_f, n_eq_t, n_z_f, n_z_t, n_lz, n_zl, not_true_eq_false, not_false_eq_true]
    have hl2' : q_ex X (47, 34, [.ref 57, .int (nI o), .int (nI (suI o 4)), .int (nI 0)], [], q_w t u F J) = q_ex X (47, 34, [.ref 57, .int (nI o), .int (nI (suT H V (suI o 4) m)), .int (nI m)], [], q_w t u F J) := hl2
    rw [hl2', e47_34]
    simp (disch := (first | omega | assumption | rfl | (simp (disch := assumption) only [l9_2, l9_4, l9_5, l9_6, l9_7, l9_9, l9_10, l9_11, l9_12, l9_14, l9_15, l9_16, l9_17, l9_51, l9_52, l9_53, l9_55, l9_56, l9_58, l9_61, l9_73, l9_74, l9_75, l9_76, l9_77, l9_79, l9_80, l9_81, l9_82, l9_83, l9_84, l9_85, l10_59, l10_78, l9_D1, l9_D2, l9_D3, l9_D4, l9_T1, l9_T2, l9_T3, l9_T4]; omega) | decide)) only [e47_0, e47_1, e47_2, e47_3, e47_5, e47_6, e47_9, e47_10, e47_11, e47_12, e47_13, e47_14, e47_15, e47_18, e47_19, e47_20, e47_21, e47_22, e47_23, e47_24, e47_25, e47_26, e47_29, e47_32, e47_33, e47_35, e47_36, e47_39, e47_42, e47_43, e47_45, e47_48, e47_49, e47_50, e47_53, e47_54, e47_55, e47_58, e47_59, e47_62, e47_63, e47_64, e47_65, e47_66, e47_69, e47_70, e47_73, e47_74, e47_75, e47_76, e47_77, e47_80, e47_83, e47_84, ↓reduceIte, Nat.reduceAdd, Nat.reduceMul, nI_add, pk_mul, n_lt_t, n_lt_f, n_le_t, n_le_f, n_eq_f, n_eq_t, n_z_f, n_z_t, n_lz, n_zl, not_true_eq_false, not_false_eq_true, h1]
  · try dsimp only
    obtain ⟨hv1, hv2⟩ := hV k hk
    have hh1 := hH k hk
    rw [e47_34]
    by_cases hz : V k = 0
    · simp (disch := (first | omega | assumption | rfl | (simp (disch := assumption) only [l9_2, l9_4, l9_5, l9_6, l9_7, l9_9, l9_10, l9_11, l9_12, l9_14, l9_15, l9_16, l9_17, l9_51, l9_52, l9_53, l9_55, l9_56, l9_58, l9_61, l9_73, l9_74, l9_75, l9_76, l9_77, l9_79, l9_80, l9_81, l9_82, l9_83, l9_84, l9_85, l10_59, l10_78, l9_D1, l9_D2, l9_D3, l9_D4, l9_T1, l9_T2, l9_T3, l9_T4]; omega) | decide)) only [e47_0, e47_1, e47_2, e47_3, e47_5, e47_6, e47_9, e47_10, e47_11, e47_12, e47_13, e47_14, e47_15, e47_18, e47_19, e47_20, e47_21, e47_22, e47_23, e47_24, e47_25, e47_26, e47_29, e47_32, e47_33, e47_35, e47_36, e47_39, e47_42, e47_43, e47_45, e47_48, e47_49, e47_50, e47_53, e47_54, e47_55, e47_58, e47_59, e47_62, e47_63, e47_64, e47_65, e47_66, e47_69, e47_70, e47_73, e47_74, e47_75, e47_76, e47_77, e47_80, e47_83, e47_84, ↓reduceIte, Nat.reduceAdd, Nat.reduceMul, nI_add, pk_mul, n_lt_t, n_lt_f, n_le_t, n_le_f, n_eq_f, n_eq_t, n_z_f, n_z_t, n_lz, n_zl, not_true_eq_false, not_false_eq_true, h1, hv1, hz, hh1, n_and, l10_59]
      simp only [suT, hz, ↓reduceIte]
    · simp (disch := (first | omega | assumption | rfl | (simp (disch := assumption) only [l9_2, l9_4, l9_5, l9_6, l9_7, l9_9, l9_10, l9_11, l9_12, l9_14, l9_15, l9_16, l9_17, l9_51, l9_52, l9_53, l9_55, l9_56, l9_58, l9_61, l9_73, l9_74, l9_75, l9_76, l9_77, l9_79, l9_80, l9_81, l9_82, l9_83, l9_84, l9_85, l10_59, l10_78, l9_D1, l9_D2, l9_D3, l9_D4, l9_T1, l9_T2, l9_T3, l9_T4]; omega) | decide)) only [e47_0, e47_1, e47_2, e47_3, e47_5, e47_6, e47_9, e47_10, e47_11, e47_12, e47_13, e47_14, e47_15, e47_18, e47_19, e47_20, e47_21, e47_22, e47_23, e47_24, e47_25, e47_26, e47_29, e47_32, e47_33, e47_35, e47_36, e47_39, e47_42, e47_43, e47_45, e47_48, e47_49, e47_50, e47_53, e47_54, e47_55, e47_58, e47_59, e47_62, e47_63, e47_64, e47_65, e47_66, e47_69, e47_70, e47_73, e47_74, e47_75, e47_76, e47_77, e47_80, e47_83, e47_84, ↓reduceIte, Nat.reduceAdd, Nat.reduceMul, nI_add, pk_mul, n_lt_t, n_lt_f, n_le_t, n_le_f, n_eq_f, n_eq_t, n_z_f, n_z_t, n_lz, n_zl, not_true_eq_false, not_false_eq_true, h1, hv1, hh1, n_and, n_not, l10_59]
      simp only [suT, hz, ↓reduceIte]
  · try dsimp only
    rw [e47_4]
    have hb : o * 2 ^ (4 * k) < 2 ^ 32 := by
      have h2 : 2 ^ (4 * k) ≤ 2 ^ 12 := Nat.pow_le_pow_right (by decide) (by omega)
      have h3 : o * 2 ^ (4 * k) ≤ 15 * 2 ^ 12 := Nat.mul_le_mul (by omega) h2
      omega
    by_cases h2 : bt o k = 1
    · simp (disch := (first | omega | assumption | rfl | (simp (disch := assumption) only [l9_2, l9_4, l9_5, l9_6, l9_7, l9_9, l9_10, l9_11, l9_12, l9_14, l9_15, l9_16, l9_17, l9_51, l9_52, l9_53, l9_55, l9_56, l9_58, l9_61, l9_73, l9_74, l9_75, l9_76, l9_77, l9_79, l9_80, l9_81, l9_82, l9_83, l9_84, l9_85, l10_59, l10_78, l9_D1, l9_D2, l9_D3, l9_D4, l9_T1, l9_T2, l9_T3, l9_T4]; omega) | decide)) only [e47_0, e47_1, e47_2, e47_3, e47_5, e47_6, e47_9, e47_10, e47_11, e47_12, e47_13, e47_14, e47_15, e47_18, e47_19, e47_20, e47_21, e47_22, e47_23, e47_24, e47_25, e47_26, e47_29, e47_32, e47_33, e47_35, e47_36, e47_39, e47_42, e47_43, e47_45, e47_48, e47_49, e47_50, e47_53, e47_54, e47_55, e47_58, e47_59, e47_62, e47_63, e47_64, e47_65, e47_66, e47_69, e47_70, e47_73, e47_74, e47_75, e47_76, e47_77, e47_80, e47_83, e47_84, ↓reduceIte, Nat.reduceAdd, Nat.reduceMul, nI_add, pk_mul, n_lt_t, n_lt_f, n_le_t, n_le_f, n_eq_f, n_eq_t, n_z_f, n_z_t, n_lz, n_zl, not_true_eq_false, not_false_eq_true, n_bit, h2, n_shl, n_or]
      simp only [suI, h2, ↓reduceIte]
    · have h0 : bt o k = 0 := by have := bt_lt o k; omega
      simp (disch := (first | omega | assumption | rfl | (simp (disch := assumption) only [l9_2, l9_4, l9_5, l9_6, l9_7, l9_9, l9_10, l9_11, l9_12, l9_14, l9_15, l9_16, l9_17, l9_51, l9_52, l9_53, l9_55, l9_56, l9_58, l9_61, l9_73, l9_74, l9_75, l9_76, l9_77, l9_79, l9_80, l9_81, l9_82, l9_83, l9_84, l9_85, l10_59, l10_78, l9_D1, l9_D2, l9_D3, l9_D4, l9_T1, l9_T2, l9_T3, l9_T4]; omega) | decide)) only [e47_0, e47_1, e47_2, e47_3, e47_5, e47_6, e47_9, e47_10, e47_11, e47_12, e47_13, e47_14, e47_15, e47_18, e47_19, e47_20, e47_21, e47_22, e47_23, e47_24, e47_25, e47_26, e47_29, e47_32, e47_33, e47_35, e47_36, e47_39, e47_42, e47_43, e47_45, e47_48, e47_49, e47_50, e47_53, e47_54, e47_55, e47_58, e47_59, e47_62, e47_63, e47_64, e47_65, e47_66, e47_69, e47_70, e47_73, e47_74, e47_75, e47_76, e47_77, e47_80, e47_83, e47_84, ↓reduceIte, Nat.reduceAdd, Nat.reduceMul, nI_add, pk_mul, n_lt_t, n_lt_f, n_le_t, n_le_f, n_eq_f, n_eq_t, n_z_f, n_z_t, n_lz, n_zl, not_true_eq_false, not_false_eq_true, n_bit, h0]
      simp only [suI, h0, Nat.zero_ne_one, ↓reduceIte]
theorem s48_l {x : Nat} (hx : x < 65536) : ∀ (n k : Nat), n + k = 16 → q_ex X (48, 2, [.int (nI x), .int (nI k)], [], w) = some (some (.int (lsS x n k)), w)
  | 0, k, hk => by
    obtain rfl : k = 16 := by omega
    rw [e48_2]
    simp (disch := (first | omega | assumption | rfl | (simp (disch := assumption) only [l9_2, l9_4, l9_5, l9_6, l9_7, l9_9, l9_10, l9_11, l9_12, l9_14, l9_15, l9_16, l9_17, l9_51, l9_52, l9_53, l9_55, l9_56, l9_58, l9_61, l9_73, l9_74, l9_75, l9_76, l9_77, l9_79, l9_80, l9_81, l9_82, l9_83, l9_84, l9_85, l10_59, l10_78, l9_D1, l9_D2, l9_D3, l9_D4, l9_T1, l9_T2, l9_T3, l9_T4]; omega) | decide)) only [e48_0, e48_1, e48_3, e48_5, e48_8, e48_9, e48_10, e48_11, e48_12, e48_13, e48_14, e48_17, e48_18, e48_19, e48_22, e48_25, e48_27, ↓reduceIte, Nat.reduceAdd, Nat.reduceMul, nI_add, pk_mul, n_lt_t, n_lt_f, n_le_t, n_le_f, n_eq_f, n_eq_t, n_z_f, n_z_t, n_lz, n_zl, not_true_eq_false, not_false_eq_true, lsS]
  | n + 1, k, hk => by
    have ih := s48_l hx n (k + 1) (by omega)
    rw [e48_2]
    by_cases h2 : bt x k = 1
    · simp (disch := (first | omega | assumption | rfl | (simp (disch := assumption) only [l9_2, l9_4, l9_5, l9_6, l9_7, l9_9, l9_10, l9_11, l9_12, l9_14, l9_15, l9_16, l9_17, l9_51, l9_52, l9_53, l9_55, l9_56, l9_58, l9_61, l9_73, l9_74, l9_75, l9_76, l9_77, l9_79, l9_80, l9_81, l9_82, l9_83, l9_84, l9_85, l10_59, l10_78, l9_D1, l9_D2, l9_D3, l9_D4, l9_T1, l9_T2, l9_T3, l9_T4]; omega) | decide)) only [e48_0, e48_1, e48_3, e48_5, e48_8, e48_9, e48_10, e48_11, e48_12, e48_13, e48_14, e48_17, e48_18, e48_19, e48_22, e48_25, e48_27, ↓reduceIte, Nat.reduceAdd, Nat.reduceMul, nI_add, pk_mul, n_lt_t, n_lt_f, n_le_t, n_le_f, n_eq_f, n_eq_t, n_z_f, n_z_t, n_lz, n_zl, not_true_eq_false, not_false_eq_true, n_bit, h2]
      simp only [lsS, h2, ↓reduceIte]
    · have h0 : bt x k = 0 := by have := bt_lt x k; omega
      simp (disch := (first | omega | assumption | rfl | (simp (disch := assumption) only [l9_2, l9_4, l9_5, l9_6, l9_7, l9_9, l9_10, l9_11, l9_12, l9_14, l9_15, l9_16, l9_17, l9_51, l9_52, l9_53, l9_55, l9_56, l9_58, l9_61, l9_73, l9_74, l9_75, l9_76, l9_77, l9_79, l9_80, l9_81, l9_82, l9_83, l9_84, l9_85, l10_59, l10_78, l9_D1, l9_D2, l9_D3, l9_D4, l9_T1, l9_T2, l9_T3, l9_T4]; omega) | decide)) only [e48_0, e48_1, e48_3, e48_5, e48_8, e48_9, e48_10, e48_11, e48_12, e48_13, e48_14, e48_17, e48_18, e48_19, e48_22, e48_25, e48_27, ↓reduceIte, Nat.reduceAdd, Nat.reduceMul, nI_add, pk_mul, n_lt_t, n_lt_f, n_le_t, n_le_f, n_eq_f, n_eq_t, n_z_f, n_z_t, n_lz, n_zl, not_true_eq_false, not_false_eq_true, n_bit, h0, ih]
      simp only [lsS, h0, Nat.zero_ne_one, ↓reduceIte]
theorem s48 {x : Nat} (hx : x < 65536) : q_ex X (48, 0, [.int (nI x), .null], [], w) = some (some (.int (lsS x 16 0)), w) := by
  simp only [e48_0, e48_1]
  exact s48_l hx 16 0 rfl
theorem n_16 : ¬ nI 16 = 0 := by decide
theorem n_div {a d : Nat} (ha : a < 2 ^ 31) (h0 : 0 < d) (hd : d < 2 ^ 31) : nI a / nI d = nI (a / d) := pk_div ha h0 hd
theorem n_remd {a d : Nat} (ha : a < 2 ^ 31) (h0 : 0 < d) (hd : d < 2 ^ 31) : nI a - nI a / nI d * nI d = nI (a % d) := pk_rem ha h0 hd
theorem n_md {k d : Nat} : k - k / d * d = k % d := by
  have := Nat.div_add_mod k d
  rw [Nat.mul_comm] at this
  omega
theorem s49_l {o e al : Nat} (ho : o < 16) (he : e < 65536) (hal : al = pcS e 16) {b7 b8 b9 b10 : Value} : ∃ d : Value × Value × Value × Value, q_ex X (49, 31, [.ref 57, .int (nI o), .int (nI e), .int (nI al), .int (-9), .int (nI (al + 1)), .int (nI 0), b7, b8, b9, b10], [], w) = q_ex X (49, 31, [.ref 57, .int (nI o), .int (nI e), .int (nI al), .int (bv (bsS e al o 64).1), .int (nI (bsS e al o 64).2), .int (nI 64), d.1, d.2.1, d.2.2.1, d.2.2.2], [], w) := by
  have hp := pcS_le e 16
  have hbs : ∀ k, (bsS e al o k).2 ≤ al + 1 := by
    intro k
    induction k with
    | zero => simp [bsS]
    | succ k ih =>
      simp only [bsS]
      split
      · rename_i h; omega
      · exact ih
  have h := q_iter (X := X) (δ := Value × Value × Value × Value) (fun k d => (49, 31, [.ref 57, .int (nI o), .int (nI e), .int (nI al), .int (bv (bsS e al o k).1), .int (nI (bsS e al o k).2), .int (nI k), d.1, d.2.1, d.2.2.1, d.2.2.2], [], w)) 64 (fun k hk d => ?_) (b7, b8, b9, b10)
  · exact h
  · have hb3 : bt o (k / 16) < 2 := bt_lt _ _
    have hbk := hbs k
    have hsb : k % 16 * 2 ^ (4 * (k / 16)) < 2 ^ 32 := by
      have h2 : 2 ^ (4 * (k / 16)) ≤ 2 ^ 12 := Nat.pow_le_pow_right (by decide) (by omega)
      have h3 : k % 16 * 2 ^ (4 * (k / 16)) ≤ 15 * 2 ^ 12 := Nat.mul_le_mul (by omega) h2
      omega
    have hand : (e &&& k % 16 * 2 ^ (4 * (k / 16))) ≤ e := Nat.and_le_left
    have hpa := pcS_and (e := e) (x := k % 16 * 2 ^ (4 * (k / 16))) 16
    have hnt : (k % 16 &&& (o ^^^ 4294967295)) ≤ k % 16 := Nat.and_le_left
    by_cases h1 : bt o (k / 16) = 1
    · by_cases h2 : (k % 16 &&& (o ^^^ 4294967295)) = 0
      · by_cases h3 : pcS (e &&& k % 16 * 2 ^ (4 * (k / 16))) 16 < al - pcS (e &&& k % 16 * 2 ^ (4 * (k / 16))) 16
        · have hg : bgr e al k = al - pcS (e &&& k % 16 * 2 ^ (4 * (k / 16))) 16 := by unfold bgr; rw [if_pos h3]
          refine ⟨(.int (nI (k / 16)), .int (nI (k % 16)), .int (nI (pcS (e &&& k % 16 * 2 ^ (4 * (k / 16))) 16)), .int (nI (al - pcS (e &&& k % 16 * 2 ^ (4 * (k / 16))) 16))), ?_⟩
          try dsimp only
          rw [e49_31]
          by_cases h4 : bgr e al k < (bsS e al o k).2
          · have h5 := h4
            rw [hg] at h5
            simp (disch := (first | omega | assumption | rfl | (simp (disch := assumption) only [l9_2, l9_4, l9_5, l9_6, l9_7, l9_9, l9_10, l9_11, l9_12, l9_14, l9_15, l9_16, l9_17, l9_51, l9_52, l9_53, l9_55, l9_56, l9_58, l9_61, l9_73, l9_74, l9_75, l9_76, l9_77, l9_79, l9_80, l9_81, l9_82, l9_83, l9_84, l9_85, l10_59, l10_78, l9_D1, l9_D2, l9_D3, l9_D4, l9_T1, l9_T2, l9_T3, l9_T4]; omega) | decide)) only [e49_0, e49_1, e49_2, e49_5, e49_6, e49_7, e49_10, e49_11, e49_12, e49_13, e49_16, e49_18, e49_19, e49_21, e49_23, e49_24, e49_25, e49_26, e49_28, e49_29, e49_33, e49_35, e49_38, e49_40, e49_42, e49_43, e49_45, e49_47, e49_49, e49_50, e49_52, e49_53, e49_55, e49_56, e49_57, e49_58, e49_59, e49_62, e49_64, e49_65, e49_66, e49_67, e49_68, e49_71, e49_72, e49_74, e49_75, e49_77, e49_78, e49_79, e49_80, e49_83, e49_85, e49_87, e49_88, e49_90, e49_91, e49_94, e49_96, e49_98, e49_100, e49_103, e49_105, e49_107, e49_109, e49_111, e49_114, e49_117, e49_119, ↓reduceIte, Nat.reduceAdd, Nat.reduceMul, nI_add, pk_mul, n_lt_t, n_lt_f, n_le_t, n_le_f, n_eq_f, n_eq_t, n_z_f, n_z_t, n_lz, n_zl, not_true_eq_false, not_false_eq_true, n_16, n_div, n_sub, n_md, n_bit, h1, n_not, n_and, h2, n_shl, s148, Option.bind_some, Option.toList_some, Option.toList_none, List.cons_append, List.nil_append, n_sub]
            simp only [bsS, h1, h2, hg, h5, true_and, and_self, ↓reduceIte, bv, hk]
          · have h5 := h4
            rw [hg] at h5
            simp (disch := (first | omega | assumption | rfl | (simp (disch := assumption) only [l9_2, l9_4, l9_5, l9_6, l9_7, l9_9, l9_10, l9_11, l9_12, l9_14, l9_15, l9_16, l9_17, l9_51, l9_52, l9_53, l9_55, l9_56, l9_58, l9_61, l9_73, l9_74, l9_75, l9_76, l9_77, l9_79, l9_80, l9_81, l9_82, l9_83, l9_84, l9_85, l10_59, l10_78, l9_D1, l9_D2, l9_D3, l9_D4, l9_T1, l9_T2, l9_T3, l9_T4]; omega) | decide)) only [e49_0, e49_1, e49_2, e49_5, e49_6, e49_7, e49_10, e49_11, e49_12, e49_13, e49_16, e49_18, e49_19, e49_21, e49_23, e49_24, e49_25, e49_26, e49_28, e49_29, e49_33, e49_35, e49_38, e49_40, e49_42, e49_43, e49_45, e49_47, e49_49, e49_50, e49_52, e49_53, e49_55, e49_56, e49_57, e49_58, e49_59, e49_62, e49_64, e49_65, e49_66, e49_67, e49_68, e49_71, e49_72, e49_74, e49_75, e49_77, e49_78, e49_79, e49_80, e49_83, e49_85, e49_87, e49_88, e49_90, e49_91, e49_94, e49_96, e49_98, e49_100, e49_103, e49_105, e49_107, e49_109, e49_111, e49_114, e49_117, e49_119, ↓reduceIte, Nat.reduceAdd, Nat.reduceMul, nI_add, pk_mul, n_lt_t, n_lt_f, n_le_t, n_le_f, n_eq_f, n_eq_t, n_z_f, n_z_t, n_lz, n_zl, not_true_eq_false, not_false_eq_true, n_16, n_div, n_sub, n_md, n_bit, h1, n_not, n_and, h2, n_shl, s148, Option.bind_some, Option.toList_some, Option.toList_none, List.cons_append, List.nil_append, n_sub]
            simp only [bsS, h1, h2, hg, h5, and_false, ↓reduceIte]
        · have hg : bgr e al k = pcS (e &&& k % 16 * 2 ^ (4 * (k / 16))) 16 := by unfold bgr; rw [if_neg h3]
          refine ⟨(.int (nI (k / 16)), .int (nI (k % 16)), .int (nI (pcS (e &&& k % 16 * 2 ^ (4 * (k / 16))) 16)), .int (nI (pcS (e &&& k % 16 * 2 ^ (4 * (k / 16))) 16))), ?_⟩
          try dsimp only
          rw [e49_31]
          by_cases h4 : bgr e al k < (bsS e al o k).2
          · have h5 := h4
            rw [hg] at h5
            simp (disch := (first | omega | assumption | rfl | (simp (disch := assumption) only [l9_2, l9_4, l9_5, l9_6, l9_7, l9_9, l9_10, l9_11, l9_12, l9_14, l9_15, l9_16, l9_17, l9_51, l9_52, l9_53, l9_55, l9_56, l9_58, l9_61, l9_73, l9_74, l9_75, l9_76, l9_77, l9_79, l9_80, l9_81, l9_82, l9_83, l9_84, l9_85, l10_59, l10_78, l9_D1, l9_D2, l9_D3, l9_D4, l9_T1, l9_T2, l9_T3, l9_T4]; omega) | decide)) only [e49_0, e49_1, e49_2, e49_5, e49_6, e49_7, e49_10, e49_11, e49_12, e49_13, e49_16, e49_18, e49_19, e49_21, e49_23, e49_24, e49_25, e49_26, e49_28, e49_29, e49_33, e49_35, e49_38, e49_40, e49_42, e49_43, e49_45, e49_47, e49_49, e49_50, e49_52, e49_53, e49_55, e49_56, e49_57, e49_58, e49_59, e49_62, e49_64, e49_65, e49_66, e49_67, e49_68, e49_71, e49_72, e49_74, e49_75, e49_77, e49_78, e49_79, e49_80, e49_83, e49_85, e49_87, e49_88, e49_90, e49_91, e49_94, e49_96, e49_98, e49_100, e49_103, e49_105, e49_107, e49_109, e49_111, e49_114, e49_117, e49_119, ↓reduceIte, Nat.reduceAdd, Nat.reduceMul, nI_add, pk_mul, n_lt_t, n_lt_f, n_le_t, n_le_f, n_eq_f, n_eq_t, n_z_f, n_z_t, n_lz, n_zl, not_true_eq_false, not_false_eq_true, n_16, n_div, n_sub, n_md, n_bit, h1, n_not, n_and, h2, n_shl, s148, Option.bind_some, Option.toList_some, Option.toList_none, List.cons_append, List.nil_append, n_sub]
            simp only [bsS, h1, h2, hg, h5, true_and, and_self, ↓reduceIte, bv, hk]
          · have h5 := h4
            rw [hg] at h5
            simp (disch := (first | omega | assumption | rfl | (simp (disch := assumption) only [l9_2, l9_4, l9_5, l9_6, l9_7, l9_9, l9_10, l9_11, l9_12, l9_14, l9_15, l9_16, l9_17, l9_51, l9_52, l9_53, l9_55, l9_56, l9_58, l9_61, l9_73, l9_74, l9_75, l9_76, l9_77, l9_79, l9_80, l9_81, l9_82, l9_83, l9_84, l9_85, l10_59, l10_78, l9_D1, l9_D2, l9_D3, l9_D4, l9_T1, l9_T2, l9_T3, l9_T4]; omega) | decide)) only [e49_0, e49_1, e49_2, e49_5, e49_6, e49_7, e49_10, e49_11, e49_12, e49_13, e49_16, e49_18, e49_19, e49_21, e49_23, e49_24, e49_25, e49_26, e49_28, e49_29, e49_33, e49_35, e49_38, e49_40, e49_42, e49_43, e49_45, e49_47, e49_49, e49_50, e49_52, e49_53, e49_55, e49_56, e49_57, e49_58, e49_59, e49_62, e49_64, e49_65, e49_66, e49_67, e49_68, e49_71, e49_72, e49_74, e49_75, e49_77, e49_78, e49_79, e49_80, e49_83, e49_85, e49_87, e49_88, e49_90, e49_91, e49_94, e49_96, e49_98, e49_100, e49_103, e49_105, e49_107, e49_109, e49_111, e49_114, e49_117, e49_119, ↓reduceIte, Nat.reduceAdd, Nat.reduceMul, nI_add, pk_mul, n_lt_t, n_lt_f, n_le_t, n_le_f, n_eq_f, n_eq_t, n_z_f, n_z_t, n_lz, n_zl, not_true_eq_false, not_false_eq_true, n_16, n_div, n_sub, n_md, n_bit, h1, n_not, n_and, h2, n_shl, s148, Option.bind_some, Option.toList_some, Option.toList_none, List.cons_append, List.nil_append, n_sub]
            simp only [bsS, h1, h2, hg, h5, and_false, ↓reduceIte]
      · refine ⟨(.int (nI (k / 16)), .int (nI (k % 16)), d.2.2.1, d.2.2.2), ?_⟩
        try dsimp only
        rw [e49_31]
        simp (disch := (first | omega | assumption | rfl | (simp (disch := assumption) only [l9_2, l9_4, l9_5, l9_6, l9_7, l9_9, l9_10, l9_11, l9_12, l9_14, l9_15, l9_16, l9_17, l9_51, l9_52, l9_53, l9_55, l9_56, l9_58, l9_61, l9_73, l9_74, l9_75, l9_76, l9_77, l9_79, l9_80, l9_81, l9_82, l9_83, l9_84, l9_85, l10_59, l10_78, l9_D1, l9_D2, l9_D3, l9_D4, l9_T1, l9_T2, l9_T3, l9_T4]; omega) | decide)) only [e49_0, e49_1, e49_2, e49_5, e49_6, e49_7, e49_10, e49_11, e49_12, e49_13, e49_16, e49_18, e49_19, e49_21, e49_23, e49_24, e49_25, e49_26, e49_28, e49_29, e49_33, e49_35, e49_38, e49_40, e49_42, e49_43, e49_45, e49_47, e49_49, e49_50, e49_52, e49_53, e49_55, e49_56, e49_57, e49_58, e49_59, e49_62, e49_64, e49_65, e49_66, e49_67, e49_68, e49_71, e49_72, e49_74, e49_75, e49_77, e49_78, e49_79, e49_80, e49_83, e49_85, e49_87, e49_88, e49_90, e49_91, e49_94, e49_96, e49_98, e49_100, e49_103, e49_105, e49_107, e49_109, e49_111, e49_114, e49_117, e49_119, ↓reduceIte, Nat.reduceAdd, Nat.reduceMul, nI_add, pk_mul, n_lt_t, n_lt_f, n_le_t, n_le_f, n_eq_f, n_eq_t, n_z_f, n_z_t, n_lz, n_zl, not_true_eq_false, not_false_eq_true, n_16, n_div, n_sub, n_md, n_bit, h1, n_not, n_and]
        simp only [bsS, h2, false_and, and_false, ↓reduceIte]
    · have h0 : bt o (k / 16) = 0 := by omega
      refine ⟨(.int (nI (k / 16)), .int (nI (k % 16)), d.2.2.1, d.2.2.2), ?_⟩
      try dsimp only
      rw [e49_31]
      simp (disch := (first | omega | assumption | rfl | (simp (disch := assumption) only [l9_2, l9_4, l9_5, l9_6, l9_7, l9_9, l9_10, l9_11, l9_12, l9_14, l9_15, l9_16, l9_17, l9_51, l9_52, l9_53, l9_55, l9_56, l9_58, l9_61, l9_73, l9_74, l9_75, l9_76, l9_77, l9_79, l9_80, l9_81, l9_82, l9_83, l9_84, l9_85, l10_59, l10_78, l9_D1, l9_D2, l9_D3, l9_D4, l9_T1, l9_T2, l9_T3, l9_T4]; omega) | decide)) only [e49_0, e49_1, e49_2, e49_5, e49_6, e49_7, e49_10, e49_11, e49_12, e49_13, e49_16, e49_18, e49_19, e49_21, e49_23, e49_24, e49_25, e49_26, e49_28, e49_29, e49_33, e49_35, e49_38, e49_40, e49_42, e49_43, e49_45, e49_47, e49_49, e49_50, e49_52, e49_53, e49_55, e49_56, e49_57, e49_58, e49_59, e49_62, e49_64, e49_65, e49_66, e49_67, e49_68, e49_71, e49_72, e49_74, e49_75, e49_77, e49_78, e49_79, e49_80, e49_83, e49_85, e49_87, e49_88, e49_90, e49_91, e49_94, e49_96, e49_98, e49_100, e49_103, e49_105, e49_107, e49_109, e49_111, e49_114, e49_117, e49_119, ↓reduceIte, Nat.reduceAdd, Nat.reduceMul, nI_add, pk_mul, n_lt_t, n_lt_f, n_le_t, n_le_f, n_eq_f, n_eq_t, n_z_f, n_z_t, n_lz, n_zl, not_true_eq_false, not_false_eq_true, n_16, n_div, n_sub, n_md, n_bit, h0]
      simp only [bsS, h0, Nat.zero_ne_one, false_and, ↓reduceIte]
theorem s49 {o m : Nat} {H V : Nat → Nat} {e : Nat} (ho : o < 16) (hm : m ≤ 8) (h1 : F 57 2 = nI m) (hH : ∀ i, i < m → F 58 i = nI (H i)) (hV : ∀ i, i < m → F 59 i = nI (V i) ∧ V i < 2) (he : e = suT H V (suI o 4) m) : q_ex X (49, 0, [.ref 57, .int (nI o), .null, .null, .null, .null, .null, .null, .null, .null, .null], [], q_w t u F J) = some (some (.int (if pcS e 16 < 2 then -9 else bv (bsS e (pcS e 16) o 64).1)), q_w t u F J) := by
  have hs := s47 (X := X) (t := t) (u := u) (J := J) ho hm h1 hH hV
  have he2 : e < 65536 := by
    have := suT_le H V (suI o 4) m
    have := suI_lt ho (Nat.le_refl 4)
    omega
  have hp := pcS_le e 16
  rw [← he] at hs
  by_cases hc : pcS e 16 < 2
  · simp (disch := (first | omega | assumption | rfl | (simp (disch := assumption) only [l9_2, l9_4, l9_5, l9_6, l9_7, l9_9, l9_10, l9_11, l9_12, l9_14, l9_15, l9_16, l9_17, l9_51, l9_52, l9_53, l9_55, l9_56, l9_58, l9_61, l9_73, l9_74, l9_75, l9_76, l9_77, l9_79, l9_80, l9_81, l9_82, l9_83, l9_84, l9_85, l10_59, l10_78, l9_D1, l9_D2, l9_D3, l9_D4, l9_T1, l9_T2, l9_T3, l9_T4]; omega) | decide)) only [e49_0, e49_1, e49_2, e49_5, e49_6, e49_7, e49_10, e49_11, e49_12, e49_13, e49_16, e49_18, e49_19, e49_21, e49_23, e49_24, e49_25, e49_26, e49_28, e49_29, e49_33, e49_35, e49_38, e49_40, e49_42, e49_43, e49_45, e49_47, e49_49, e49_50, e49_52, e49_53, e49_55, e49_56, e49_57, e49_58, e49_59, e49_62, e49_64, e49_65, e49_66, e49_67, e49_68, e49_71, e49_72, e49_74, e49_75, e49_77, e49_78, e49_79, e49_80, e49_83, e49_85, e49_87, e49_88, e49_90, e49_91, e49_94, e49_96, e49_98, e49_100, e49_103, e49_105, e49_107, e49_109, e49_111, e49_114, e49_117, e49_119, ↓reduceIte, Nat.reduceAdd, Nat.reduceMul, nI_add, pk_mul, n_lt_t, n_lt_f, n_le_t, n_le_f, n_eq_f, n_eq_t, n_z_f, n_z_t, n_lz, n_zl, not_true_eq_false, not_false_eq_true, hs, s148, Option.bind_some, Option.toList_some, Option.toList_none, List.cons_append, List.nil_append, hc]
  · obtain ⟨d, h⟩ := s49_l (X := X) (w := q_w t u F J) (o := o) (e := e) ho he2 rfl (b7 := .null) (b8 := .null) (b9 := .null) (b10 := .null)
    simp (disch := (first | omega | assumption | rfl | (simp (disch := assumption) only [l9_2, l9_4, l9_5, l9_6, l9_7, l9_9, l9_10, l9_11, l9_12, l9_14, l9_15, l9_16, l9_17, l9_51, l9_52, l9_53, l9_55, l9_56, l9_58, l9_61, l9_73, l9_74, l9_75, l9_76, l9_77, l9_79, l9_80, l9_81, l9_82, l9_83, l9_84, l9_85, l10_59, l10_78, l9_D1, l9_D2, l9_D3, l9_D4, l9_T1, l9_T2, l9_T3, l9_T4]; omega) | decide)) only [e49_0, e49_1, e49_2, e49_5, e49_6, e49_7, e49_10, e49_11, e49_12, e49_13, e49_16, e49_18, e49_19, e49_21, e49_23, e49_24, e49_25, e49_26, e49_28, e49_29, e49_33, e49_35, e49_38, e49_40, e49_42, e49_43, e49_45, e49_47, e49_49, e49_50, e49_52, e49_53, e49_55, e49_56, e49_57, e49_58, e49_59, e49_62, e49_64, e49_65, e49_66, e49_67, e49_68, e49_71, e49_72, e49_74, e49_75, e49_77, e49_78, e49_79, e49_80, e49_83, e49_85, e49_87, e49_88, e49_90, e49_91, e49_94, e49_96, e49_98, e49_100, e49_103, e49_105, e49_107, e49_109, e49_111, e49_114, e49_117, e49_119, ↓reduceIte, Nat.reduceAdd, Nat.reduceMul, nI_add, pk_mul, n_lt_t, n_lt_f, n_le_t, n_le_f, n_eq_f, n_eq_t, n_z_f, n_z_t, n_lz, n_zl, not_true_eq_false, not_false_eq_true, hs, s148, Option.bind_some, Option.toList_some, Option.toList_none, List.cons_append, List.nil_append, hc]
    rw [h, e49_31]
    simp (disch := (first | omega | assumption | rfl | (simp (disch := assumption) only [l9_2, l9_4, l9_5, l9_6, l9_7, l9_9, l9_10, l9_11, l9_12, l9_14, l9_15, l9_16, l9_17, l9_51, l9_52, l9_53, l9_55, l9_56, l9_58, l9_61, l9_73, l9_74, l9_75, l9_76, l9_77, l9_79, l9_80, l9_81, l9_82, l9_83, l9_84, l9_85, l10_59, l10_78, l9_D1, l9_D2, l9_D3, l9_D4, l9_T1, l9_T2, l9_T3, l9_T4]; omega) | decide)) only [e49_0, e49_1, e49_2, e49_5, e49_6, e49_7, e49_10, e49_11, e49_12, e49_13, e49_16, e49_18, e49_19, e49_21, e49_23, e49_24, e49_25, e49_26, e49_28, e49_29, e49_33, e49_35, e49_38, e49_40, e49_42, e49_43, e49_45, e49_47, e49_49, e49_50, e49_52, e49_53, e49_55, e49_56, e49_57, e49_58, e49_59, e49_62, e49_64, e49_65, e49_66, e49_67, e49_68, e49_71, e49_72, e49_74, e49_75, e49_77, e49_78, e49_79, e49_80, e49_83, e49_85, e49_87, e49_88, e49_90, e49_91, e49_94, e49_96, e49_98, e49_100, e49_103, e49_105, e49_107, e49_109, e49_111, e49_114, e49_117, e49_119, ↓reduceIte, Nat.reduceAdd, Nat.reduceMul, nI_add, pk_mul, n_lt_t, n_lt_f, n_le_t, n_le_f, n_eq_f, n_eq_t, n_z_f, n_z_t, n_lz, n_zl, not_true_eq_false, not_false_eq_true]
end S45
