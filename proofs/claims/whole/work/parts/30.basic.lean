/-! ===== basic rows over the pure world ===== -/
def bI (b : Bool) : Int32 := if b then nI 1 else nI 0
theorem q_up_n {F : Nat → Nat → Int32} {a b i : Nat} {x : Int32} (h : b ≠ a) : q_up F a i x b = F b := va_up_ne _ _ h
theorem q_up_s {F : Nat → Nat → Int32} {a i : Nat} {x : Int32} : q_up F a i x a = upd (F a) i x := va_up_self _ _ _
theorem q_app {F : Nat → Nat → Int32} {a b i j : Nat} {x : Int32} : q_up F a i x b j = if b = a ∧ j = i then x else F b j := by
  unfold q_up va_up upd
  by_cases h : b = a
  · subst h
    by_cases h2 : j = i <;> simp [h2]
  · simp [h]
theorem bI_0 (b : Bool) : (bI b = 0) = (b = false) := by cases b <;> simp [bI, nI]
theorem bI_z (b : Bool) : bI b = nI 0 ∨ bI b = nI 1 := by cases b <;> simp [bI]
theorem bI_t : bI true = nI 1 := rfl
theorem bI_f : bI false = nI 0 := rfl
theorem n_lt_t {a b : Nat} (h : a < b) (hb : b < 2 ^ 31) : (nI a < nI b) = True := eq_true (nI_lt h hb)
theorem n_lt_f {a b : Nat} (h : b ≤ a) (hb : a < 2 ^ 31) : (nI a < nI b) = False := eq_false (nI_nlt h hb)
theorem n_le_t {a b : Nat} (h : a ≤ b) (hb : b < 2 ^ 31) : (nI a ≤ nI b) = True := eq_true (nI_le h hb)
theorem n_le_f {a b : Nat} (h : b < a) (hb : a < 2 ^ 31) : (nI a ≤ nI b) = False := eq_false (nI_ge h hb)
theorem n_eq_f {a b : Nat} (h : a ≠ b) (ha : a < 2 ^ 31) (hb : b < 2 ^ 31) : (nI a = nI b) = False := eq_false (fun z => h ((nI_eq ha hb).mp z))
theorem n_eq_t {a b : Nat} (h : a = b) : (nI a = nI b) = True := eq_true (by rw [h])
theorem n_z_f {a : Nat} (h : 0 < a) (ha : a < 2 ^ 31) : (nI a = 0) = False := eq_false (nI_ne0 h ha)
theorem n_z_t {a : Nat} (h : a = 0) : (nI a = 0) = True := eq_true (by rw [h]; rfl)
theorem n_lz {n : Nat} (h : n < 2 ^ 31) : (nI n < 0) = False := eq_false (nI_pos h)
theorem n_zl {n : Nat} (h : n < 2 ^ 31) : (0 ≤ nI n) = True := eq_true (nI_pos' h)
/-- the first n places of f, the rest of g -/
def cp (n : Nat) (f g : Nat → Int32) : Nat → Int32 := fun i => if i < n then f i else g i
theorem cp_0 {f g : Nat → Int32} : cp 0 f g = g := by funext i; simp [cp]
theorem cp_s {k : Nat} {f g : Nat → Int32} : upd (cp k f g) k (f k) = cp (k + 1) f g := by
  funext i
  simp only [upd, cp]
  grind
theorem q_iter0 {X : Nat × (Nat → Int32)} (st : Nat → q_S) (N : Nat) (h : ∀ k, k < N → q_ex X (st k) = q_ex X (st (k + 1))) : q_ex X (st 0) = q_ex X (st N) := by
  induction N with
  | zero => rfl
  | succ N ih => exact (ih (fun k hk => h k (by omega))).trans (h N (by omega))
theorem isD_apart {d e : Nat} (hd : q_isD d = true) (he : q_isD e = true) (h : d ≠ e) : d + 5 ≤ e ∨ e + 5 ≤ d := by
  rcases isD_cases hd with rfl | rfl | rfl | rfl | rfl | rfl | rfl | rfl | rfl <;> rcases isD_cases he with rfl | rfl | rfl | rfl | rfl | rfl | rfl | rfl | rfl <;> omega
theorem va_up_n {α : Type} {f : Nat → α} {k j : Nat} {v : α} (h : j ≠ k) : va_up f k v j = f j := va_up_ne _ _ h
theorem va_up_s {α : Type} {f : Nat → α} {k : Nat} {v : α} : va_up f k v k = v := va_up_self _ _ _
theorem va_app {F : Nat → Nat → Int32} {a b i : Nat} {f : Nat → Int32} : va_up F a f b i = if b = a then f i else F b i := by
  unfold va_up
  by_cases h : b = a <;> simp [h]
section S30
variable {X : Nat × (Nat → Int32)} {t u : Nat} {F : Nat → Nat → Int32} {J : Nat → Int64} {w : q_M}
theorem s85 {v l h : Int32} : q_ex X (85, 0, [.int v, .int l, .int h], [], w) = some (some (.int (bI (decide (l ≤ v ∧ v ≤ h)))), w) := by
  by_cases h1 : v < l
  · have h3 : ¬ l ≤ v := Int32.not_le.mpr h1
    simp [e85_0, e85_1, e85_2, e85_5, e85_6, e85_7, e85_10, e85_11, e85_14, e85_15, h1, h3, bI]
  · have h3 : l ≤ v := Int32.not_lt.mp h1
    by_cases h2 : h < v
    · have h4 : ¬ v ≤ h := Int32.not_le.mpr h2
      simp [e85_0, e85_1, e85_2, e85_5, e85_6, e85_7, e85_10, e85_11, e85_14, e85_15, h1, h2, h4, bI]
    · have h4 : v ≤ h := Int32.not_lt.mp h2
      simp [e85_0, e85_1, e85_2, e85_5, e85_6, e85_7, e85_10, e85_11, e85_14, e85_15, h1, h2, h3, h4, bI]
theorem s30_t {n : Nat} {x : Int32} (hn : n < 160) (h1 : F 1 1 = nI n) : q_ex X (30, 0, [.ref 1, .int x], [], q_w t u F J) = some (some (.int (nI 1)), q_w t u (q_up (q_up F 2 n x) 1 1 (nI (n + 1))) J) := by
  simp (disch := (first | omega | assumption | rfl | (simp (disch := assumption) only [l9_2, l9_4, l9_5, l9_6, l9_7, l9_9, l9_10, l9_11, l9_12, l9_14, l9_15, l9_16, l9_17, l9_51, l9_52, l9_53, l9_55, l9_56, l9_58, l9_61, l9_73, l9_74, l9_75, l9_76, l9_77, l9_79, l9_80, l9_81, l9_82, l9_83, l9_84, l9_85, l10_59, l10_78, l9_D1, l9_D2, l9_D3, l9_D4, l9_T1, l9_T2, l9_T3, l9_T4]; omega) | decide)) only [e30_0, e30_1, e30_4, e30_7, e30_10, e30_11, e30_12, e30_13, e30_16, e30_17, e30_20, e30_21, e30_22, e30_23, e30_24, e30_27, e30_28, e30_29, e30_32, e30_33, q_up_n, q_up_s, upd, ne_eq, not_false_eq_true, ↓reduceIte, nI_add, pk_mul, n_lt_t, n_lt_f, n_le_t, n_le_f, n_eq_f, n_eq_t, n_z_f, n_z_t, n_lz, n_zl, not_true_eq_false, not_false_eq_true, h1]
theorem s30_f {x : Int32} (h1 : F 1 1 = nI 160) : q_ex X (30, 0, [.ref 1, .int x], [], q_w t u F J) = some (some (.int (nI 0)), q_w t u F J) := by
  simp (disch := (first | omega | assumption | rfl | (simp (disch := assumption) only [l9_2, l9_4, l9_5, l9_6, l9_7, l9_9, l9_10, l9_11, l9_12, l9_14, l9_15, l9_16, l9_17, l9_51, l9_52, l9_53, l9_55, l9_56, l9_58, l9_61, l9_73, l9_74, l9_75, l9_76, l9_77, l9_79, l9_80, l9_81, l9_82, l9_83, l9_84, l9_85, l10_59, l10_78, l9_D1, l9_D2, l9_D3, l9_D4, l9_T1, l9_T2, l9_T3, l9_T4]; omega) | decide)) only [e30_0, e30_1, e30_4, e30_7, e30_10, e30_11, e30_12, e30_13, e30_16, e30_17, e30_20, e30_21, e30_22, e30_23, e30_24, e30_27, e30_28, e30_29, e30_32, e30_33, q_up_n, q_up_s, upd, ne_eq, not_false_eq_true, ↓reduceIte, nI_add, pk_mul, n_lt_t, n_lt_f, n_le_t, n_le_f, n_eq_f, n_eq_t, n_z_f, n_z_t, n_lz, n_zl, not_true_eq_false, not_false_eq_true, h1]
end S30
