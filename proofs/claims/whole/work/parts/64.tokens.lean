/-! ===== the model reads THE TEXT ===== -/
def m5 (F : Nat → Nat → Int32) (a q k v f : Int32) : Nat → Nat → Int32 := fun b i => if b = 72 then (if i = 16 then a else if i = 17 then q else if i = 18 then k else if i = 19 then v else if i = 20 then f else F 72 i) else F b i
def vl (x : Nat → Nat) (q : Nat) : Nat → Nat
  | 0 => 0
  | k + 1 => if 99 < vl x q k then vl x q k else 10 * vl x q k + x (q + k) - 48
abbrev dgt (k : Nat) : Prop := 48 ≤ k ∧ k ≤ 57
def tkn (x : Nat → Nat) (l q : Nat) : Nat := if q < l then (if dgt (x q) then (if 99 < vl x q (dd x l q) ∨ (x q = 48 ∧ 1 < dd x l q) then 2 else 1) else if isK (x q) ∨ x q = 59 then x q else 2) else 0
def tkv (x : Nat → Nat) (l q : Nat) : Nat := if q < l ∧ dgt (x q) then vl x q (dd x l q) else 0
def tka (x : Nat → Nat) (l q : Nat) : Nat := if q < l then (if dgt (x q) then q + dd x l q else q + 1) else q
def ms (F : Nat → Nat → Int32) (x : Nat → Nat) (l q f : Nat) : Nat → Nat → Int32 := m5 F (nI (tka x l q)) (nI q) (nI (tkn x l q)) (nI (tkv x l q)) (fM f)
def mt (F : Nat → Nat → Int32) (x : Nat → Nat) (l : Nat) : Prop := l ≤ 160 ∧ F 72 15 = nI l ∧ (∀ i, i < l → F 85 i = nI (x i)) ∧ ∀ i, x i < 256
theorem vl_le {x : Nat → Nat} {q : Nat} (hx : ∀ i, x i < 256) : ∀ k, vl x q k ≤ 1300
  | 0 => by simp [vl]
  | k + 1 => by
    have := hx (q + k)
    have ih := vl_le (q := q) hx k
    simp only [vl]
    split <;> omega
theorem tkv_le {x : Nat → Nat} {l q : Nat} (hx : ∀ i, x i < 256) : tkv x l q ≤ 1300 := by
  unfold tkv
  split
  · exact vl_le hx _
  · omega
theorem tkn_le {x : Nat → Nat} {l q : Nat} (hx : ∀ i, x i < 256) : tkn x l q < 256 := by
  have := hx q
  unfold tkn
  split
  · split
    · split <;> omega
    · split <;> omega
  · omega
theorem tka_le {x : Nat → Nat} {l q : Nat} (hq : q ≤ l) : tka x l q ≤ l := by
  have := dd_le (x := x) hq
  unfold tka
  split
  · split <;> omega
  · omega
theorem vl_st {x : Nat → Nat} {q k : Nat} (h : 99 < vl x q k) : ∀ n, vl x q (k + n) = vl x q k
  | 0 => rfl
  | n + 1 => by
    have ih := vl_st h n
    show vl x q (k + n + 1) = vl x q k
    rw [vl, if_pos (by rw [ih]; exact h), ih]
theorem vl1 {x : Nat → Nat} {q : Nat} : vl x q 1 = x q - 48 := by simp [vl]
theorem vl2 {x : Nat → Nat} {q : Nat} (h : x q - 48 ≤ 99) : vl x q 2 = 10 * (x q - 48) + x (q + 1) - 48 := by
  rw [vl, if_neg (by rw [vl1]; omega), vl1]
/-- a token that is a number is just what the class reads -/
theorem tok {x : Nat → Nat} {l q : Nat} (hq : q ≤ l) : (tkn x l q = 1 ↔ fgo x l q) ∧ (fgo x l q → tkv x l q = fgv x l q ∧ tka x l q = q + dd x l q) := by
  by_cases h1 : q < l
  · by_cases h2 : dgt (x q)
    · have hd := dd_pos (x := x) (l := l) ⟨h1, h2⟩
      have ev : tkv x l q = vl x q (dd x l q) := by unfold tkv; rw [if_pos ⟨h1, h2⟩]
      have ea : tka x l q = q + dd x l q := by unfold tka; rw [if_pos h1, if_pos h2]
      have ek : tkn x l q = if 99 < vl x q (dd x l q) ∨ (x q = 48 ∧ 1 < dd x l q) then 2 else 1 := by unfold tkn; rw [if_pos h1, if_pos h2]
      rw [ev, ea, ek]
      by_cases d1 : dd x l q = 1
      · simp only [fgo, fgv, d1, vl1, cv1]
        rw [if_neg (by omega)]
        simp
      · by_cases d2 : dd x l q = 2
        · have hb := ddS_dig (x := x) (l := l) l q 1 (by have : ddS x l l q = 2 := d2; omega)
          have e2 : vl x q 2 = cv x q 2 := by rw [vl2 (by omega), cv2]
          have c2 := cv2 (x := x) (p := q)
          simp only [fgo, fgv, d2, e2]
          by_cases ha : x q = 48
          · rw [if_pos (Or.inr ⟨ha, by omega⟩)]
            refine ⟨⟨fun h => by omega, fun h => ?_⟩, fun _ => ⟨trivial, trivial⟩⟩
            rcases h with h | h
            · omega
            · omega
          · rw [if_neg (by omega)]
            exact ⟨⟨fun _ => Or.inr ⟨trivial, by omega⟩, fun _ => rfl⟩, fun _ => ⟨trivial, trivial⟩⟩
        · have hno : ¬ fgo x l q := by
            rintro (h | h)
            · exact d1 h
            · exact d2 h.1
          refine ⟨⟨fun h => ?_, fun h => absurd h hno⟩, fun h => absurd h hno⟩
          exfalso
          by_cases ha : x q = 48
          · rw [if_pos (Or.inr ⟨ha, by omega⟩)] at h
            omega
          · have e2 := vl2 (x := x) (q := q) (by omega)
            have hb1 := ddS_dig (x := x) (l := l) l q 1 (by have : ddS x l l q = dd x l q := rfl; omega)
            have hb2 := ddS_dig (x := x) (l := l) l q 2 (by have : ddS x l l q = dd x l q := rfl; omega)
            have e3 : 99 < vl x q 3 := by
              rw [vl]
              split
              · assumption
              · omega
            have e4 := vl_st e3 (dd x l q - 3)
            rw [show 3 + (dd x l q - 3) = dd x l q by omega] at e4
            rw [if_pos (Or.inl (by rw [e4]; exact e3))] at h
            omega
    · have hd := dd_0 (x := x) (l := l) (p := q) (fun z => h2 z.2)
      have hno : ¬ fgo x l q := by
        rintro (h | h)
        · omega
        · omega
      refine ⟨⟨fun h => ?_, fun h => absurd h hno⟩, fun h => absurd h hno⟩
      exfalso
      unfold tkn at h
      rw [if_pos h1, if_neg h2] at h
      split at h
      · rename_i hk
        rcases hk with hk | hk
        · unfold isK at hk; omega
        · omega
      · omega
  · have hd := dd_0 (x := x) (l := l) (p := q) (fun z => h1 z.1)
    have hno : ¬ fgo x l q := by
      rintro (h | h)
      · omega
      · omega
    refine ⟨⟨fun h => ?_, fun h => absurd h hno⟩, fun h => absurd h hno⟩
    exfalso
    unfold tkn at h
    rw [if_neg h1] at h
    omega
theorem tok59 {x : Nat → Nat} {l q : Nat} : (tkn x l q = 59 ↔ (q < l ∧ x q = 59)) ∧ (tkn x l q = 59 → tka x l q = q + 1) := by
  unfold tkn tka
  by_cases h1 : q < l
  · rw [if_pos h1]
    by_cases h2 : dgt (x q)
    · rw [if_pos h2]
      have : ¬ x q = 59 := by omega
      refine ⟨⟨fun h => ?_, fun h => absurd h.2 this⟩, fun h => ?_⟩ <;> (split at h <;> omega)
    · rw [if_neg h2, if_pos h1, if_neg h2]
      refine ⟨⟨fun h => ⟨h1, ?_⟩, fun h => ?_⟩, fun _ => rfl⟩
      · split at h
        · exact h
        · omega
      · rw [if_pos (Or.inr h.2), h.2]
  · rw [if_neg h1]
    exact ⟨⟨fun h => by omega, fun h => absurd h.1 h1⟩, fun h => by omega⟩
theorem tokK {x : Nat → Nat} {l q : Nat} (h1 : q < l) : (isK (tkn x l q) ↔ isK (x q)) ∧ (isK (x q) → tkn x l q = x q ∧ tka x l q = q + 1) := by
  unfold tkn tka
  rw [if_pos h1, if_pos h1]
  by_cases h2 : dgt (x q)
  · have hn : ¬ isK (x q) := by unfold isK; omega
    rw [if_pos h2]
    refine ⟨⟨fun h => ?_, fun h => absurd h hn⟩, fun h => absurd h hn⟩
    split at h <;> (unfold isK at h; omega)
  · rw [if_neg h2, if_neg h2]
    by_cases h3 : isK (x q)
    · rw [if_pos (Or.inl h3)]
      exact ⟨Iff.rfl, fun _ => ⟨rfl, rfl⟩⟩
    · refine ⟨⟨fun h => ?_, fun h => absurd h h3⟩, fun h => absurd h h3⟩
      split at h
      · exact h
      · unfold isK at h; omega
theorem tok0 {x : Nat → Nat} {l q : Nat} (hq : q ≤ l) : tkn x l q = 0 ↔ ¬ q < l := by
  unfold tkn
  by_cases h1 : q < l
  · rw [if_pos h1]
    refine ⟨fun h => ?_, fun h => absurd h1 h⟩
    exfalso
    split at h
    · split at h <;> omega
    · split at h
      · rename_i hk
        rcases hk with hk | hk
        · unfold isK at hk; omega
        · omega
      · omega
  · rw [if_neg h1]
    exact ⟨fun _ => h1, fun _ => rfl⟩
section S64
variable {X : Nat × (Nat → Int32)} {t u : Nat} {F : Nat → Nat → Int32} {J : Nat → Int64} {w : q_M} {x : Nat → Nat} {l : Nat} {a q k v f y : Int32}
theorem m5_n {b : Nat} (h : b ≠ 72) : m5 F a q k v f b = F b := by
  funext i
  simp only [m5, if_neg h]
theorem m5_15 : m5 F a q k v f 72 15 = F 72 15 := by simp [m5]
theorem m5_16 : m5 F a q k v f 72 16 = a := by simp [m5]
theorem m5_17 : m5 F a q k v f 72 17 = q := by simp [m5]
theorem m5_18 : m5 F a q k v f 72 18 = k := by simp [m5]
theorem m5_19 : m5 F a q k v f 72 19 = v := by simp [m5]
theorem m5_20 : m5 F a q k v f 72 20 = f := by simp [m5]
theorem m5_u16 : q_up (m5 F a q k v f) 72 16 y = m5 F y q k v f := by
  funext b i; simp only [q_app, m5]; grind
theorem m5_u17 : q_up (m5 F a q k v f) 72 17 y = m5 F a y k v f := by
  funext b i; simp only [q_app, m5]; grind
theorem m5_u18 : q_up (m5 F a q k v f) 72 18 y = m5 F a q y v f := by
  funext b i; simp only [q_app, m5]; grind
theorem m5_u19 : q_up (m5 F a q k v f) 72 19 y = m5 F a q k y f := by
  funext b i; simp only [q_app, m5]; grind
theorem m5_u20 : q_up (m5 F a q k v f) 72 20 y = m5 F a q k v y := by
  funext b i; simp only [q_app, m5]; grind
theorem m5_up {c i : Nat} (h : c ≠ 72) : q_up (m5 F a q k v f) c i y = m5 (q_up F c i y) a q k v f := by
  funext b j; simp only [q_app, m5]; grind
theorem s141 {k : Nat} (hk : k < 256) : q_ex X (141, 0, [.int (nI k)], [], w) = some (some (.int (nI (if isK k then 1 else 0))), w) := by
  by_cases h1 : k = 101
  · subst h1; simp (disch := (first | omega | assumption | rfl | (simp (disch := assumption) only [l9_2, l9_4, l9_5, l9_6, l9_7, l9_9, l9_10, l9_11, l9_12, l9_14, l9_15, l9_16, l9_17, l9_51, l9_52, l9_53, l9_55, l9_56, l9_58, l9_61, l9_73, l9_74, l9_75, l9_76, l9_77, l9_79, l9_80, l9_81, l9_82, l9_83, l9_84, l9_85, l10_59, l10_78, l9_D1, l9_D2, l9_D3, l9_D4, l9_T1, l9_T2, l9_T3, l9_T4]; omega) | decide)) only [e141_0, e141_1, e141_3, e141_6, e141_7, e141_9, e141_12, e141_13, e141_15, e141_18, e141_19, e141_21, e141_24, e141_25, e141_27, e141_30, e141_31, e141_34, e141_35, ↓reduceIte, Nat.reduceAdd, Nat.reduceMul, nI_add, pk_mul, n_lt_t, n_lt_f, n_le_t, n_le_f, n_eq_f, n_eq_t, n_z_f, n_z_t, n_lz, n_zl, not_true_eq_false, not_false_eq_true]; rfl
  · by_cases h2 : k = 110
    · subst h2; simp (disch := (first | omega | assumption | rfl | (simp (disch := assumption) only [l9_2, l9_4, l9_5, l9_6, l9_7, l9_9, l9_10, l9_11, l9_12, l9_14, l9_15, l9_16, l9_17, l9_51, l9_52, l9_53, l9_55, l9_56, l9_58, l9_61, l9_73, l9_74, l9_75, l9_76, l9_77, l9_79, l9_80, l9_81, l9_82, l9_83, l9_84, l9_85, l10_59, l10_78, l9_D1, l9_D2, l9_D3, l9_D4, l9_T1, l9_T2, l9_T3, l9_T4]; omega) | decide)) only [e141_0, e141_1, e141_3, e141_6, e141_7, e141_9, e141_12, e141_13, e141_15, e141_18, e141_19, e141_21, e141_24, e141_25, e141_27, e141_30, e141_31, e141_34, e141_35, ↓reduceIte, Nat.reduceAdd, Nat.reduceMul, nI_add, pk_mul, n_lt_t, n_lt_f, n_le_t, n_le_f, n_eq_f, n_eq_t, n_z_f, n_z_t, n_lz, n_zl, not_true_eq_false, not_false_eq_true]; rfl
    · by_cases h3 : k = 103
      · subst h3; simp (disch := (first | omega | assumption | rfl | (simp (disch := assumption) only [l9_2, l9_4, l9_5, l9_6, l9_7, l9_9, l9_10, l9_11, l9_12, l9_14, l9_15, l9_16, l9_17, l9_51, l9_52, l9_53, l9_55, l9_56, l9_58, l9_61, l9_73, l9_74, l9_75, l9_76, l9_77, l9_79, l9_80, l9_81, l9_82, l9_83, l9_84, l9_85, l10_59, l10_78, l9_D1, l9_D2, l9_D3, l9_D4, l9_T1, l9_T2, l9_T3, l9_T4]; omega) | decide)) only [e141_0, e141_1, e141_3, e141_6, e141_7, e141_9, e141_12, e141_13, e141_15, e141_18, e141_19, e141_21, e141_24, e141_25, e141_27, e141_30, e141_31, e141_34, e141_35, ↓reduceIte, Nat.reduceAdd, Nat.reduceMul, nI_add, pk_mul, n_lt_t, n_lt_f, n_le_t, n_le_f, n_eq_f, n_eq_t, n_z_f, n_z_t, n_lz, n_zl, not_true_eq_false, not_false_eq_true]; rfl
      · by_cases h4 : k = 98
        · subst h4; simp (disch := (first | omega | assumption | rfl | (simp (disch := assumption) only [l9_2, l9_4, l9_5, l9_6, l9_7, l9_9, l9_10, l9_11, l9_12, l9_14, l9_15, l9_16, l9_17, l9_51, l9_52, l9_53, l9_55, l9_56, l9_58, l9_61, l9_73, l9_74, l9_75, l9_76, l9_77, l9_79, l9_80, l9_81, l9_82, l9_83, l9_84, l9_85, l10_59, l10_78, l9_D1, l9_D2, l9_D3, l9_D4, l9_T1, l9_T2, l9_T3, l9_T4]; omega) | decide)) only [e141_0, e141_1, e141_3, e141_6, e141_7, e141_9, e141_12, e141_13, e141_15, e141_18, e141_19, e141_21, e141_24, e141_25, e141_27, e141_30, e141_31, e141_34, e141_35, ↓reduceIte, Nat.reduceAdd, Nat.reduceMul, nI_add, pk_mul, n_lt_t, n_lt_f, n_le_t, n_le_f, n_eq_f, n_eq_t, n_z_f, n_z_t, n_lz, n_zl, not_true_eq_false, not_false_eq_true]; rfl
        · by_cases h5 : k = 109
          · subst h5; simp (disch := (first | omega | assumption | rfl | (simp (disch := assumption) only [l9_2, l9_4, l9_5, l9_6, l9_7, l9_9, l9_10, l9_11, l9_12, l9_14, l9_15, l9_16, l9_17, l9_51, l9_52, l9_53, l9_55, l9_56, l9_58, l9_61, l9_73, l9_74, l9_75, l9_76, l9_77, l9_79, l9_80, l9_81, l9_82, l9_83, l9_84, l9_85, l10_59, l10_78, l9_D1, l9_D2, l9_D3, l9_D4, l9_T1, l9_T2, l9_T3, l9_T4]; omega) | decide)) only [e141_0, e141_1, e141_3, e141_6, e141_7, e141_9, e141_12, e141_13, e141_15, e141_18, e141_19, e141_21, e141_24, e141_25, e141_27, e141_30, e141_31, e141_34, e141_35, ↓reduceIte, Nat.reduceAdd, Nat.reduceMul, nI_add, pk_mul, n_lt_t, n_lt_f, n_le_t, n_le_f, n_eq_f, n_eq_t, n_z_f, n_z_t, n_lz, n_zl, not_true_eq_false, not_false_eq_true]; rfl
          · rw [if_neg (by rintro (z | z | z | z | z) <;> omega)]
            simp (disch := (first | omega | assumption | rfl | (simp (disch := assumption) only [l9_2, l9_4, l9_5, l9_6, l9_7, l9_9, l9_10, l9_11, l9_12, l9_14, l9_15, l9_16, l9_17, l9_51, l9_52, l9_53, l9_55, l9_56, l9_58, l9_61, l9_73, l9_74, l9_75, l9_76, l9_77, l9_79, l9_80, l9_81, l9_82, l9_83, l9_84, l9_85, l10_59, l10_78, l9_D1, l9_D2, l9_D3, l9_D4, l9_T1, l9_T2, l9_T3, l9_T4]; omega) | decide)) only [e141_0, e141_1, e141_3, e141_6, e141_7, e141_9, e141_12, e141_13, e141_15, e141_18, e141_19, e141_21, e141_24, e141_25, e141_27, e141_30, e141_31, e141_34, e141_35, ↓reduceIte, Nat.reduceAdd, Nat.reduceMul, nI_add, pk_mul, n_lt_t, n_lt_f, n_le_t, n_le_f, n_eq_f, n_eq_t, n_z_f, n_z_t, n_lz, n_zl, not_true_eq_false, not_false_eq_true]
theorem s142_s (ht : mt F x l) : ∀ n p, l ≤ n + p → p ≤ l → q_ex X (142, 0, [.ref 72], [], q_w t u (m5 F (nI p) q k v f) J) = q_ex X (142, 38, [.ref 72], [], q_w t u (m5 F (nI (skS x l n p)) q k v f) J)
  | 0, p, h, hp => by
    have hl := ht.1
    rw [e142_0]
    simp (disch := (first | omega | assumption | rfl | (simp (disch := assumption) only [l9_2, l9_4, l9_5, l9_6, l9_7, l9_9, l9_10, l9_11, l9_12, l9_14, l9_15, l9_16, l9_17, l9_51, l9_52, l9_53, l9_55, l9_56, l9_58, l9_61, l9_73, l9_74, l9_75, l9_76, l9_77, l9_79, l9_80, l9_81, l9_82, l9_83, l9_84, l9_85, l10_59, l10_78, l9_D1, l9_D2, l9_D3, l9_D4, l9_T1, l9_T2, l9_T3, l9_T4]; omega) | decide)) only [e142_1, e142_4, e142_5, e142_8, ↓reduceIte, Nat.reduceAdd, Nat.reduceMul, nI_add, pk_mul, n_lt_t, n_lt_f, n_le_t, n_le_f, n_eq_f, n_eq_t, n_z_f, n_z_t, n_lz, n_zl, not_true_eq_false, not_false_eq_true, m5_15, m5_16, ht.2.1, skS]
  | n + 1, p, h, hp => by
    have hl := ht.1
    rw [e142_0]
    by_cases h1 : p < l
    · have h2 := ht.2.2.1 p h1
      have h3 := ht.2.2.2 p
      by_cases h4 : x p = 32
      · have ih := s142_s ht n (p + 1) (by omega) (by omega)
        simp (disch := (first | omega | assumption | rfl | (simp (disch := assumption) only [l9_2, l9_4, l9_5, l9_6, l9_7, l9_9, l9_10, l9_11, l9_12, l9_14, l9_15, l9_16, l9_17, l9_51, l9_52, l9_53, l9_55, l9_56, l9_58, l9_61, l9_73, l9_74, l9_75, l9_76, l9_77, l9_79, l9_80, l9_81, l9_82, l9_83, l9_84, l9_85, l10_59, l10_78, l9_D1, l9_D2, l9_D3, l9_D4, l9_T1, l9_T2, l9_T3, l9_T4]; omega) | decide)) only [e142_1, e142_4, e142_5, e142_8, e142_11, e142_12, e142_15, e142_16, e142_19, e142_20, e142_22, e142_25, e142_26, e142_27, e142_30, e142_31, e142_32, e142_35, e142_39, e142_40, e142_43, e142_46, e142_47, e142_48, e142_51, e142_52, e142_55, e142_56, e142_59, e142_62, e142_63, e142_64, e142_67, e142_70, e142_71, e142_74, e142_75, e142_78, e142_79, e142_81, e142_83, e142_86, e142_90, e142_93, e142_94, e142_97, e142_100, e142_101, e142_104, e142_105, e142_108, e142_109, e142_111, e142_113, e142_116, e142_119, e142_120, e142_121, e142_124, e142_126, e142_129, e142_130, e142_133, e142_136, e142_138, e142_139, e142_142, e142_143, e142_144, e142_147, e142_148, e142_151, e142_152, e142_153, e142_155, e142_156, e142_159, e142_160, e142_161, e142_164, e142_165, e142_166, e142_169, e142_172, e142_173, e142_174, e142_177, e142_179, e142_182, e142_183, e142_186, e142_187, e142_190, e142_191, e142_193, e142_196, e142_197, e142_200, e142_201, e142_204, e142_205, e142_206, e142_209, e142_210, e142_213, e142_214, e142_217, e142_220, e142_221, e142_222, e142_225, e142_226, e142_229, e142_230, e142_233, e142_236, e142_237, e142_240, e142_241, e142_244, e142_245, e142_247, e142_250, e142_251, e142_254, e142_255, e142_258, e142_259, e142_262, e142_263, e142_266, e142_267, e142_268, e142_271, e142_272, e142_273, e142_276, ↓reduceIte, Nat.reduceAdd, Nat.reduceMul, nI_add, pk_mul, n_lt_t, n_lt_f, n_le_t, n_le_f, n_eq_f, n_eq_t, n_z_f, n_z_t, n_lz, n_zl, not_true_eq_false, not_false_eq_true, m5_15, m5_16, m5_n, ht.2.1, h2, h4, m5_u16, ih]
        simp only [skS, h1, h4, and_self, if_true]
      · simp (disch := (first | omega | assumption | rfl | (simp (disch := assumption) only [l9_2, l9_4, l9_5, l9_6, l9_7, l9_9, l9_10, l9_11, l9_12, l9_14, l9_15, l9_16, l9_17, l9_51, l9_52, l9_53, l9_55, l9_56, l9_58, l9_61, l9_73, l9_74, l9_75, l9_76, l9_77, l9_79, l9_80, l9_81, l9_82, l9_83, l9_84, l9_85, l10_59, l10_78, l9_D1, l9_D2, l9_D3, l9_D4, l9_T1, l9_T2, l9_T3, l9_T4]; omega) | decide)) only [e142_1, e142_4, e142_5, e142_8, e142_11, e142_12, e142_15, e142_16, e142_19, e142_20, e142_22, e142_25, e142_26, e142_27, e142_30, e142_31, e142_32, e142_35, e142_39, e142_40, e142_43, e142_46, e142_47, e142_48, e142_51, e142_52, e142_55, e142_56, e142_59, e142_62, e142_63, e142_64, e142_67, e142_70, e142_71, e142_74, e142_75, e142_78, e142_79, e142_81, e142_83, e142_86, e142_90, e142_93, e142_94, e142_97, e142_100, e142_101, e142_104, e142_105, e142_108, e142_109, e142_111, e142_113, e142_116, e142_119, e142_120, e142_121, e142_124, e142_126, e142_129, e142_130, e142_133, e142_136, e142_138, e142_139, e142_142, e142_143, e142_144, e142_147, e142_148, e142_151, e142_152, e142_153, e142_155, e142_156, e142_159, e142_160, e142_161, e142_164, e142_165, e142_166, e142_169, e142_172, e142_173, e142_174, e142_177, e142_179, e142_182, e142_183, e142_186, e142_187, e142_190, e142_191, e142_193, e142_196, e142_197, e142_200, e142_201, e142_204, e142_205, e142_206, e142_209, e142_210, e142_213, e142_214, e142_217, e142_220, e142_221, e142_222, e142_225, e142_226, e142_229, e142_230, e142_233, e142_236, e142_237, e142_240, e142_241, e142_244, e142_245, e142_247, e142_250, e142_251, e142_254, e142_255, e142_258, e142_259, e142_262, e142_263, e142_266, e142_267, e142_268, e142_271, e142_272, e142_273, e142_276, ↓reduceIte, Nat.reduceAdd, Nat.reduceMul, nI_add, pk_mul, n_lt_t, n_lt_f, n_le_t, n_le_f, n_eq_f, n_eq_t, n_z_f, n_z_t, n_lz, n_zl, not_true_eq_false, not_false_eq_true, m5_15, m5_16, m5_n, ht.2.1, h2]
        simp only [skS, h4, and_false, if_false]
    · simp (disch := (first | omega | assumption | rfl | (simp (disch := assumption) only [l9_2, l9_4, l9_5, l9_6, l9_7, l9_9, l9_10, l9_11, l9_12, l9_14, l9_15, l9_16, l9_17, l9_51, l9_52, l9_53, l9_55, l9_56, l9_58, l9_61, l9_73, l9_74, l9_75, l9_76, l9_77, l9_79, l9_80, l9_81, l9_82, l9_83, l9_84, l9_85, l10_59, l10_78, l9_D1, l9_D2, l9_D3, l9_D4, l9_T1, l9_T2, l9_T3, l9_T4]; omega) | decide)) only [e142_1, e142_4, e142_5, e142_8, e142_11, e142_12, e142_15, e142_16, e142_19, e142_20, e142_22, e142_25, e142_26, e142_27, e142_30, e142_31, e142_32, e142_35, e142_39, e142_40, e142_43, e142_46, e142_47, e142_48, e142_51, e142_52, e142_55, e142_56, e142_59, e142_62, e142_63, e142_64, e142_67, e142_70, e142_71, e142_74, e142_75, e142_78, e142_79, e142_81, e142_83, e142_86, e142_90, e142_93, e142_94, e142_97, e142_100, e142_101, e142_104, e142_105, e142_108, e142_109, e142_111, e142_113, e142_116, e142_119, e142_120, e142_121, e142_124, e142_126, e142_129, e142_130, e142_133, e142_136, e142_138, e142_139, e142_142, e142_143, e142_144, e142_147, e142_148, e142_151, e142_152, e142_153, e142_155, e142_156, e142_159, e142_160, e142_161, e142_164, e142_165, e142_166, e142_169, e142_172, e142_173, e142_174, e142_177, e142_179, e142_182, e142_183, e142_186, e142_187, e142_190, e142_191, e142_193, e142_196, e142_197, e142_200, e142_201, e142_204, e142_205, e142_206, e142_209, e142_210, e142_213, e142_214, e142_217, e142_220, e142_221, e142_222, e142_225, e142_226, e142_229, e142_230, e142_233, e142_236, e142_237, e142_240, e142_241, e142_244, e142_245, e142_247, e142_250, e142_251, e142_254, e142_255, e142_258, e142_259, e142_262, e142_263, e142_266, e142_267, e142_268, e142_271, e142_272, e142_273, e142_276, ↓reduceIte, Nat.reduceAdd, Nat.reduceMul, nI_add, pk_mul, n_lt_t, n_lt_f, n_le_t, n_le_f, n_eq_f, n_eq_t, n_z_f, n_z_t, n_lz, n_zl, not_true_eq_false, not_false_eq_true, m5_15, m5_16, ht.2.1]
      simp only [skS, h1, false_and, if_false]
theorem s142_d {p : Nat} (ht : mt F x l) : ∀ n c, l ≤ n + (p + c) → p + c ≤ l → q_ex X (142, 89, [.ref 72], [], q_w t u (m5 F (nI (p + c)) q k (nI (vl x p c)) f) J) = q_ex X (142, 172, [.ref 72], [], q_w t u (m5 F (nI (p + c + ddS x l n (p + c))) q k (nI (vl x p (c + ddS x l n (p + c)))) f) J)
  | 0, c, h, hp => by
    have hl := ht.1
    rw [e142_89]
    simp (disch := (first | omega | assumption | rfl | (simp (disch := assumption) only [l9_2, l9_4, l9_5, l9_6, l9_7, l9_9, l9_10, l9_11, l9_12, l9_14, l9_15, l9_16, l9_17, l9_51, l9_52, l9_53, l9_55, l9_56, l9_58, l9_61, l9_73, l9_74, l9_75, l9_76, l9_77, l9_79, l9_80, l9_81, l9_82, l9_83, l9_84, l9_85, l10_59, l10_78, l9_D1, l9_D2, l9_D3, l9_D4, l9_T1, l9_T2, l9_T3, l9_T4]; omega) | decide)) only [e142_90, e142_93, e142_94, e142_97, ↓reduceIte, Nat.reduceAdd, Nat.reduceMul, nI_add, pk_mul, n_lt_t, n_lt_f, n_le_t, n_le_f, n_eq_f, n_eq_t, n_z_f, n_z_t, n_lz, n_zl, not_true_eq_false, not_false_eq_true, m5_15, m5_16, ht.2.1, ddS, Nat.add_zero]
  | n + 1, c, h, hp => by
    have hl := ht.1
    have hvl := vl_le (q := p) ht.2.2.2 c
    rw [e142_89]
    by_cases h1 : p + c < l
    · have h2 := ht.2.2.1 (p + c) h1
      have h3 := ht.2.2.2 (p + c)
      by_cases h4 : dgt (x (p + c))
      · have ih := s142_d (p := p) ht n (c + 1) (by omega) (by omega)
        have hk : p + c + 1 = p + (c + 1) := by omega
        have hd : ddS x l (n + 1) (p + c) = ddS x l n (p + (c + 1)) + 1 := by
          simp only [ddS, if_pos (show p + c < l ∧ 48 ≤ x (p + c) ∧ x (p + c) ≤ 57 from ⟨h1, h4⟩)]
          rw [hk]
        rw [hd, show c + (ddS x l n (p + (c + 1)) + 1) = c + 1 + ddS x l n (p + (c + 1)) by omega, show p + c + (ddS x l n (p + (c + 1)) + 1) = p + (c + 1) + ddS x l n (p + (c + 1)) by omega, ← ih]
        by_cases h6 : 99 < vl x p c
        · simp (disch := (first | omega | assumption | rfl | (simp (disch := assumption) only [l9_2, l9_4, l9_5, l9_6, l9_7, l9_9, l9_10, l9_11, l9_12, l9_14, l9_15, l9_16, l9_17, l9_51, l9_52, l9_53, l9_55, l9_56, l9_58, l9_61, l9_73, l9_74, l9_75, l9_76, l9_77, l9_79, l9_80, l9_81, l9_82, l9_83, l9_84, l9_85, l10_59, l10_78, l9_D1, l9_D2, l9_D3, l9_D4, l9_T1, l9_T2, l9_T3, l9_T4]; omega) | decide)) only [e142_1, e142_4, e142_5, e142_8, e142_11, e142_12, e142_15, e142_16, e142_19, e142_20, e142_22, e142_25, e142_26, e142_27, e142_30, e142_31, e142_32, e142_35, e142_39, e142_40, e142_43, e142_46, e142_47, e142_48, e142_51, e142_52, e142_55, e142_56, e142_59, e142_62, e142_63, e142_64, e142_67, e142_70, e142_71, e142_74, e142_75, e142_78, e142_79, e142_81, e142_83, e142_86, e142_90, e142_93, e142_94, e142_97, e142_100, e142_101, e142_104, e142_105, e142_108, e142_109, e142_111, e142_113, e142_116, e142_119, e142_120, e142_121, e142_124, e142_126, e142_129, e142_130, e142_133, e142_136, e142_138, e142_139, e142_142, e142_143, e142_144, e142_147, e142_148, e142_151, e142_152, e142_153, e142_155, e142_156, e142_159, e142_160, e142_161, e142_164, e142_165, e142_166, e142_169, e142_173, e142_174, e142_177, e142_179, e142_182, e142_183, e142_186, e142_187, e142_190, e142_191, e142_193, e142_196, e142_197, e142_200, e142_201, e142_204, e142_205, e142_206, e142_209, e142_210, e142_213, e142_214, e142_217, e142_220, e142_221, e142_222, e142_225, e142_226, e142_229, e142_230, e142_233, e142_236, e142_237, e142_240, e142_241, e142_244, e142_245, e142_247, e142_250, e142_251, e142_254, e142_255, e142_258, e142_259, e142_262, e142_263, e142_266, e142_267, e142_268, e142_271, e142_272, e142_273, e142_276, ↓reduceIte, Nat.reduceAdd, Nat.reduceMul, nI_add, pk_mul, n_lt_t, n_lt_f, n_le_t, n_le_f, n_eq_f, n_eq_t, n_z_f, n_z_t, n_lz, n_zl, not_true_eq_false, not_false_eq_true, m5_15, m5_16, m5_19, m5_n, ht.2.1, h2, s85_t h4.1 h4.2, Option.bind_some, Option.toList_some, Option.toList_none, List.cons_append, List.nil_append, m5_u19, m5_u16, hk]
          rw [vl, if_pos h6]
        · simp (disch := (first | omega | assumption | rfl | (simp (disch := assumption) only [l9_2, l9_4, l9_5, l9_6, l9_7, l9_9, l9_10, l9_11, l9_12, l9_14, l9_15, l9_16, l9_17, l9_51, l9_52, l9_53, l9_55, l9_56, l9_58, l9_61, l9_73, l9_74, l9_75, l9_76, l9_77, l9_79, l9_80, l9_81, l9_82, l9_83, l9_84, l9_85, l10_59, l10_78, l9_D1, l9_D2, l9_D3, l9_D4, l9_T1, l9_T2, l9_T3, l9_T4]; omega) | decide)) only [e142_1, e142_4, e142_5, e142_8, e142_11, e142_12, e142_15, e142_16, e142_19, e142_20, e142_22, e142_25, e142_26, e142_27, e142_30, e142_31, e142_32, e142_35, e142_39, e142_40, e142_43, e142_46, e142_47, e142_48, e142_51, e142_52, e142_55, e142_56, e142_59, e142_62, e142_63, e142_64, e142_67, e142_70, e142_71, e142_74, e142_75, e142_78, e142_79, e142_81, e142_83, e142_86, e142_90, e142_93, e142_94, e142_97, e142_100, e142_101, e142_104, e142_105, e142_108, e142_109, e142_111, e142_113, e142_116, e142_119, e142_120, e142_121, e142_124, e142_126, e142_129, e142_130, e142_133, e142_136, e142_138, e142_139, e142_142, e142_143, e142_144, e142_147, e142_148, e142_151, e142_152, e142_153, e142_155, e142_156, e142_159, e142_160, e142_161, e142_164, e142_165, e142_166, e142_169, e142_173, e142_174, e142_177, e142_179, e142_182, e142_183, e142_186, e142_187, e142_190, e142_191, e142_193, e142_196, e142_197, e142_200, e142_201, e142_204, e142_205, e142_206, e142_209, e142_210, e142_213, e142_214, e142_217, e142_220, e142_221, e142_222, e142_225, e142_226, e142_229, e142_230, e142_233, e142_236, e142_237, e142_240, e142_241, e142_244, e142_245, e142_247, e142_250, e142_251, e142_254, e142_255, e142_258, e142_259, e142_262, e142_263, e142_266, e142_267, e142_268, e142_271, e142_272, e142_273, e142_276, ↓reduceIte, Nat.reduceAdd, Nat.reduceMul, nI_add, pk_mul, n_lt_t, n_lt_f, n_le_t, n_le_f, n_eq_f, n_eq_t, n_z_f, n_z_t, n_lz, n_zl, not_true_eq_false, not_false_eq_true, m5_15, m5_16, m5_19, m5_n, ht.2.1, h2, s85_t h4.1 h4.2, Option.bind_some, Option.toList_some, Option.toList_none, List.cons_append, List.nil_append, n_sub, m5_u19, m5_u16, hk]
          rw [vl, if_neg h6]
      · simp (disch := (first | omega | assumption | rfl | (simp (disch := assumption) only [l9_2, l9_4, l9_5, l9_6, l9_7, l9_9, l9_10, l9_11, l9_12, l9_14, l9_15, l9_16, l9_17, l9_51, l9_52, l9_53, l9_55, l9_56, l9_58, l9_61, l9_73, l9_74, l9_75, l9_76, l9_77, l9_79, l9_80, l9_81, l9_82, l9_83, l9_84, l9_85, l10_59, l10_78, l9_D1, l9_D2, l9_D3, l9_D4, l9_T1, l9_T2, l9_T3, l9_T4]; omega) | decide)) only [e142_1, e142_4, e142_5, e142_8, e142_11, e142_12, e142_15, e142_16, e142_19, e142_20, e142_22, e142_25, e142_26, e142_27, e142_30, e142_31, e142_32, e142_35, e142_39, e142_40, e142_43, e142_46, e142_47, e142_48, e142_51, e142_52, e142_55, e142_56, e142_59, e142_62, e142_63, e142_64, e142_67, e142_70, e142_71, e142_74, e142_75, e142_78, e142_79, e142_81, e142_83, e142_86, e142_90, e142_93, e142_94, e142_97, e142_100, e142_101, e142_104, e142_105, e142_108, e142_109, e142_111, e142_113, e142_116, e142_119, e142_120, e142_121, e142_124, e142_126, e142_129, e142_130, e142_133, e142_136, e142_138, e142_139, e142_142, e142_143, e142_144, e142_147, e142_148, e142_151, e142_152, e142_153, e142_155, e142_156, e142_159, e142_160, e142_161, e142_164, e142_165, e142_166, e142_169, e142_173, e142_174, e142_177, e142_179, e142_182, e142_183, e142_186, e142_187, e142_190, e142_191, e142_193, e142_196, e142_197, e142_200, e142_201, e142_204, e142_205, e142_206, e142_209, e142_210, e142_213, e142_214, e142_217, e142_220, e142_221, e142_222, e142_225, e142_226, e142_229, e142_230, e142_233, e142_236, e142_237, e142_240, e142_241, e142_244, e142_245, e142_247, e142_250, e142_251, e142_254, e142_255, e142_258, e142_259, e142_262, e142_263, e142_266, e142_267, e142_268, e142_271, e142_272, e142_273, e142_276, ↓reduceIte, Nat.reduceAdd, Nat.reduceMul, nI_add, pk_mul, n_lt_t, n_lt_f, n_le_t, n_le_f, n_eq_f, n_eq_t, n_z_f, n_z_t, n_lz, n_zl, not_true_eq_false, not_false_eq_true, m5_15, m5_16, m5_n, ht.2.1, h2, s85_n (show x (p + c) < 48 ∨ 57 < x (p + c) by omega), Option.bind_some, Option.toList_some, Option.toList_none, List.cons_append, List.nil_append]
        simp only [ddS, if_neg (show ¬ (p + c < l ∧ 48 ≤ x (p + c) ∧ x (p + c) ≤ 57) from fun z => h4 z.2), Nat.add_zero]
    · simp (disch := (first | omega | assumption | rfl | (simp (disch := assumption) only [l9_2, l9_4, l9_5, l9_6, l9_7, l9_9, l9_10, l9_11, l9_12, l9_14, l9_15, l9_16, l9_17, l9_51, l9_52, l9_53, l9_55, l9_56, l9_58, l9_61, l9_73, l9_74, l9_75, l9_76, l9_77, l9_79, l9_80, l9_81, l9_82, l9_83, l9_84, l9_85, l10_59, l10_78, l9_D1, l9_D2, l9_D3, l9_D4, l9_T1, l9_T2, l9_T3, l9_T4]; omega) | decide)) only [e142_1, e142_4, e142_5, e142_8, e142_11, e142_12, e142_15, e142_16, e142_19, e142_20, e142_22, e142_25, e142_26, e142_27, e142_30, e142_31, e142_32, e142_35, e142_39, e142_40, e142_43, e142_46, e142_47, e142_48, e142_51, e142_52, e142_55, e142_56, e142_59, e142_62, e142_63, e142_64, e142_67, e142_70, e142_71, e142_74, e142_75, e142_78, e142_79, e142_81, e142_83, e142_86, e142_90, e142_93, e142_94, e142_97, e142_100, e142_101, e142_104, e142_105, e142_108, e142_109, e142_111, e142_113, e142_116, e142_119, e142_120, e142_121, e142_124, e142_126, e142_129, e142_130, e142_133, e142_136, e142_138, e142_139, e142_142, e142_143, e142_144, e142_147, e142_148, e142_151, e142_152, e142_153, e142_155, e142_156, e142_159, e142_160, e142_161, e142_164, e142_165, e142_166, e142_169, e142_173, e142_174, e142_177, e142_179, e142_182, e142_183, e142_186, e142_187, e142_190, e142_191, e142_193, e142_196, e142_197, e142_200, e142_201, e142_204, e142_205, e142_206, e142_209, e142_210, e142_213, e142_214, e142_217, e142_220, e142_221, e142_222, e142_225, e142_226, e142_229, e142_230, e142_233, e142_236, e142_237, e142_240, e142_241, e142_244, e142_245, e142_247, e142_250, e142_251, e142_254, e142_255, e142_258, e142_259, e142_262, e142_263, e142_266, e142_267, e142_268, e142_271, e142_272, e142_273, e142_276, ↓reduceIte, Nat.reduceAdd, Nat.reduceMul, nI_add, pk_mul, n_lt_t, n_lt_f, n_le_t, n_le_f, n_eq_f, n_eq_t, n_z_f, n_z_t, n_lz, n_zl, not_true_eq_false, not_false_eq_true, m5_15, m5_16, ht.2.1]
      simp only [ddS, if_neg (show ¬ (p + c < l ∧ 48 ≤ x (p + c) ∧ x (p + c) ≤ 57) from fun z => h1 z.1), Nat.add_zero]
theorem s142 {p e : Nat} (ht : mt F x l) (hp : p ≤ l) : q_ex X (142, 0, [.ref 72], [], q_w t u (m5 F (nI p) q k v (fM e)) J) = some (none, q_w t u (ms F x l (sk x l p) e) J) := by
  have hl := ht.1
  have hs := sk_le (x := x) hp
  have h1 : q_ex X (142, 0, [.ref 72], [], q_w t u (m5 F (nI p) q k v (fM e)) J) = q_ex X (142, 38, [.ref 72], [], q_w t u (m5 F (nI (sk x l p)) q k v (fM e)) J) := s142_s ht l p (by omega) hp
  rw [h1]
  generalize sk x l p = s at hs
  unfold ms
  by_cases hsl : s < l
  · have h2 := ht.2.2.1 s hsl
    have h3 := ht.2.2.2 s
    have hd : q_ex X (142, 89, [.ref 72], [], q_w t u (m5 F (nI s) (nI s) k (nI 0) (fM e)) J) = q_ex X (142, 172, [.ref 72], [], q_w t u (m5 F (nI (s + dd x l s)) (nI s) k (nI (vl x s (dd x l s))) (fM e)) J) := by
      have := s142_d (X := X) (t := t) (u := u) (J := J) (q := nI s) (k := k) (f := fM e) (p := s) ht l 0 (by omega) (by omega)
      simp only [Nat.add_zero, Nat.zero_add] at this
      exact this
    have hdl := dd_le (x := x) hs
    have hvl := vl_le (q := s) ht.2.2.2 (dd x l s)
    have hss : s + dd x l s - s = dd x l s := by omega
    by_cases h4 : dgt (x s)
    · have ev : tkv x l s = vl x s (dd x l s) := by unfold tkv; rw [if_pos ⟨hsl, h4⟩]
      have ea : tka x l s = s + dd x l s := by unfold tka; rw [if_pos hsl, if_pos h4]
      have ek : tkn x l s = if 99 < vl x s (dd x l s) ∨ (x s = 48 ∧ 1 < dd x l s) then 2 else 1 := by unfold tkn; rw [if_pos hsl, if_pos h4]
      rw [ev, ea, ek]
      simp (disch := (first | omega | assumption | rfl | (simp (disch := assumption) only [l9_2, l9_4, l9_5, l9_6, l9_7, l9_9, l9_10, l9_11, l9_12, l9_14, l9_15, l9_16, l9_17, l9_51, l9_52, l9_53, l9_55, l9_56, l9_58, l9_61, l9_73, l9_74, l9_75, l9_76, l9_77, l9_79, l9_80, l9_81, l9_82, l9_83, l9_84, l9_85, l10_59, l10_78, l9_D1, l9_D2, l9_D3, l9_D4, l9_T1, l9_T2, l9_T3, l9_T4]; omega) | decide)) only [e142_38, e142_39, e142_40, e142_43, e142_46, e142_47, e142_48, e142_51, e142_52, e142_55, e142_56, e142_59, e142_70, e142_71, e142_74, e142_75, e142_78, e142_79, e142_81, e142_83, e142_86, ↓reduceIte, Nat.reduceAdd, Nat.reduceMul, nI_add, pk_mul, n_lt_t, n_lt_f, n_le_t, n_le_f, n_eq_f, n_eq_t, n_z_f, n_z_t, n_lz, n_zl, not_true_eq_false, not_false_eq_true, m5_15, m5_16, m5_19, m5_n, ht.2.1, h2, s85_t h4.1 h4.2, Option.bind_some, Option.toList_some, Option.toList_none, List.cons_append, List.nil_append, m5_u17, m5_u19]
      rw [hd]
      by_cases c1 : 99 < vl x s (dd x l s)
      · rw [if_pos (Or.inl c1)]
        simp (disch := (first | omega | assumption | rfl | (simp (disch := assumption) only [l9_2, l9_4, l9_5, l9_6, l9_7, l9_9, l9_10, l9_11, l9_12, l9_14, l9_15, l9_16, l9_17, l9_51, l9_52, l9_53, l9_55, l9_56, l9_58, l9_61, l9_73, l9_74, l9_75, l9_76, l9_77, l9_79, l9_80, l9_81, l9_82, l9_83, l9_84, l9_85, l10_59, l10_78, l9_D1, l9_D2, l9_D3, l9_D4, l9_T1, l9_T2, l9_T3, l9_T4]; omega) | decide)) only [e142_1, e142_4, e142_5, e142_8, e142_11, e142_12, e142_15, e142_16, e142_19, e142_20, e142_22, e142_25, e142_26, e142_27, e142_30, e142_31, e142_32, e142_35, e142_39, e142_40, e142_43, e142_46, e142_47, e142_48, e142_51, e142_52, e142_55, e142_56, e142_59, e142_62, e142_63, e142_64, e142_67, e142_70, e142_71, e142_74, e142_75, e142_78, e142_79, e142_81, e142_83, e142_86, e142_90, e142_93, e142_94, e142_97, e142_100, e142_101, e142_104, e142_105, e142_108, e142_109, e142_111, e142_113, e142_116, e142_119, e142_120, e142_121, e142_124, e142_126, e142_129, e142_130, e142_133, e142_136, e142_138, e142_139, e142_142, e142_143, e142_144, e142_147, e142_148, e142_151, e142_152, e142_153, e142_155, e142_156, e142_159, e142_160, e142_161, e142_164, e142_165, e142_166, e142_169, e142_172, e142_173, e142_174, e142_177, e142_179, e142_182, e142_183, e142_186, e142_187, e142_190, e142_191, e142_193, e142_196, e142_197, e142_200, e142_201, e142_204, e142_205, e142_206, e142_209, e142_210, e142_213, e142_214, e142_217, e142_220, e142_221, e142_222, e142_225, e142_226, e142_229, e142_230, e142_233, e142_236, e142_237, e142_240, e142_241, e142_244, e142_245, e142_247, e142_250, e142_251, e142_254, e142_255, e142_258, e142_259, e142_262, e142_263, e142_266, e142_267, e142_268, e142_271, e142_272, e142_273, e142_276, ↓reduceIte, Nat.reduceAdd, Nat.reduceMul, nI_add, pk_mul, n_lt_t, n_lt_f, n_le_t, n_le_f, n_eq_f, n_eq_t, n_z_f, n_z_t, n_lz, n_zl, not_true_eq_false, not_false_eq_true, m5_19, m5_u18]
      · by_cases c2 : x s = 48
        · by_cases c3 : 1 < dd x l s
          · rw [if_pos (Or.inr ⟨c2, c3⟩)]
            simp (disch := (first | omega | assumption | rfl | (simp (disch := assumption) only [l9_2, l9_4, l9_5, l9_6, l9_7, l9_9, l9_10, l9_11, l9_12, l9_14, l9_15, l9_16, l9_17, l9_51, l9_52, l9_53, l9_55, l9_56, l9_58, l9_61, l9_73, l9_74, l9_75, l9_76, l9_77, l9_79, l9_80, l9_81, l9_82, l9_83, l9_84, l9_85, l10_59, l10_78, l9_D1, l9_D2, l9_D3, l9_D4, l9_T1, l9_T2, l9_T3, l9_T4]; omega) | decide)) only [e142_1, e142_4, e142_5, e142_8, e142_11, e142_12, e142_15, e142_16, e142_19, e142_20, e142_22, e142_25, e142_26, e142_27, e142_30, e142_31, e142_32, e142_35, e142_39, e142_40, e142_43, e142_46, e142_47, e142_48, e142_51, e142_52, e142_55, e142_56, e142_59, e142_62, e142_63, e142_64, e142_67, e142_70, e142_71, e142_74, e142_75, e142_78, e142_79, e142_81, e142_83, e142_86, e142_90, e142_93, e142_94, e142_97, e142_100, e142_101, e142_104, e142_105, e142_108, e142_109, e142_111, e142_113, e142_116, e142_119, e142_120, e142_121, e142_124, e142_126, e142_129, e142_130, e142_133, e142_136, e142_138, e142_139, e142_142, e142_143, e142_144, e142_147, e142_148, e142_151, e142_152, e142_153, e142_155, e142_156, e142_159, e142_160, e142_161, e142_164, e142_165, e142_166, e142_169, e142_172, e142_173, e142_174, e142_177, e142_179, e142_182, e142_183, e142_186, e142_187, e142_190, e142_191, e142_193, e142_196, e142_197, e142_200, e142_201, e142_204, e142_205, e142_206, e142_209, e142_210, e142_213, e142_214, e142_217, e142_220, e142_221, e142_222, e142_225, e142_226, e142_229, e142_230, e142_233, e142_236, e142_237, e142_240, e142_241, e142_244, e142_245, e142_247, e142_250, e142_251, e142_254, e142_255, e142_258, e142_259, e142_262, e142_263, e142_266, e142_267, e142_268, e142_271, e142_272, e142_273, e142_276, ↓reduceIte, Nat.reduceAdd, Nat.reduceMul, nI_add, pk_mul, n_lt_t, n_lt_f, n_le_t, n_le_f, n_eq_f, n_eq_t, n_z_f, n_z_t, n_lz, n_zl, not_true_eq_false, not_false_eq_true, m5_19, m5_17, m5_16, m5_n, h2, c2, n_sub, hss, m5_u18]
          · rw [if_neg (by omega)]
            simp (disch := (first | omega | assumption | rfl | (simp (disch := assumption) only [l9_2, l9_4, l9_5, l9_6, l9_7, l9_9, l9_10, l9_11, l9_12, l9_14, l9_15, l9_16, l9_17, l9_51, l9_52, l9_53, l9_55, l9_56, l9_58, l9_61, l9_73, l9_74, l9_75, l9_76, l9_77, l9_79, l9_80, l9_81, l9_82, l9_83, l9_84, l9_85, l10_59, l10_78, l9_D1, l9_D2, l9_D3, l9_D4, l9_T1, l9_T2, l9_T3, l9_T4]; omega) | decide)) only [e142_1, e142_4, e142_5, e142_8, e142_11, e142_12, e142_15, e142_16, e142_19, e142_20, e142_22, e142_25, e142_26, e142_27, e142_30, e142_31, e142_32, e142_35, e142_39, e142_40, e142_43, e142_46, e142_47, e142_48, e142_51, e142_52, e142_55, e142_56, e142_59, e142_62, e142_63, e142_64, e142_67, e142_70, e142_71, e142_74, e142_75, e142_78, e142_79, e142_81, e142_83, e142_86, e142_90, e142_93, e142_94, e142_97, e142_100, e142_101, e142_104, e142_105, e142_108, e142_109, e142_111, e142_113, e142_116, e142_119, e142_120, e142_121, e142_124, e142_126, e142_129, e142_130, e142_133, e142_136, e142_138, e142_139, e142_142, e142_143, e142_144, e142_147, e142_148, e142_151, e142_152, e142_153, e142_155, e142_156, e142_159, e142_160, e142_161, e142_164, e142_165, e142_166, e142_169, e142_172, e142_173, e142_174, e142_177, e142_179, e142_182, e142_183, e142_186, e142_187, e142_190, e142_191, e142_193, e142_196, e142_197, e142_200, e142_201, e142_204, e142_205, e142_206, e142_209, e142_210, e142_213, e142_214, e142_217, e142_220, e142_221, e142_222, e142_225, e142_226, e142_229, e142_230, e142_233, e142_236, e142_237, e142_240, e142_241, e142_244, e142_245, e142_247, e142_250, e142_251, e142_254, e142_255, e142_258, e142_259, e142_262, e142_263, e142_266, e142_267, e142_268, e142_271, e142_272, e142_273, e142_276, ↓reduceIte, Nat.reduceAdd, Nat.reduceMul, nI_add, pk_mul, n_lt_t, n_lt_f, n_le_t, n_le_f, n_eq_f, n_eq_t, n_z_f, n_z_t, n_lz, n_zl, not_true_eq_false, not_false_eq_true, m5_19, m5_17, m5_16, m5_n, h2, c2, n_sub, hss, m5_u18]
        · rw [if_neg (by omega)]
          simp (disch := (first | omega | assumption | rfl | (simp (disch := assumption) only [l9_2, l9_4, l9_5, l9_6, l9_7, l9_9, l9_10, l9_11, l9_12, l9_14, l9_15, l9_16, l9_17, l9_51, l9_52, l9_53, l9_55, l9_56, l9_58, l9_61, l9_73, l9_74, l9_75, l9_76, l9_77, l9_79, l9_80, l9_81, l9_82, l9_83, l9_84, l9_85, l10_59, l10_78, l9_D1, l9_D2, l9_D3, l9_D4, l9_T1, l9_T2, l9_T3, l9_T4]; omega) | decide)) only [e142_1, e142_4, e142_5, e142_8, e142_11, e142_12, e142_15, e142_16, e142_19, e142_20, e142_22, e142_25, e142_26, e142_27, e142_30, e142_31, e142_32, e142_35, e142_39, e142_40, e142_43, e142_46, e142_47, e142_48, e142_51, e142_52, e142_55, e142_56, e142_59, e142_62, e142_63, e142_64, e142_67, e142_70, e142_71, e142_74, e142_75, e142_78, e142_79, e142_81, e142_83, e142_86, e142_90, e142_93, e142_94, e142_97, e142_100, e142_101, e142_104, e142_105, e142_108, e142_109, e142_111, e142_113, e142_116, e142_119, e142_120, e142_121, e142_124, e142_126, e142_129, e142_130, e142_133, e142_136, e142_138, e142_139, e142_142, e142_143, e142_144, e142_147, e142_148, e142_151, e142_152, e142_153, e142_155, e142_156, e142_159, e142_160, e142_161, e142_164, e142_165, e142_166, e142_169, e142_172, e142_173, e142_174, e142_177, e142_179, e142_182, e142_183, e142_186, e142_187, e142_190, e142_191, e142_193, e142_196, e142_197, e142_200, e142_201, e142_204, e142_205, e142_206, e142_209, e142_210, e142_213, e142_214, e142_217, e142_220, e142_221, e142_222, e142_225, e142_226, e142_229, e142_230, e142_233, e142_236, e142_237, e142_240, e142_241, e142_244, e142_245, e142_247, e142_250, e142_251, e142_254, e142_255, e142_258, e142_259, e142_262, e142_263, e142_266, e142_267, e142_268, e142_271, e142_272, e142_273, e142_276, ↓reduceIte, Nat.reduceAdd, Nat.reduceMul, nI_add, pk_mul, n_lt_t, n_lt_f, n_le_t, n_le_f, n_eq_f, n_eq_t, n_z_f, n_z_t, n_lz, n_zl, not_true_eq_false, not_false_eq_true, m5_19, m5_17, m5_16, m5_n, h2, m5_u18]
    · have ev : tkv x l s = 0 := by unfold tkv; rw [if_neg (fun z => h4 z.2)]
      have ea : tka x l s = s + 1 := by unfold tka; rw [if_pos hsl, if_neg h4]
      have ek : tkn x l s = if isK (x s) ∨ x s = 59 then x s else 2 := by unfold tkn; rw [if_pos hsl, if_neg h4]
      have hin : ∀ w : q_M, q_ex X (85, 0, [.int (nI (x s)), .int (nI 48), .int (nI 57)], [], w) = some (some (.int (nI 0)), w) := fun w => s85_n (by omega) (by omega) (by omega)
      rw [ev, ea, ek]
      by_cases c1 : isK (x s)
      · rw [if_pos (Or.inl c1)]
        simp (disch := (first | omega | assumption | rfl | (simp (disch := assumption) only [l9_2, l9_4, l9_5, l9_6, l9_7, l9_9, l9_10, l9_11, l9_12, l9_14, l9_15, l9_16, l9_17, l9_51, l9_52, l9_53, l9_55, l9_56, l9_58, l9_61, l9_73, l9_74, l9_75, l9_76, l9_77, l9_79, l9_80, l9_81, l9_82, l9_83, l9_84, l9_85, l10_59, l10_78, l9_D1, l9_D2, l9_D3, l9_D4, l9_T1, l9_T2, l9_T3, l9_T4]; omega) | decide)) only [e142_1, e142_4, e142_5, e142_8, e142_11, e142_12, e142_15, e142_16, e142_19, e142_20, e142_22, e142_25, e142_26, e142_27, e142_30, e142_31, e142_32, e142_35, e142_38, e142_39, e142_40, e142_43, e142_46, e142_47, e142_48, e142_51, e142_52, e142_55, e142_56, e142_59, e142_62, e142_63, e142_64, e142_67, e142_70, e142_71, e142_74, e142_75, e142_78, e142_79, e142_81, e142_83, e142_86, e142_90, e142_93, e142_94, e142_97, e142_100, e142_101, e142_104, e142_105, e142_108, e142_109, e142_111, e142_113, e142_116, e142_119, e142_120, e142_121, e142_124, e142_126, e142_129, e142_130, e142_133, e142_136, e142_138, e142_139, e142_142, e142_143, e142_144, e142_147, e142_148, e142_151, e142_152, e142_153, e142_155, e142_156, e142_159, e142_160, e142_161, e142_164, e142_165, e142_166, e142_169, e142_173, e142_174, e142_177, e142_179, e142_182, e142_183, e142_186, e142_187, e142_190, e142_191, e142_193, e142_196, e142_197, e142_200, e142_201, e142_204, e142_205, e142_206, e142_209, e142_210, e142_213, e142_214, e142_217, e142_220, e142_221, e142_222, e142_225, e142_226, e142_229, e142_230, e142_233, e142_236, e142_237, e142_240, e142_241, e142_244, e142_245, e142_247, e142_250, e142_251, e142_254, e142_255, e142_258, e142_259, e142_262, e142_263, e142_266, e142_267, e142_268, e142_271, e142_272, e142_273, e142_276, ↓reduceIte, Nat.reduceAdd, Nat.reduceMul, nI_add, pk_mul, n_lt_t, n_lt_f, n_le_t, n_le_f, n_eq_f, n_eq_t, n_z_f, n_z_t, n_lz, n_zl, not_true_eq_false, not_false_eq_true, m5_15, m5_16, m5_n, ht.2.1, h2, hin, s141, if_pos c1, Option.bind_some, Option.toList_some, Option.toList_none, List.cons_append, List.nil_append, m5_u16, m5_u17, m5_u18, m5_u19]
      · by_cases c2 : x s = 59
        · rw [if_pos (Or.inr c2)]
          simp (disch := (first | omega | assumption | rfl | (simp (disch := assumption) only [l9_2, l9_4, l9_5, l9_6, l9_7, l9_9, l9_10, l9_11, l9_12, l9_14, l9_15, l9_16, l9_17, l9_51, l9_52, l9_53, l9_55, l9_56, l9_58, l9_61, l9_73, l9_74, l9_75, l9_76, l9_77, l9_79, l9_80, l9_81, l9_82, l9_83, l9_84, l9_85, l10_59, l10_78, l9_D1, l9_D2, l9_D3, l9_D4, l9_T1, l9_T2, l9_T3, l9_T4]; omega) | decide)) only [e142_1, e142_4, e142_5, e142_8, e142_11, e142_12, e142_15, e142_16, e142_19, e142_20, e142_22, e142_25, e142_26, e142_27, e142_30, e142_31, e142_32, e142_35, e142_38, e142_39, e142_40, e142_43, e142_46, e142_47, e142_48, e142_51, e142_52, e142_55, e142_56, e142_59, e142_62, e142_63, e142_64, e142_67, e142_70, e142_71, e142_74, e142_75, e142_78, e142_79, e142_81, e142_83, e142_86, e142_90, e142_93, e142_94, e142_97, e142_100, e142_101, e142_104, e142_105, e142_108, e142_109, e142_111, e142_113, e142_116, e142_119, e142_120, e142_121, e142_124, e142_126, e142_129, e142_130, e142_133, e142_136, e142_138, e142_139, e142_142, e142_143, e142_144, e142_147, e142_148, e142_151, e142_152, e142_153, e142_155, e142_156, e142_159, e142_160, e142_161, e142_164, e142_165, e142_166, e142_169, e142_173, e142_174, e142_177, e142_179, e142_182, e142_183, e142_186, e142_187, e142_190, e142_191, e142_193, e142_196, e142_197, e142_200, e142_201, e142_204, e142_205, e142_206, e142_209, e142_210, e142_213, e142_214, e142_217, e142_220, e142_221, e142_222, e142_225, e142_226, e142_229, e142_230, e142_233, e142_236, e142_237, e142_240, e142_241, e142_244, e142_245, e142_247, e142_250, e142_251, e142_254, e142_255, e142_258, e142_259, e142_262, e142_263, e142_266, e142_267, e142_268, e142_271, e142_272, e142_273, e142_276, ↓reduceIte, Nat.reduceAdd, Nat.reduceMul, nI_add, pk_mul, n_lt_t, n_lt_f, n_le_t, n_le_f, n_eq_f, n_eq_t, n_z_f, n_z_t, n_lz, n_zl, not_true_eq_false, not_false_eq_true, m5_15, m5_16, m5_n, ht.2.1, h2, hin, s141, if_neg c1, Option.bind_some, Option.toList_some, Option.toList_none, List.cons_append, List.nil_append, m5_u16, m5_u17, m5_u18, m5_u19]
        · rw [if_neg (by rintro (z | z); exact c1 z; exact c2 z)]
          simp (disch := (first | omega | assumption | rfl | (simp (disch := assumption) only [l9_2, l9_4, l9_5, l9_6, l9_7, l9_9, l9_10, l9_11, l9_12, l9_14, l9_15, l9_16, l9_17, l9_51, l9_52, l9_53, l9_55, l9_56, l9_58, l9_61, l9_73, l9_74, l9_75, l9_76, l9_77, l9_79, l9_80, l9_81, l9_82, l9_83, l9_84, l9_85, l10_59, l10_78, l9_D1, l9_D2, l9_D3, l9_D4, l9_T1, l9_T2, l9_T3, l9_T4]; omega) | decide)) only [e142_1, e142_4, e142_5, e142_8, e142_11, e142_12, e142_15, e142_16, e142_19, e142_20, e142_22, e142_25, e142_26, e142_27, e142_30, e142_31, e142_32, e142_35, e142_38, e142_39, e142_40, e142_43, e142_46, e142_47, e142_48, e142_51, e142_52, e142_55, e142_56, e142_59, e142_62, e142_63, e142_64, e142_67, e142_70, e142_71, e142_74, e142_75, e142_78, e142_79, e142_81, e142_83, e142_86, e142_90, e142_93, e142_94, e142_97, e142_100, e142_101, e142_104, e142_105, e142_108, e142_109, e142_111, e142_113, e142_116, e142_119, e142_120, e142_121, e142_124, e142_126, e142_129, e142_130, e142_133, e142_136, e142_138, e142_139, e142_142, e142_143, e142_144, e142_147, e142_148, e142_151, e142_152, e142_153, e142_155, e142_156, e142_159, e142_160, e142_161, e142_164, e142_165, e142_166, e142_169, e142_173, e142_174, e142_177, e142_179, e142_182, e142_183, e142_186, e142_187, e142_190, e142_191, e142_193, e142_196, e142_197, e142_200, e142_201, e142_204, e142_205, e142_206, e142_209, e142_210, e142_213, e142_214, e142_217, e142_220, e142_221, e142_222, e142_225, e142_226, e142_229, e142_230, e142_233, e142_236, e142_237, e142_240, e142_241, e142_244, e142_245, e142_247, e142_250, e142_251, e142_254, e142_255, e142_258, e142_259, e142_262, e142_263, e142_266, e142_267, e142_268, e142_271, e142_272, e142_273, e142_276, ↓reduceIte, Nat.reduceAdd, Nat.reduceMul, nI_add, pk_mul, n_lt_t, n_lt_f, n_le_t, n_le_f, n_eq_f, n_eq_t, n_z_f, n_z_t, n_lz, n_zl, not_true_eq_false, not_false_eq_true, m5_15, m5_16, m5_n, ht.2.1, h2, hin, s141, if_neg c1, Option.bind_some, Option.toList_some, Option.toList_none, List.cons_append, List.nil_append, m5_u16, m5_u17, m5_u18, m5_u19]
  · have ev : tkv x l s = 0 := by unfold tkv; rw [if_neg (fun z => hsl z.1)]
    have ea : tka x l s = s := by unfold tka; rw [if_neg hsl]
    have ek : tkn x l s = 0 := by unfold tkn; rw [if_neg hsl]
    rw [ev, ea, ek]
    simp (disch := (first | omega | assumption | rfl | (simp (disch := assumption) only [l9_2, l9_4, l9_5, l9_6, l9_7, l9_9, l9_10, l9_11, l9_12, l9_14, l9_15, l9_16, l9_17, l9_51, l9_52, l9_53, l9_55, l9_56, l9_58, l9_61, l9_73, l9_74, l9_75, l9_76, l9_77, l9_79, l9_80, l9_81, l9_82, l9_83, l9_84, l9_85, l10_59, l10_78, l9_D1, l9_D2, l9_D3, l9_D4, l9_T1, l9_T2, l9_T3, l9_T4]; omega) | decide)) only [e142_1, e142_4, e142_5, e142_8, e142_11, e142_12, e142_15, e142_16, e142_19, e142_20, e142_22, e142_25, e142_26, e142_27, e142_30, e142_31, e142_32, e142_35, e142_38, e142_39, e142_40, e142_43, e142_46, e142_47, e142_48, e142_51, e142_52, e142_55, e142_56, e142_59, e142_62, e142_63, e142_64, e142_67, e142_70, e142_71, e142_74, e142_75, e142_78, e142_79, e142_81, e142_83, e142_86, e142_90, e142_93, e142_94, e142_97, e142_100, e142_101, e142_104, e142_105, e142_108, e142_109, e142_111, e142_113, e142_116, e142_119, e142_120, e142_121, e142_124, e142_126, e142_129, e142_130, e142_133, e142_136, e142_138, e142_139, e142_142, e142_143, e142_144, e142_147, e142_148, e142_151, e142_152, e142_153, e142_155, e142_156, e142_159, e142_160, e142_161, e142_164, e142_165, e142_166, e142_169, e142_173, e142_174, e142_177, e142_179, e142_182, e142_183, e142_186, e142_187, e142_190, e142_191, e142_193, e142_196, e142_197, e142_200, e142_201, e142_204, e142_205, e142_206, e142_209, e142_210, e142_213, e142_214, e142_217, e142_220, e142_221, e142_222, e142_225, e142_226, e142_229, e142_230, e142_233, e142_236, e142_237, e142_240, e142_241, e142_244, e142_245, e142_247, e142_250, e142_251, e142_254, e142_255, e142_258, e142_259, e142_262, e142_263, e142_266, e142_267, e142_268, e142_271, e142_272, e142_273, e142_276, ↓reduceIte, Nat.reduceAdd, Nat.reduceMul, nI_add, pk_mul, n_lt_t, n_lt_f, n_le_t, n_le_f, n_eq_f, n_eq_t, n_z_f, n_z_t, n_lz, n_zl, not_true_eq_false, not_false_eq_true, m5_15, m5_16, m5_n, ht.2.1, m5_u16, m5_u17, m5_u18, m5_u19]
end S64
