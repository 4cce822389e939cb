/-! ===== the pure machine's memory over the heap ===== -/
def q_A (base : Nat) : Nat → Prop := fun q => base ≤ q
def q_rl (base : Nat) (T : Nat → Nat) : Value → Value
  | .ref k => .ref (base + k)
  | .float u => .ref (T u.toNat)
  | v => v
def q_fv (base : Nat) (w : q_M) (a i t : Nat) : Value := if t = 0 then .int (w.2.1 a i) else if t = 1 then va_rf ((w.2.2.1 a i).map (fun r => base + r)) else .long (w.2.2.2 a)
def q_fl (base : Nat) (w : q_M) (a k : Nat) : List Value := (q_ft k).mapIdx (fun i t => q_fv base w a i t)
def q_cell (base : Nat) (cI cZ cD : ClassId) (w : q_M) (a : Nat) : va_E := match w.1[a]? with
  | none => .inr (0, [])
  | some (k, n) => if k = 9 then .inl (cI, n, .inl (w.2.1 a)) else if k = 10 then .inl (cZ, n, .inl (w.2.1 a)) else if k = 11 then .inl (cD, n, .inr (.inr (.inr (.inr (fun i => (w.2.2.1 a i).map (fun r => base + r)))))) else .inr (k, q_fl base w a k)
def q_ws (base : Nat) (cI cZ cD : ClassId) (w : q_M) : va_W := (List.range w.1.length).map (fun a => (base + a, q_cell base cI cZ cD w a))
section QW
variable {base : Nat} {cI cZ cD : ClassId} {w w' : q_M}
theorem q_ws_at {a : Nat} (h : a < w.1.length) : (q_ws base cI cZ cD w)[a]? = some (base + a, q_cell base cI cZ cD w a) := by
  unfold q_ws
  rw [List.getElem?_map, List.getElem?_range h]
  rfl
theorem q_ws_of {a : Nat} {q : Nat × va_E} (h : (q_ws base cI cZ cD w)[a]? = some q) : a < w.1.length ∧ q = (base + a, q_cell base cI cZ cD w a) := by
  have hl : a < w.1.length := by
    have := (List.getElem?_eq_some_iff.mp h).1
    simpa [q_ws] using this
  rw [q_ws_at hl] at h
  exact ⟨hl, (Option.some.inj h).symm⟩
theorem q_ws_len : (q_ws base cI cZ cD w).length = w.1.length := by simp [q_ws]
theorem q_ws_D : va_D (q_A base) (q_ws base cI cZ cD w) := by
  refine ⟨fun i j p q hi hj hpq => ?_, fun k q hk => ?_⟩
  · obtain ⟨-, rfl⟩ := q_ws_of hi
    obtain ⟨-, rfl⟩ := q_ws_of hj
    have : base + i = base + j := hpq
    omega
  · obtain ⟨-, rfl⟩ := q_ws_of hk
    show base ≤ base + k
    omega
theorem q_cell_same {b : Nat} (hK : w'.1[b]? = w.1[b]?) (h1 : w'.2.1 b = w.2.1 b) (h2 : w'.2.2.1 b = w.2.2.1 b) (h3 : w'.2.2.2 b = w.2.2.2 b) : q_cell base cI cZ cD w' b = q_cell base cI cZ cD w b := by
  unfold q_cell q_fl q_fv
  rw [hK, h1, h2, h3]
theorem q_ws_upd {a : Nat} (hK : w'.1 = w.1) (ho : ∀ b, b ≠ a → w'.2.1 b = w.2.1 b ∧ w'.2.2.1 b = w.2.2.1 b ∧ w'.2.2.2 b = w.2.2.2 b) : (q_ws base cI cZ cD w).set a (base + a, q_cell base cI cZ cD w' a) = q_ws base cI cZ cD w' := by
  apply List.ext_getElem?
  intro i
  by_cases hi : i < w.1.length
  · have hi' : i < w'.1.length := by rw [hK]; exact hi
    rw [q_ws_at hi']
    by_cases hia : i = a
    · subst hia
      rw [List.getElem?_set_self (by rw [q_ws_len]; exact hi)]
    · rw [List.getElem?_set_ne (Ne.symm hia), q_ws_at hi]
      obtain ⟨h1, h2, h3⟩ := ho i hia
      rw [q_cell_same (by rw [hK]) h1 h2 h3]
  · rw [List.getElem?_eq_none (by rw [List.length_set, q_ws_len]; omega), List.getElem?_eq_none (by rw [q_ws_len, hK]; omega)]
theorem q_ws_nw {k n : Nat} : q_ws base cI cZ cD (q_nw w k n) = q_ws base cI cZ cD w ++ [(base + w.1.length, q_cell base cI cZ cD (q_nw w k n) w.1.length)] := by
  unfold q_ws
  have hl : (q_nw w k n).1.length = w.1.length + 1 := by simp [q_nw]
  rw [hl, List.range_succ, List.map_append]
  congr 1
  apply List.map_congr_left
  intro b hb
  have hb' : b < w.1.length := List.mem_range.mp hb
  have hne : b ≠ w.1.length := by omega
  rw [q_cell_same (w := w)]
  · show (w.1 ++ [(k, n)])[b]? = _
    rw [List.getElem?_append_left hb']
  · exact va_up_ne _ _ hne
  · exact va_up_ne _ _ hne
  · exact va_up_ne _ _ hne
theorem q_fl_at {a ci k t : Nat} (h : (q_ft ci)[k]? = some t) : (q_fl base w a ci)[k]? = some (q_fv base w a k t) := by
  unfold q_fl
  rw [List.getElem?_mapIdx, h]
  rfl
theorem q_fl_set {a ci k t : Nat} {v : Value} (h : (q_ft ci)[k]? = some t) (hv : q_fv base w' a k t = v) (ho : ∀ i u, i ≠ k → (q_ft ci)[i]? = some u → q_fv base w' a i u = q_fv base w a i u) : (q_fl base w a ci).set k v = q_fl base w' a ci := by
  apply List.ext_getElem?
  intro i
  have hk : k < (q_ft ci).length := (List.getElem?_eq_some_iff.mp h).1
  have hlen : ∀ w : q_M, (q_fl base w a ci).length = (q_ft ci).length := fun w => by simp [q_fl]
  by_cases hi : i = k
  · subst hi
    rw [List.getElem?_set_self (by rw [hlen]; exact hk), q_fl_at h, hv]
  · rw [List.getElem?_set_ne (Ne.symm hi)]
    unfold q_fl
    rw [List.getElem?_mapIdx, List.getElem?_mapIdx]
    cases hu : (q_ft ci)[i]? with
    | none => rfl
    | some u => exact congrArg some (ho i u hi hu).symm
theorem q_cell_obj {a ci n : Nat} (h : w.1[a]? = some (ci, n)) (hc : ci < 9) : q_cell base cI cZ cD w a = .inr (ci, q_fl base w a ci) := by
  unfold q_cell
  rw [h]
  dsimp only
  rw [if_neg (by omega), if_neg (by omega), if_neg (by omega)]
theorem q_cell_I {a n : Nat} (h : w.1[a]? = some (9, n)) : q_cell base cI cZ cD w a = .inl (cI, n, .inl (w.2.1 a)) := by
  unfold q_cell
  rw [h]
  rfl
theorem q_cell_Z {a n : Nat} (h : w.1[a]? = some (10, n)) : q_cell base cI cZ cD w a = .inl (cZ, n, .inl (w.2.1 a)) := by
  unfold q_cell
  rw [h]
  rfl
theorem q_cell_D {a n : Nat} (h : w.1[a]? = some (11, n)) : q_cell base cI cZ cD w a = .inl (cD, n, .inr (.inr (.inr (.inr (fun i => (w.2.2.1 a i).map (fun r => base + r)))))) := by
  unfold q_cell
  rw [h]
  rfl
theorem q_lt_of {K : q_K} {a : Nat} {x : Nat × Nat} (h : K[a]? = some x) : a < K.length := (List.getElem?_eq_some_iff.mp h).1
theorem q_fst_of {K : q_K} {a c : Nat} (h : (K[a]?).map Prod.fst = some c) : ∃ n, K[a]? = some (c, n) := by
  cases hk : K[a]? with
  | none => rw [hk] at h; cases h
  | some x =>
    rw [hk] at h
    obtain ⟨x, n⟩ := x
    cases h
    exact ⟨n, rfl⟩
end QW
/-! ===== locals ===== -/
def q_Lo (base : Nat) (T : Nat → Nat) (M : Nat) (L : List Value) (ls : Array Slot) : Prop := L.length = q_ml M ∧ ls.size = q_ml M ∧ lv_wf ls ∧ (∀ (k : Nat) (v : Value), L[k]? = some v → v ≠ .null → ls[k]? = some (.val (q_rl base T v))) ∧ ∀ (k : Nat) (v : Value), L[k]? = some v → v.category = 2 → M = 19 ∧ k = 1
def q_lvl (base : Nat) (T : Nat → Nat) (L : List Value) : List (Nat × Value) := (L.mapIdx (fun i v => (i, v))).filterMap (fun q => if q.2 = .null then none else some (q.1, q_rl base T q.2))
section QL
variable {base : Nat} {T : Nat → Nat} {M : Nat} {L : List Value} {ls : Array Slot}
theorem q_lvl_of {q : Nat × Value} (h : q ∈ q_lvl base T L) : ∃ v, L[q.1]? = some v ∧ v ≠ .null ∧ q.2 = q_rl base T v := by
  obtain ⟨x, hx, hq⟩ := List.mem_filterMap.mp h
  obtain ⟨i, hi⟩ := List.getElem?_of_mem hx
  rw [List.getElem?_mapIdx] at hi
  cases hL : L[i]? with
  | none => rw [hL] at hi; cases hi
  | some v =>
    rw [hL] at hi
    cases hi
    dsimp only at hq
    by_cases hv : v = .null
    · rw [if_pos hv] at hq; cases hq
    · rw [if_neg hv] at hq
      cases hq
      exact ⟨v, hL, hv, rfl⟩
theorem q_lvl_in {k : Nat} {v : Value} (h : L[k]? = some v) (hv : v ≠ .null) : (k, q_rl base T v) ∈ q_lvl base T L := by
  refine List.mem_filterMap.mpr ⟨(k, v), ?_, if_neg hv⟩
  refine List.mem_of_getElem? (i := k) ?_
  rw [List.getElem?_mapIdx, h]
  rfl
theorem q_Lo_has (h : q_Lo base T M L ls) : lv_has ls (q_ml M) (q_lvl base T L) := by
  refine ⟨h.2.1, h.2.2.1, fun q hq => ?_⟩
  obtain ⟨v, h1, h2, h3⟩ := q_lvl_of hq
  rw [h3]
  exact h.2.2.2.1 q.1 v h1 h2
theorem q_Lo_at (h : q_Lo base T M L ls) {k : Nat} {v : Value} (hk : L[k]? = some v) (hv : v ≠ .null) : ls[k]? = some (.val (q_rl base T v)) := h.2.2.2.1 k v hk hv
theorem q_rl_cat (v : Value) : (q_rl base T v).category = v.category := by cases v <;> rfl
theorem q_rl_null {v : Value} (h : v ≠ .null) : q_rl base T v ≠ .null := by cases v <;> simp_all [q_rl]
theorem q_st1_len {i : Nat} {u : Value} : (q_st1 L i u).length = L.length := by
  unfold q_st1
  simp
theorem q_st1_at {i k : Nat} {u z : Value} (hi : i < L.length) (h : (q_st1 L i u)[k]? = some z) : (k = i ∧ z = u) ∨ (k ≠ i ∧ L[k]? = some z) := by
  unfold q_st1 at h
  by_cases hk : k = i
  · subst hk
    rw [List.getElem?_set_self hi] at h
    exact Or.inl ⟨rfl, (Option.some.inj h).symm⟩
  · rw [List.getElem?_set_ne (Ne.symm hk)] at h
    exact Or.inr ⟨hk, h⟩
theorem q_Lo_st1 {i : Nat} {u : Value} {ls' : Array Slot} (h : q_Lo base T M L ls) (hi : i < L.length ∧ ¬ (M = 19 ∧ i = 2)) (hu : u.category = 1) (h' : lv_has ls' (q_ml M) ((i, q_rl base T u) :: (q_lvl base T L).filter (fun q => !(q.1 == i) && !(q.1 + 1 == i && q.2.category == 2)))) : q_Lo base T M (q_st1 L i u) ls' := by
  refine ⟨by rw [q_st1_len]; exact h.1, h'.1, h'.2.1, fun k z hk hz => ?_, fun k z hk hz => ?_⟩
  · rcases q_st1_at hi.1 hk with ⟨rfl, rfl⟩ | ⟨h1, h2⟩
    · exact h'.2.2 _ List.mem_cons_self
    · refine h'.2.2 (k, q_rl base T z) (List.mem_cons_of_mem _ (List.mem_filter.mpr ⟨q_lvl_in h2 hz, ?_⟩))
      simp only [q_rl_cat, Bool.and_eq_true, Bool.not_eq_true', beq_eq_false_iff_ne, ne_eq, Bool.and_eq_false_iff]
      refine ⟨h1, ?_⟩
      by_cases hz2 : z.category = 2
      · obtain ⟨a, b⟩ := h.2.2.2.2 k z h2 hz2
        exact Or.inl (fun q => hi.2 ⟨a, by omega⟩)
      · exact Or.inr hz2
  · rcases q_st1_at hi.1 hk with ⟨rfl, rfl⟩ | ⟨h1, h2⟩
    · omega
    · exact h.2.2.2.2 k z h2 hz
theorem q_Lo_st2 {i : Nat} {u : Value} {ls' : Array Slot} (h : q_Lo base T M L ls) (hi : i + 1 < L.length ∧ M = 19 ∧ i = 1) (h' : lv_has ls' (q_ml M) ((i, q_rl base T u) :: (q_lvl base T L).filter (fun q => !(q.1 == i) && (!(q.1 == i + 1) && !(q.1 + 1 == i && q.2.category == 2))))) : q_Lo base T M (q_st2 L i u) ls' := by
  have key : ∀ (k : Nat) (z : Value), (q_st2 L i u)[k]? = some z → (k = i + 1 ∧ z = .null) ∨ (k = i ∧ z = u) ∨ (k ≠ i + 1 ∧ k ≠ i ∧ L[k]? = some z) := by
    intro k z hk
    unfold q_st2 at hk
    by_cases hk1 : k = i + 1
    · subst hk1
      rw [List.getElem?_set_self (by rw [List.length_set]; exact hi.1)] at hk
      exact Or.inl ⟨rfl, (Option.some.inj hk).symm⟩
    · rw [List.getElem?_set_ne (Ne.symm hk1)] at hk
      rcases q_st1_at (by omega) hk with ⟨rfl, rfl⟩ | ⟨h1, h2⟩
      · exact Or.inr (Or.inl ⟨rfl, rfl⟩)
      · exact Or.inr (Or.inr ⟨hk1, h1, h2⟩)
  refine ⟨by unfold q_st2; rw [List.length_set, List.length_set]; exact h.1, h'.1, h'.2.1, fun k z hk hz => ?_, fun k z hk hz => ?_⟩
  · rcases key k z hk with ⟨rfl, rfl⟩ | ⟨rfl, rfl⟩ | ⟨h0, h1, h2⟩
    · exact absurd rfl hz
    · exact h'.2.2 _ List.mem_cons_self
    · refine h'.2.2 (k, q_rl base T z) (List.mem_cons_of_mem _ (List.mem_filter.mpr ⟨q_lvl_in h2 hz, ?_⟩))
      simp only [q_rl_cat, Bool.and_eq_true, Bool.not_eq_true', beq_eq_false_iff_ne, ne_eq, Bool.and_eq_false_iff]
      refine ⟨h1, h0, ?_⟩
      by_cases hz2 : z.category = 2
      · exact absurd (h.2.2.2.2 k z h2 hz2).2 (by omega)
      · exact Or.inr hz2
  · rcases key k z hk with ⟨rfl, rfl⟩ | ⟨rfl, rfl⟩ | ⟨h0, h1, h2⟩
    · simp [Value.category] at hz
    · exact hi.2
    · exact h.2.2.2.2 k z h2 hz
end QL
