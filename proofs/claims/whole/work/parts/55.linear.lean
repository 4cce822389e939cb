/-! ===== numbers left over by 31 ===== -/
def ph (n : Nat) : Fin 31 := Fin.ofNat 31 n
theorem ph_mod (n : Nat) : ph (n % 31) = ph n := by
  apply Fin.ext
  simp [ph]
theorem ph_add (a b : Nat) : ph (a + b) = ph a + ph b := by
  apply Fin.ext
  simp [ph, Fin.val_add]
theorem ph_mul (a b : Nat) : ph (a * b) = ph a * ph b := by
  apply Fin.ext
  simp [ph, Fin.val_mul, Nat.mul_mod]
theorem ph_0 : ph 0 = 0 := rfl
theorem ph_1 : ph 1 = 1 := rfl
theorem ph_inj {a b : Nat} (ha : a < 31) (hb : b < 31) (h : ph a = ph b) : a = b := by
  have h1 := congrArg Fin.val h
  simp only [ph, Fin.ofNat] at h1
  omega
theorem ph_31 {a : Nat} (ha : a < 31) : ph (31 - a) = - ph a := by
  have h1 : ∀ a, a < 31 → ph (31 - a) = - ph a := by decide +kernel
  exact h1 a ha
theorem ph_ob {a : Nat} (ha : a < 31) (h0 : a ≠ 0) : ph a * ph (ob a) = 1 := by
  have h1 : ∀ a, a < 31 → a ≠ 0 → ph a * ph (ob a) = 1 := by decide +kernel
  exact h1 a ha h0
theorem ri1 (a b c d g : Fin 31) : (a + b + c + d) * g = a * g + b * g + c * g + d * g := by grind
theorem ri2 (a b c d e f x y z v : Fin 31) (h : a * b - c * d * e = f) : a * b + - (c * d) * e + x * y * z * v = f + z * (x * v * y) := by grind
/-! ===== the two squares ===== -/
theorem piv5 {R : Nat → Nat} {c f j i : Nat} (hi : i < 5) : piv 5 R c f (5 * j + i) = if j = c then R (5 * f + i) * ob (R (5 * f + c)) % 31 else if f ≠ c ∧ j = f then R (5 * c + i) else R (5 * j + i) := by
  simp only [piv]
  by_cases h1 : j = c
  · subst h1
    rw [if_pos (by omega), if_pos rfl, show 5 * j + i - 5 * j = i by omega]
  · rw [if_neg (by omega), if_neg h1]
    by_cases h2 : f ≠ c ∧ j = f
    · obtain ⟨h3, rfl⟩ := h2
      rw [if_pos ⟨h3, by omega, by omega⟩, if_pos ⟨h3, rfl⟩, show 5 * j + i - 5 * j = i by omega]
    · rw [if_neg (by omega), if_neg h2]
theorem piv8 {R : Nat → Nat} {c f j i : Nat} (hi : i < 8) : piv 8 R c f (8 * j + i) = if j = c then R (8 * f + i) * ob (R (8 * f + c)) % 31 else if f ≠ c ∧ j = f then R (8 * c + i) else R (8 * j + i) := by
  simp only [piv]
  by_cases h1 : j = c
  · subst h1
    rw [if_pos (by omega), if_pos rfl, show 8 * j + i - 8 * j = i by omega]
  · rw [if_neg (by omega), if_neg h1]
    by_cases h2 : f ≠ c ∧ j = f
    · obtain ⟨h3, rfl⟩ := h2
      rw [if_pos ⟨h3, by omega, by omega⟩, if_pos ⟨h3, rfl⟩, show 8 * j + i - 8 * j = i by omega]
    · rw [if_neg (by omega), if_neg h2]
theorem clr5 {R : Nat → Nat} {c j i : Nat} (hj : j < 4) (hi : i < 5) : clr 5 R c (5 * j + i) = if j ≠ c then (R (5 * j + i) + (31 - R (5 * j + c)) * R (5 * c + i)) % 31 else R (5 * j + i) := by
  simp only [clr]
  rw [show (5 * j + i) / 5 = j by omega, show (5 * j + i) % 5 = i by omega]
  by_cases h1 : j ≠ c
  · rw [if_pos ⟨by omega, h1⟩, if_pos h1]
  · rw [if_neg (fun z => h1 z.2), if_neg h1]
theorem clr8 {R : Nat → Nat} {c j i : Nat} (hj : j < 4) (hi : i < 8) : clr 8 R c (8 * j + i) = if j ≠ c then (R (8 * j + i) + (31 - R (8 * j + c)) * R (8 * c + i)) % 31 else R (8 * j + i) := by
  simp only [clr]
  rw [show (8 * j + i) / 8 = j by omega, show (8 * j + i) % 8 = i by omega]
  by_cases h1 : j ≠ c
  · rw [if_pos ⟨by omega, h1⟩, if_pos h1]
  · rw [if_neg (fun z => h1 z.2), if_neg h1]
/-- the class's square and the model's -/
def two (R Q : Nat → Nat) (S : Nat → Nat) : Prop := ∀ j, j < 4 → (∀ i, i < 4 → R (5 * j + i) = Q (8 * j + i)) ∧ R (5 * j + 4) = mdS Q (S 0) (S 1) (S 2) (S 3) j
theorem fnd_two {R Q S : Nat → Nat} {c : Nat} (h : two R Q S) (hc : c < 4) : ∀ n f, fnd R 5 c n f = fnd Q 8 c n f
  | 0, f => rfl
  | n + 1, f => by
    have ih := fnd_two h hc n (f + 1)
    simp only [fnd]
    by_cases hf : f < 4
    · rw [(h f hf).1 c hc, ih]
    · rw [if_neg (by omega), if_neg (by omega)]
theorem mdS_ph (Q : Nat → Nat) (a b c d j : Nat) : ph (mdS Q a b c d j) = ph (Q (8 * j + 4)) * ph a + ph (Q (8 * j + 5)) * ph b + ph (Q (8 * j + 6)) * ph c + ph (Q (8 * j + 7)) * ph d := by
  simp only [mdS, ph_mod, ph_add, ph_mul]
theorem piv_two {R Q S : Nat → Nat} {c f : Nat} (h : two R Q S) (hc : c < 4) (hf : f < 4) : two (piv 5 R c f) (piv 8 Q c f) S := by
  intro j hj
  have hfc := (h f hf).1 c hc
  refine ⟨fun i hi => ?_, ?_⟩
  · rw [piv5 (by omega), piv8 (by omega), hfc, (h f hf).1 i hi, (h c hc).1 i hi, (h j hj).1 i hi]
  · rw [piv5 (by omega)]
    by_cases h1 : j = c
    · refine ph_inj (by rw [if_pos h1]; exact Nat.mod_lt _ (by decide)) (mdS_lt _ _ _ _ _ _) ?_
      rw [if_pos h1, mdS_ph, piv8 (by omega), piv8 (by omega), piv8 (by omega), piv8 (by omega), if_pos h1, if_pos h1, if_pos h1, if_pos h1, hfc, (h f hf).2]
      simp only [ph_mod, ph_mul, mdS_ph]
      grind
    · rw [if_neg h1]
      simp only [mdS]
      rw [piv8 (by omega), piv8 (by omega), piv8 (by omega), piv8 (by omega), if_neg h1, if_neg h1, if_neg h1, if_neg h1]
      by_cases h2 : f ≠ c ∧ j = f
      · rw [if_pos h2, if_pos h2, if_pos h2, if_pos h2, if_pos h2, (h c hc).2]
        rfl
      · rw [if_neg h2, if_neg h2, if_neg h2, if_neg h2, if_neg h2, (h j hj).2]
        rfl
theorem clr_two {R Q S : Nat → Nat} {c : Nat} (h : two R Q S) (hc : c < 4) (hQ : ∀ x, x < 32 → Q x < 31) : two (clr 5 R c) (clr 8 Q c) S := by
  intro j hj
  have hjc := (h j hj).1 c hc
  have hq := hQ (8 * j + c) (by omega)
  refine ⟨fun i hi => ?_, ?_⟩
  · rw [clr5 hj (by omega), clr8 hj (by omega), hjc, (h j hj).1 i hi, (h c hc).1 i hi]
  · rw [clr5 hj (by omega)]
    by_cases h1 : j ≠ c
    · refine ph_inj (by rw [if_pos h1]; exact Nat.mod_lt _ (by decide)) (mdS_lt _ _ _ _ _ _) ?_
      rw [if_pos h1, mdS_ph, clr8 hj (by omega), clr8 hj (by omega), clr8 hj (by omega), clr8 hj (by omega), if_pos h1, if_pos h1, if_pos h1, if_pos h1, hjc, (h j hj).2, (h c hc).2]
      simp only [ph_mod, ph_mul, ph_add, mdS_ph]
      grind
    · rw [if_neg h1]
      simp only [mdS]
      rw [clr8 hj (by omega), clr8 hj (by omega), clr8 hj (by omega), clr8 hj (by omega), if_neg h1, if_neg h1, if_neg h1, if_neg h1, (h j hj).2]
      rfl
theorem el_two {R Q S : Nat → Nat} (h : two R Q S) (hQ : ∀ x, x < 32 → Q x < 31) : ∀ k, k ≤ 4 → (elS 5 R k = none ∧ elS 8 Q k = none) ∨ ∃ R' Q', elS 5 R k = some R' ∧ elS 8 Q k = some Q' ∧ two R' Q' S ∧ ∀ x, x < 32 → Q' x < 31
  | 0, _ => Or.inr ⟨R, Q, rfl, rfl, h, hQ⟩
  | k + 1, hk => by
    rcases el_two h hQ k (by omega) with ⟨h1, h2⟩ | ⟨R', Q', h1, h2, h3, h4⟩
    · left
      simp only [elS, h1, h2, and_self]
    · have hf := fnd_two h3 (show k < 4 by omega) 4 k
      obtain ⟨f1, f2, f3⟩ := fnd_spec (R := Q') (W := 8) (c := k) 4 k (by omega) (by omega)
      by_cases hc : fnd Q' 8 k 4 k = 4
      · left
        simp only [elS, h1, h2, hf, hc, if_true, and_self]
      · right
        have hp := piv_lt (W := 8) (c := k) (f := fnd Q' 8 k 4 k) h4 rfl (by omega) (by omega)
        refine ⟨clr 5 (piv 5 R' k (fnd Q' 8 k 4 k)) k, clr 8 (piv 8 Q' k (fnd Q' 8 k 4 k)) k, ?_, ?_, clr_two (piv_two h3 (by omega) (by omega)) (by omega) hp, clr_lt hp⟩
        · simp only [elS, h1, hf, hc, if_false]
        · simp only [elS, h2, hc, if_false]
/-! ===== what the square's end tells ===== -/
def dt (Q : Nat → Nat) (v : Nat → Fin 31) (j : Nat) : Fin 31 := ph (Q (8 * j)) * v 0 + ph (Q (8 * j + 1)) * v 1 + ph (Q (8 * j + 2)) * v 2 + ph (Q (8 * j + 3)) * v 3 + ph (Q (8 * j + 4)) * v 4 + ph (Q (8 * j + 5)) * v 5 + ph (Q (8 * j + 6)) * v 6 + ph (Q (8 * j + 7)) * v 7
theorem dt_piv {Q : Nat → Nat} {v : Nat → Fin 31} {c f j : Nat} : dt (piv 8 Q c f) v j = if j = c then ph (ob (Q (8 * f + c))) * dt Q v f else if f ≠ c ∧ j = f then dt Q v c else dt Q v j := by
  have h0 : piv 8 Q c f (8 * j) = if j = c then Q (8 * f + 0) * ob (Q (8 * f + c)) % 31 else if f ≠ c ∧ j = f then Q (8 * c + 0) else Q (8 * j + 0) := piv8 (i := 0) (by omega)
  simp only [dt]
  rw [h0, piv8 (by omega), piv8 (by omega), piv8 (by omega), piv8 (by omega), piv8 (by omega), piv8 (by omega), piv8 (by omega)]
  by_cases h1 : j = c
  · simp only [if_pos h1, ph_mod, ph_mul, Nat.add_zero]
    grind
  · by_cases h2 : f ≠ c ∧ j = f
    · simp only [if_neg h1, if_pos h2, Nat.add_zero]
    · simp only [if_neg h1, if_neg h2, Nat.add_zero]
theorem dt_clr {Q : Nat → Nat} {v : Nat → Fin 31} {c j : Nat} (hj : j < 4) (hc : c < 4) (hQ : ∀ x, x < 32 → Q x < 31) : dt (clr 8 Q c) v j = if j ≠ c then dt Q v j - ph (Q (8 * j + c)) * dt Q v c else dt Q v j := by
  have h0 : clr 8 Q c (8 * j) = if j ≠ c then (Q (8 * j + 0) + (31 - Q (8 * j + c)) * Q (8 * c + 0)) % 31 else Q (8 * j + 0) := clr8 (i := 0) hj (by omega)
  have hq := hQ (8 * j + c) (by omega)
  simp only [dt]
  rw [h0, clr8 hj (by omega), clr8 hj (by omega), clr8 hj (by omega), clr8 hj (by omega), clr8 hj (by omega), clr8 hj (by omega), clr8 hj (by omega)]
  by_cases h1 : j ≠ c
  · simp only [if_pos h1, ph_mod, ph_mul, ph_add, ph_31 hq, Nat.add_zero]
    grind
  · simp only [if_neg h1, Nat.add_zero]
theorem dt_step {Q : Nat → Nat} {v : Nat → Fin 31} {c f : Nat} (hc : c < 4) (hf : f < 4) (hQ : ∀ x, x < 32 → Q x < 31) (h0 : Q (8 * f + c) ≠ 0) : (∀ j, j < 4 → dt (clr 8 (piv 8 Q c f) c) v j = 0) ↔ ∀ j, j < 4 → dt Q v j = 0 := by
  have hp := piv_lt (W := 8) (c := c) (f := f) hQ rfl hc hf
  have hg := ph_ob (hQ (8 * f + c) (by omega)) h0
  have e1 : ∀ j, j < 4 → dt (clr 8 (piv 8 Q c f) c) v j = if j ≠ c then dt (piv 8 Q c f) v j - ph (piv 8 Q c f (8 * j + c)) * dt (piv 8 Q c f) v c else dt (piv 8 Q c f) v j := fun j hj => dt_clr hj hc hp
  have e2 : ∀ j, dt (piv 8 Q c f) v j = if j = c then ph (ob (Q (8 * f + c))) * dt Q v f else if f ≠ c ∧ j = f then dt Q v c else dt Q v j := fun j => dt_piv
  have e2c : dt (piv 8 Q c f) v c = ph (ob (Q (8 * f + c))) * dt Q v f := by rw [e2, if_pos rfl]
  constructor
  · intro h
    have hcc := h c hc
    rw [e1 c hc, if_neg (fun z => z rfl), e2c] at hcc
    have hF : dt Q v f = 0 := by grind
    have hall : ∀ j, j < 4 → dt (piv 8 Q c f) v j = 0 := by
      intro j hj
      have hj0 := h j hj
      rw [e1 j hj] at hj0
      by_cases hjc : j ≠ c
      · rw [if_pos hjc, e2c, hF] at hj0
        grind
      · rw [if_neg hjc] at hj0; exact hj0
    intro j hj
    by_cases hjf : j = f
    · subst hjf; exact hF
    · by_cases hjc : j = c
      · subst hjc
        have h3 := hall f hf
        rw [e2 f, if_neg (fun z => hjf z.symm), if_pos ⟨fun z => hjf z.symm, rfl⟩] at h3
        exact h3
      · have h3 := hall j hj
        rw [e2 j, if_neg hjc, if_neg (fun z => hjf z.2)] at h3
        exact h3
  · intro h
    have hall : ∀ j, j < 4 → dt (piv 8 Q c f) v j = 0 := by
      intro j hj
      rw [e2 j, h f hf, h c hc, h j hj]
      grind
    intro j hj
    rw [e1 j hj, hall j hj, hall c hc]
    grind
/-- the first k columns are done -/
def idn (Q : Nat → Nat) (k : Nat) : Prop := ∀ c, c < k → ∀ j, j < 4 → Q (8 * j + c) = if j = c then 1 else 0
theorem idn_step {Q : Nat → Nat} {k f : Nat} (h : idn Q k) (hk : k < 4) (hkf : k ≤ f) (hf : f < 4) (hQ : ∀ x, x < 32 → Q x < 31) (h0 : Q (8 * f + k) ≠ 0) : idn (clr 8 (piv 8 Q k f) k) (k + 1) := by
  intro c hc j hj
  have hq := hQ (8 * f + k) (by omega)
  have hob : Q (8 * f + k) * ob (Q (8 * f + k)) % 31 = 1 := by
    have h1 : ∀ a, a < 31 → a ≠ 0 → a * ob a % 31 = 1 := by decide +kernel
    exact h1 _ hq h0
  have hp := piv_lt (W := 8) (c := k) (f := f) hQ rfl hk hf
  by_cases hck : c = k
  · subst hck
    rw [clr8 hj (by omega)]
    have e1 : piv 8 Q c f (8 * c + c) = 1 := by rw [piv8 (by omega), if_pos rfl, hob]
    by_cases hjc : j = c
    · subst hjc
      rw [if_neg (fun z => z rfl), e1, if_pos rfl]
    · rw [if_pos hjc, e1, if_neg hjc]
      have := hp (8 * j + c) (by omega)
      omega
  · have hc2 : c < k := by omega
    have ef : Q (8 * f + c) = 0 := by rw [h c hc2 f hf, if_neg (by omega)]
    have ek : Q (8 * k + c) = 0 := by rw [h c hc2 k hk, if_neg (by omega)]
    have p1 : ∀ j, j < 4 → piv 8 Q k f (8 * j + c) = if j = c then 1 else 0 := by
      intro j hj
      rw [piv8 (by omega), ef, ek]
      by_cases hjk : j = k
      · rw [if_pos hjk, if_neg (by omega)]; simp
      · rw [if_neg hjk]
        by_cases h2 : f ≠ k ∧ j = f
        · rw [if_pos h2, if_neg (by omega)]
        · rw [if_neg h2, h c hc2 j hj]
    rw [clr8 hj (by omega), p1 j hj, p1 k hk, if_neg (by omega : ¬ k = c)]
    by_cases hjk : j ≠ k
    · rw [if_pos hjk]
      by_cases hjc : j = c
      · rw [if_pos hjc]; simp
      · rw [if_neg hjc]; simp
    · rw [if_neg hjk]
theorem el_end {Q : Nat → Nat} {v : Nat → Fin 31} (hQ : ∀ x, x < 32 → Q x < 31) : ∀ k, k ≤ 4 → ∀ Q', elS 8 Q k = some Q' → (∀ x, x < 32 → Q' x < 31) ∧ idn Q' k ∧ ((∀ j, j < 4 → dt Q' v j = 0) ↔ ∀ j, j < 4 → dt Q v j = 0)
  | 0, _, Q', h => by
    simp only [elS, Option.some.injEq] at h
    subst h
    exact ⟨hQ, fun c hc => absurd hc (by omega), Iff.rfl⟩
  | k + 1, hk, Q', h => by
    cases hk0 : elS 8 Q k with
    | none => simp only [elS, hk0] at h; exact absurd h (by simp)
    | some R =>
      obtain ⟨a1, a2, a3⟩ := el_end (v := v) hQ k (by omega) R hk0
      obtain ⟨f1, f2, f3⟩ := fnd_spec (R := R) (W := 8) (c := k) 4 k (by omega) (by omega)
      by_cases hf : fnd R 8 k 4 k = 4
      · simp only [elS, hk0, hf, if_true] at h; exact absurd h (by simp)
      · simp only [elS, hk0, hf, if_false, Option.some.injEq] at h
        subst h
        have f4 : fnd R 8 k 4 k < 4 := by omega
        exact ⟨clr_lt (piv_lt a1 rfl (by omega) f4), idn_step a2 (by omega) f1 f4 a1 (f3 f4), (dt_step (by omega) f4 a1 (f3 f4)).trans a3⟩
