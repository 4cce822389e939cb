/-! ===== the class's cells and the model's ===== -/
def dR (F : Nat → Nat → Int32) (d : Nat) (r : Nat → Nat) : Prop := F d 0 = nI (r 0) ∧ ∀ i, i < 16 → F (d + 1) i = nI (r (1 + i)) ∧ F (d + 2) i = nI (r (17 + i)) ∧ F (d + 3) i = nI (r (45 + i)) ∧ (i < 12 → F (d + 4) i = nI (r (33 + i)))
def mR (F : Nat → Nat → Int32) (a c : Nat) (r : Nat → Nat) : Prop := ∀ i, i < 61 → F a (c + i) = nI (r i)
def okR (r : Nat → Nat) : Prop := r 0 < 16 ∧ ∀ i, i < 16 → r (1 + i) < 31 ∧ r (17 + i) < 31 ∧ r (45 + i) < 31 ∧ (i < 12 → r (33 + i) ≤ 12)
def RT (t : Nat) (F : Nat → Nat → Int32) : Prop := ∃ T, tR F t T ∧ (∀ i, i < 49 → F 73 i = nI (T i)) ∧ okT T
def RN (F : Nat → Nat → Int32) : Prop := ∃ N, dR F 13 N ∧ mR F 75 0 N ∧ okR N
def RP (F : Nat → Nat → Int32) : Prop := ∃ (x p : Nat) (H : Nat → Nat → Nat), x < 6 ∧ p ≤ 6 ∧ F 18 1 = nI x ∧ F 18 2 = nI p ∧ F 72 4 = nI p ∧ ∀ m, m < p → dR F (20 + 5 * ((x + 6 - p + m) % 6)) (H m) ∧ mR F 76 (61 * m) (H m) ∧ okR (H m)
def RI (F : Nat → Nat → Int32) : Prop := ∃ (kk : Nat) (I : Nat → Nat → Nat), kk < 4 ∧ F 0 9 = nI kk ∧ (∀ m, m < 2 → F 78 m = nI (bt kk m)) ∧ ∀ m, m < 2 → bt kk m = 1 → dR F (62 + 5 * m) (I m) ∧ mR F 77 (61 * m) (I m) ∧ okR (I m)
def RY (F : Nat → Nat → Int32) : Prop := ∃ (n : Nat) (A S W : Nat → Nat), n ≤ 8 ∧ F 57 2 = nI n ∧ F 72 10 = nI n ∧ ∀ k, k < n → ((A k < 4 ∧ S k < 16 ∧ W k < 2) ∧ F 82 k = nI (A k) ∧ F 83 k = nI (S k) ∧ F 84 k = nI (W k)) ∧ F 58 k = nI (S k * 2 ^ (4 * A k)) ∧ F 59 k = nI (W k)
def RX (F : Nat → Nat → Int32) : Prop := ∃ (l : Nat) (x : Nat → Nat), tx F x l ∧ mt F x l
def RS (F : Nat → Nat → Int32) : Prop := ∃ R, rowN (F 53) R 20 31
def Rtu (t u : Nat) : Prop := (t = 3 ∧ u = 8) ∨ (t = 8 ∧ u = 3)
def Rel (t u : Nat) (F : Nat → Nat → Int32) : Prop := Rtu t u ∧ RT t F ∧ RN F ∧ RP F ∧ RI F ∧ RY F ∧ RX F ∧ RS F
section S70
variable {F G : Nat → Nat → Int32} {t u : Nat}
theorem Rtu_t (h : Rtu t u) : q_isT t = true ∧ q_isT u = true := by
  rcases h with ⟨rfl, rfl⟩ | ⟨rfl, rfl⟩ <;> exact ⟨rfl, rfl⟩
theorem dR_n {d : Nat} {r : Nat → Nat} (h : ∀ b i, d ≤ b → b ≤ d + 4 → G b i = F b i) (hr : dR F d r) : dR G d r := by
  refine ⟨by rw [h d 0 (by omega) (by omega)]; exact hr.1, fun i hi => ?_⟩
  obtain ⟨h1, h2, h3, h4⟩ := hr.2 i hi
  refine ⟨by rw [h _ _ (by omega) (by omega)]; exact h1, by rw [h _ _ (by omega) (by omega)]; exact h2, by rw [h _ _ (by omega) (by omega)]; exact h3, fun h12 => by rw [h _ _ (by omega) (by omega)]; exact h4 h12⟩
theorem mR_n {a c : Nat} {r : Nat → Nat} (h : ∀ i, G a i = F a i) (hr : mR F a c r) : mR G a c r := fun i hi => by rw [h]; exact hr i hi
theorem RT_n (h : ∀ b i, b = 73 ∨ (t ≤ b ∧ b ≤ t + 4) → G b i = F b i) (hr : RT t F) : RT t G := by
  obtain ⟨T, ⟨h1, h2, h3, h4, h5⟩, h6, h7⟩ := hr
  refine ⟨T, ⟨fun i hi => ?_, fun i hi => ?_, fun i hi => ?_, fun i hi => ?_, ?_⟩, fun i hi => ?_, h7⟩
  · rw [h _ _ (by omega)]; exact h1 i hi
  · rw [h _ _ (by omega)]; exact h2 i hi
  · rw [h _ _ (by omega)]; exact h3 i hi
  · rw [h _ _ (by omega)]; exact h4 i hi
  · rw [h _ _ (by omega)]; exact h5
  · rw [h _ _ (by omega)]; exact h6 i hi
theorem RN_n (h : ∀ b i, (13 ≤ b ∧ b ≤ 17) ∨ b = 75 → G b i = F b i) (hr : RN F) : RN G := by
  obtain ⟨N, h1, h2, h3⟩ := hr
  exact ⟨N, dR_n (fun b i h1 h2 => h b i (by omega)) h1, mR_n (fun i => h 75 i (by omega)) h2, h3⟩
theorem RP_n (h : ∀ b i, b = 18 ∨ (20 ≤ b ∧ b ≤ 49) ∨ b = 76 ∨ (b = 72 ∧ i = 4) → G b i = F b i) (hr : RP F) : RP G := by
  obtain ⟨x, p, H, h1, h2, h3, h4, h5, h6⟩ := hr
  refine ⟨x, p, H, h1, h2, by rw [h _ _ (by omega)]; exact h3, by rw [h _ _ (by omega)]; exact h4, by rw [h _ _ (by omega)]; exact h5, fun m hm => ?_⟩
  obtain ⟨a1, a2, a3⟩ := h6 m hm
  exact ⟨dR_n (fun b i h1 h2 => h b i (by omega)) a1, mR_n (fun i => h 76 i (by omega)) a2, a3⟩
theorem RI_n (h : ∀ b i, (b = 0 ∧ i = 9) ∨ (62 ≤ b ∧ b ≤ 71) ∨ b = 77 ∨ b = 78 → G b i = F b i) (hr : RI F) : RI G := by
  obtain ⟨kk, I, h1, h2, h3, h4⟩ := hr
  refine ⟨kk, I, h1, by rw [h _ _ (by omega)]; exact h2, fun m hm => by rw [h _ _ (by omega)]; exact h3 m hm, fun m hm hk => ?_⟩
  obtain ⟨a1, a2, a3⟩ := h4 m hm hk
  exact ⟨dR_n (fun b i h1 h2 => h b i (by omega)) a1, mR_n (fun i => h 77 i (by omega)) a2, a3⟩
theorem RY_n (h : ∀ b i, (57 ≤ b ∧ b ≤ 59) ∨ (82 ≤ b ∧ b ≤ 84) ∨ (b = 72 ∧ i = 10) → G b i = F b i) (hr : RY F) : RY G := by
  obtain ⟨n, A, S, W, h1, h2, h3, h4⟩ := hr
  refine ⟨n, A, S, W, h1, by rw [h _ _ (by omega)]; exact h2, by rw [h _ _ (by omega)]; exact h3, fun k hk => ?_⟩
  rw [h 82 k (by omega), h 83 k (by omega), h 84 k (by omega), h 58 k (by omega), h 59 k (by omega)]
  exact h4 k hk
theorem RX_n (h : ∀ b i, (b = 1 ∧ i = 1) ∨ b = 2 ∨ (b = 72 ∧ i = 15) ∨ b = 85 → G b i = F b i) (hr : RX F) : RX G := by
  obtain ⟨l, x, ⟨h1, h2, h3, h4⟩, h5, h6, h7, h8⟩ := hr
  refine ⟨l, x, ⟨h1, by rw [h _ _ (by omega)]; exact h2, fun i hi => by rw [h _ _ (by omega)]; exact h3 i hi, h4⟩, h5, by rw [h _ _ (by omega)]; exact h6, fun i hi => by rw [h _ _ (by omega)]; exact h7 i hi, h8⟩
theorem RS_n (h : ∀ i, G 53 i = F 53 i) (hr : RS F) : RS G := by
  obtain ⟨R, h1⟩ := hr
  exact ⟨R, fun i hi => by rw [h]; exact h1 i hi⟩
/-- what was done is remembered -/
theorem RP_note {x p : Nat} {H : Nat → Nat → Nat} {N : Nat → Nat} (hx : x < 6) (hp : p ≤ 6) (hH : ∀ m, m < p → dR F (20 + 5 * ((x + 6 - p + m) % 6)) (H m) ∧ mR F 76 (61 * m) (H m) ∧ okR (H m)) (hD : dR F 13 N) (hM : mR F 75 0 N) (hN : okR N) (g1 : G 18 1 = nI ((x + 1) % 6)) (g2 : G 18 2 = nI (if p < 6 then p + 1 else 6)) (g3 : G 72 4 = nI (if p < 6 then p + 1 else 6)) (g4 : ∀ b i, 20 ≤ b → b ≤ 49 → G b i = cpD F (20 + 5 * x) 13 b i) (g5 : ∀ i, G 76 i = ntM F p 76 i) : RP G := by
  have hnew : dR G (20 + 5 * x) N := by
    refine ⟨?_, fun i hi => ?_⟩
    · rw [g4 _ _ (by omega) (by omega), ← hD.1]; simp only [cpD]; rw [if_pos ⟨trivial, trivial⟩]
    · obtain ⟨d1, d2, d3, d4⟩ := hD.2 i hi
      refine ⟨?_, ?_, ?_, fun h12 => ?_⟩
      · rw [g4 _ _ (by omega) (by omega), ← d1]; simp only [cpD]; rw [if_neg (by omega), if_pos ⟨trivial, hi⟩]
      · rw [g4 _ _ (by omega) (by omega), ← d2]; simp only [cpD]; rw [if_neg (by omega), if_neg (by omega), if_pos ⟨trivial, hi⟩]
      · rw [g4 _ _ (by omega) (by omega), ← d3]; simp only [cpD]; rw [if_neg (by omega), if_neg (by omega), if_neg (by omega), if_pos ⟨trivial, hi⟩]
      · rw [g4 _ _ (by omega) (by omega), ← d4 h12]; simp only [cpD]; rw [if_neg (by omega), if_neg (by omega), if_neg (by omega), if_neg (by omega), if_pos ⟨trivial, h12⟩]
  have hold : ∀ y, y < 6 → y ≠ x → ∀ r, dR F (20 + 5 * y) r → dR G (20 + 5 * y) r := by
    intro y hy hyx r hr
    refine dR_n (fun b i h1 h2 => ?_) hr
    rw [g4 b i (by omega) (by omega)]
    simp only [cpD]
    rw [if_neg (by omega), if_neg (by omega), if_neg (by omega), if_neg (by omega), if_neg (by omega)]
  by_cases h6 : p < 6
  · rw [if_pos h6] at g2 g3
    refine ⟨(x + 1) % 6, p + 1, fun m => if m < p then H m else N, Nat.mod_lt _ (by omega), by omega, g1, g2, g3, fun m hm => ?_⟩
    by_cases hmp : m < p
    · obtain ⟨a1, a2, a3⟩ := hH m hmp
      have e1 : ((x + 1) % 6 + 6 - (p + 1) + m) % 6 = (x + 6 - p + m) % 6 := by omega
      rw [e1]
      simp only [if_pos hmp]
      refine ⟨hold _ (by omega) (by omega) _ a1, fun i hi => ?_, a3⟩
      rw [g5, ← a2 i hi]
      simp only [ntM, if_pos h6]
      rw [if_neg (by omega), if_neg (by omega)]
    · obtain rfl : m = p := by omega
      have e1 : ((x + 1) % 6 + 6 - (m + 1) + m) % 6 = x := by omega
      rw [e1]
      simp only [if_neg hmp]
      refine ⟨hnew, fun i hi => ?_, hN⟩
      have h75 := hM i hi
      rw [Nat.zero_add] at h75
      rw [g5, ← h75]
      simp only [ntM, if_pos h6]
      rw [if_pos ⟨trivial, by omega, by omega⟩, show 61 * m + i - 61 * m = i by omega]
  · obtain rfl : p = 6 := by omega
    rw [if_neg h6] at g2 g3
    refine ⟨(x + 1) % 6, 6, fun m => if m < 5 then H (m + 1) else N, Nat.mod_lt _ (by omega), by omega, g1, g2, g3, fun m hm => ?_⟩
    by_cases hm5 : m < 5
    · obtain ⟨a1, a2, a3⟩ := hH (m + 1) (by omega)
      have e1 : ((x + 1) % 6 + 6 - 6 + m) % 6 = (x + 6 - 6 + (m + 1)) % 6 := by omega
      rw [e1]
      simp only [if_pos hm5]
      refine ⟨hold _ (by omega) (by omega) _ a1, fun i hi => ?_, a3⟩
      have h76 := a2 i hi
      rw [g5, ← h76]
      simp only [ntM, if_neg h6]
      rw [if_pos ⟨trivial, by omega⟩, show 61 * m + i + 61 = 61 * (m + 1) + i by omega]
    · obtain rfl : m = 5 := by omega
      have e1 : ((x + 1) % 6 + 6 - 6 + 5) % 6 = x := by omega
      rw [e1]
      simp only [if_neg hm5]
      refine ⟨hnew, fun i hi => ?_, hN⟩
      have h75 := hM i hi
      rw [Nat.zero_add] at h75
      rw [g5, ← h75]
      simp only [ntM, if_neg h6]
      rw [if_neg (by omega), if_pos ⟨trivial, by omega⟩, show 61 * 5 + i - 305 = i by omega]
end S70
/-- class and model answer alike, and are alike behind it -/
def OK (X : Nat × (Nat → Int32)) (t u : Nat) (F : Nat → Nat → Int32) (J : Nat → Int64) (Mc : Nat) (lc : List Value) (Mm : Nat) (lm : List Value) : Prop := ∃ (r : Int32) (t' u' : Nat) (F' : Nat → Nat → Int32) (J' : Nat → Int64) (F'' : Nat → Nat → Int32) (J'' : Nat → Int64), q_ex X (Mc, 0, lc, [], q_w t u F J) = some (some (.int r), q_w t' u' F' J') ∧ q_ex X (Mm, 0, lm, [], q_w t' u' F' J') = some (some (.int r), q_w t' u' F'' J'') ∧ Rel t' u' F''
theorem OK_q {X : Nat × (Nat → Int32)} {t u : Nat} {F : Nat → Nat → Int32} {J : Nat → Int64} {Mc Mm : Nat} {lc lm : List Value} {r : Int32} (h : Rel t u F) (h1 : q_ex X (Mc, 0, lc, [], q_w t u F J) = some (some (.int r), q_w t u F J)) (h2 : q_ex X (Mm, 0, lm, [], q_w t u F J) = some (some (.int r), q_w t u F J)) : OK X t u F J Mc lc Mm lm := ⟨r, t, u, F, J, F, J, h1, h2, h⟩
