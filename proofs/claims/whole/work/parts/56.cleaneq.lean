/-! ===== CLEAN: the class's way and the model's ===== -/
def m4 (f : Nat → Fin 31) : Fin 31 := f 0 + f 1 + f 2 + f 3
def vv (z s : Nat → Fin 31) : Nat → Fin 31 := fun x => if x < 4 then z x else - s (x - 4)
theorem grd_at {L : Nat → Nat} {o j i : Nat} (hi : i < 8) : grd L o (8 * j + i) = gr L o j i := by
  simp only [grd]
  rw [show (8 * j + i) / 8 = j by omega, show (8 * j + i) % 8 = i by omega]
theorem dt_vv (Q : Nat → Nat) (z s : Nat → Fin 31) (j : Nat) : dt Q (vv z s) j = m4 (fun i => ph (Q (8 * j + i)) * z i) - m4 (fun k => ph (Q (8 * j + 4 + k)) * s k) := by
  have v0 : vv z s 0 = z 0 := rfl
  have v1 : vv z s 1 = z 1 := rfl
  have v2 : vv z s 2 = z 2 := rfl
  have v3 : vv z s 3 = z 3 := rfl
  have v4 : vv z s 4 = - s 0 := rfl
  have v5 : vv z s 5 = - s 1 := rfl
  have v6 : vv z s 6 = - s 2 := rfl
  have v7 : vv z s 7 = - s 3 := rfl
  simp only [dt, m4, v0, v1, v2, v3, v4, v5, v6, v7, Nat.add_zero, Nat.add_assoc, Nat.reduceAdd]
  grind
/-- the equations, and what solves them -/
theorem sol {L Q' : Nat → Nat} {o : Nat} (hL : ∀ i, i < 16 → L i < 31) (he : elS 8 (grd L o) 4 = some Q') (z s : Nat → Fin 31) : (∀ r, r < 4 → m4 (fun i => ph (gr L o r i) * z i) = ph (gr L o r (4 + r)) * s r) ↔ ∀ r, r < 4 → z r = m4 (fun k => ph (Q' (8 * r + 4 + k)) * s k) := by
  obtain ⟨a1, a2, a3⟩ := el_end (v := vv z s) (grd_lt hL) 4 (by omega) Q' he
  have b1 : ∀ r, r < 4 → dt Q' (vv z s) r = z r - m4 (fun k => ph (Q' (8 * r + 4 + k)) * s k) := by
    intro r hr
    have c0 := a2 0 (by omega) r hr
    have c1 := a2 1 (by omega) r hr
    have c2 := a2 2 (by omega) r hr
    have c3 := a2 3 (by omega) r hr
    rw [dt_vv]
    simp only [m4]
    rw [c0, c1, c2, c3]
    rcases (show r = 0 ∨ r = 1 ∨ r = 2 ∨ r = 3 by omega) with rfl | rfl | rfl | rfl <;> simp [ph_0, ph_1] <;> grind
  have b2 : ∀ r, r < 4 → dt (grd L o) (vv z s) r = m4 (fun i => ph (gr L o r i) * z i) - ph (gr L o r (4 + r)) * s r := by
    intro r hr
    rw [dt_vv]
    have g0 : ∀ k, k < 4 → k ≠ r → gr L o r (4 + k) = 0 := by
      intro k hk hkr
      simp only [gr]
      rw [if_neg (by omega), if_neg (by omega)]
    simp only [m4]
    have g1 : ∀ k, k < 4 → grd L o (8 * r + 4 + k) = gr L o r (4 + k) := fun k hk => by rw [Nat.add_assoc, grd_at (by omega)]
    rw [g1 0 (by omega), g1 1 (by omega), g1 2 (by omega), g1 3 (by omega), grd_at (by omega), grd_at (by omega), grd_at (by omega), grd_at (by omega)]
    rcases (show r = 0 ∨ r = 1 ∨ r = 2 ∨ r = 3 by omega) with rfl | rfl | rfl | rfl
    · rw [g0 1 (by omega) (by omega), g0 2 (by omega) (by omega), g0 3 (by omega) (by omega), ph_0]; grind
    · rw [g0 0 (by omega) (by omega), g0 2 (by omega) (by omega), g0 3 (by omega) (by omega), ph_0]; grind
    · rw [g0 0 (by omega) (by omega), g0 1 (by omega) (by omega), g0 3 (by omega) (by omega), ph_0]; grind
    · rw [g0 0 (by omega) (by omega), g0 1 (by omega) (by omega), g0 2 (by omega) (by omega), ph_0]; grind
  constructor
  · intro h r hr
    have h1 := a3.mpr (fun j hj => by rw [b2 j hj, h j hj]; grind) r hr
    rw [b1 r hr] at h1
    grind
  · intro h r hr
    have h1 := a3.mp (fun j hj => by rw [b1 j hj, ← h j hj]; grind) r hr
    rw [b2 r hr] at h1
    grind
theorem gtS_ph {E M : Nat → Nat} {o c : Nat} : ph (gtS E M o c 4) = m4 (fun i => ph (bt o i) * ph (E (c + i)) * ph (M i)) := by
  have st : ∀ k, ph (gtS E M o c (k + 1)) = ph (gtS E M o c k) + ph (bt o k) * ph (E (c + k)) * ph (M k) := by
    intro k
    have hb := bt_lt o k
    simp only [gtS]
    by_cases h : bt o k = 1
    · rw [if_pos h, h, ph_add, ph_mul, ph_1]; grind
    · have h0 : bt o k = 0 := by omega
      rw [if_neg h, h0, ph_0]; grind
  rw [st 3, st 2, st 1, st 0]
  simp only [gtS, m4, ph_0]
  grind
def dl (k i : Nat) : Fin 31 := if i = k then 1 else 0
theorem gk_ph {E L Q : Nat → Nat} {o j k : Nat} (hk : k < 4) : ph (gk E L Q o j k) = m4 (fun i => ph (bt o i) * ph (E (4 * j + i)) * ph (Q (8 * i + 4 + k))) * ph (ob (L (5 * j))) := by
  simp only [gk, gotM, ph_mod, ph_mul, gtS_ph, mdS_ph]
  rcases (show k = 0 ∨ k = 1 ∨ k = 2 ∨ k = 3 by omega) with rfl | rfl | rfl | rfl <;> simp [ph_0, ph_1, m4] <;> grind
theorem m4_congr {f g : Nat → Fin 31} (h : ∀ i, i < 4 → f i = g i) : m4 f = m4 g := by
  simp only [m4]
  rw [h 0 (by omega), h 1 (by omega), h 2 (by omega), h 3 (by omega)]
theorem cl_main {E L Q' : Nat → Nat} {o j : Nat} (hE : ∀ i, i < 16 → E i < 31) (hL : ∀ i, i < 16 → L i < 31) (hL0 : ∀ j, j < 4 → ¬ (bt o j = 1 ∧ L (5 * j) = 0)) (he : elS 8 (grd L o) 4 = some Q') (hj : j < 4) (hbj : bt o j = 1) : (∀ k, k < 4 → bt o k = 1 → gk E L Q' o j k = if k = j then 1 else 0) ↔ ∀ i, i < 4 → bt o i = 1 → E (4 * j + i) = L (4 * j + i) := by
  have hLj : L (5 * j) ≠ 0 := fun z => hL0 j hj ⟨hbj, z⟩
  have hD := ph_ob (hL (5 * j) (by omega)) hLj
  have ga : ∀ i, i < 4 → ph (gr L o j i) = ph (bt o i) * ph (L (4 * j + i)) := by
    intro i hi
    have hb := bt_lt o i
    simp only [gr]
    rw [if_pos hi]
    by_cases h : bt o i = 1
    · rw [if_pos ⟨hbj, h⟩, h, ph_1]; grind
    · have h0 : bt o i = 0 := by omega
      rw [if_neg (fun z => h z.2), if_neg (fun z => h (by rw [← z]; exact hbj)), h0, ph_0]; grind
  have gd : ph (gr L o j (4 + j)) = ph (L (5 * j)) := by
    simp only [gr]
    rw [if_neg (by omega), if_pos (by omega), if_pos hbj]
  have hU : ∀ k, k < 4 → m4 (fun i => ph (bt o i) * ph (L (4 * j + i)) * ph (Q' (8 * i + 4 + k))) = dl k j * ph (L (5 * j)) := by
    intro k hk
    have h1 := (sol hL he (fun i => ph (Q' (8 * i + 4 + k))) (dl k)).mpr (fun r hr => by
      rcases (show k = 0 ∨ k = 1 ∨ k = 2 ∨ k = 3 by omega) with rfl | rfl | rfl | rfl <;> simp [m4, dl] <;> grind) j hj
    rw [gd] at h1
    rw [m4_congr (g := fun i => ph (gr L o j i) * ph (Q' (8 * i + 4 + k))) (fun i hi => by rw [ga i hi]), h1]
    grind
  have hT : ∀ k, k < 4 → (gk E L Q' o j k = (if k = j then 1 else 0) ↔ m4 (fun i => ph (bt o i) * ph (E (4 * j + i)) * ph (Q' (8 * i + 4 + k))) = dl k j * ph (L (5 * j))) := by
    intro k hk
    have h1 := gk_ph (E := E) (L := L) (Q := Q') (o := o) (j := j) hk
    have hdl : ph (if k = j then 1 else 0) = dl k j := by
      simp only [dl]
      by_cases h : k = j
      · rw [if_pos h, if_pos h.symm]; rfl
      · rw [if_neg h, if_neg (fun z => h z.symm)]; rfl
    constructor
    · intro h
      rw [h, hdl] at h1
      grind
    · intro h
      rw [h] at h1
      refine ph_inj (gotM_lt _ _ _ _ _ _ _ _ _) (by split <;> omega) ?_
      rw [hdl, h1]
      grind
  constructor
  · intro h
    have hY : ∀ k, k < 4 → bt o k = 0 → ∀ r, r < 4 → ph (Q' (8 * r + 4 + k)) = dl k r := by
      intro k hk hb r hr
      have h1 := (sol hL he (dl k) (dl k)).mp (fun r hr => by
        have e1 : ∀ i, i < 4 → ph (gr L o r i) * dl k i = dl k i * dl k r := by
          intro i hi
          simp only [dl]
          by_cases hik : i = k
          · subst hik
            have e2 : gr L o r i = if r = i then 1 else 0 := by
              simp only [gr]
              rw [if_pos hi, if_neg (fun z => by omega)]
            rw [e2, if_pos rfl]
            by_cases hri : r = i
            · rw [if_pos hri, if_pos hri]; rfl
            · rw [if_neg hri, if_neg hri]; rfl
          · rw [if_neg hik]; grind
        have e3 : ph (gr L o r (4 + r)) * dl k r = dl k r := by
          simp only [dl]
          by_cases hrk : r = k
          · subst hrk
            have e4 : gr L o r (4 + r) = 1 := by
              simp only [gr]
              rw [if_neg (by omega), if_pos (by omega), if_neg (by omega)]
            rw [e4, if_pos rfl]; rfl
          · rw [if_neg hrk]; grind
        rw [m4_congr (g := fun i => dl k i * dl k r) e1, e3]
        rcases (show k = 0 ∨ k = 1 ∨ k = 2 ∨ k = 3 by omega) with rfl | rfl | rfl | rfl <;> simp [m4, dl] <;> grind) r hr
      rw [h1]
      rcases (show k = 0 ∨ k = 1 ∨ k = 2 ∨ k = 3 by omega) with rfl | rfl | rfl | rfl <;> simp [m4, dl] <;> grind
    have hW : ∀ k, k < 4 → m4 (fun i => ph (bt o i) * (ph (E (4 * j + i)) - ph (L (4 * j + i))) * ph (Q' (8 * i + 4 + k))) = 0 := by
      intro k hk
      have hb := bt_lt o k
      by_cases hbk : bt o k = 1
      · have h1 := (hT k hk).mp (h k hk hbk)
        have h2 := hU k hk
        simp only [m4] at h1 h2 ⊢
        grind
      · have hb0 : bt o k = 0 := by omega
        have h2 := hY k hk hb0
        rw [m4_congr (g := fun i => 0) (fun i hi => by
          try dsimp only
          rw [h2 i hi]
          simp only [dl]
          by_cases hik : i = k
          · rw [hik, hb0, ph_0]; grind
          · rw [if_neg hik]; grind)]
        simp [m4]
    intro i hi hbi
    have hdv : ∀ r, r < 4 → ph (gr L o r (4 + r)) * ph (ob (gr L o r (4 + r))) = 1 := by
      intro r hr
      refine ph_ob ?_ ?_
      · have := grd_lt (o := o) hL (8 * r + (4 + r)) (by omega)
        rw [grd_at (by omega)] at this
        exact this
      · simp only [gr]
        rw [if_neg (by omega), if_pos (by omega)]
        by_cases hbr : bt o r = 1
        · rw [if_pos hbr]; exact fun z => hL0 r hr ⟨hbr, z⟩
        · rw [if_neg hbr]; omega
    have hz := (sol hL he (dl i) (fun r => ph (ob (gr L o r (4 + r))) * ph (gr L o r i))).mp (fun r hr => by
      have h3 := hdv r hr
      have e5 : m4 (fun i' => ph (gr L o r i') * dl i i') = ph (gr L o r i) := by
        rcases (show i = 0 ∨ i = 1 ∨ i = 2 ∨ i = 3 by omega) with rfl | rfl | rfl | rfl <;> simp [m4, dl] <;> grind
      rw [e5]
      grind)
    have hw0 := hW 0 (by omega)
    have hw1 := hW 1 (by omega)
    have hw2 := hW 2 (by omega)
    have hw3 := hW 3 (by omega)
    have z0 := hz 0 (by omega)
    have z1 := hz 1 (by omega)
    have z2 := hz 2 (by omega)
    have z3 := hz 3 (by omega)
    have hfin : m4 (fun r => ph (bt o r) * (ph (E (4 * j + r)) - ph (L (4 * j + r))) * dl i r) = 0 := by
      have e6 : m4 (fun r => ph (bt o r) * (ph (E (4 * j + r)) - ph (L (4 * j + r))) * dl i r) = m4 (fun k => (ph (ob (gr L o k (4 + k))) * ph (gr L o k i)) * m4 (fun r => ph (bt o r) * (ph (E (4 * j + r)) - ph (L (4 * j + r))) * ph (Q' (8 * r + 4 + k)))) := by
        simp only [m4] at z0 z1 z2 z3 ⊢
        rw [z0, z1, z2, z3]
        grind
      rw [e6]
      simp only [m4] at hw0 hw1 hw2 hw3 ⊢
      rw [hw0, hw1, hw2, hw3]
      grind
    have hd : ph (E (4 * j + i)) - ph (L (4 * j + i)) = 0 := by
      have e7 : m4 (fun r => ph (bt o r) * (ph (E (4 * j + r)) - ph (L (4 * j + r))) * dl i r) = ph (bt o i) * (ph (E (4 * j + i)) - ph (L (4 * j + i))) := by
        rcases (show i = 0 ∨ i = 1 ∨ i = 2 ∨ i = 3 by omega) with rfl | rfl | rfl | rfl <;> simp [m4, dl] <;> grind
      rw [e7, hbi, ph_1] at hfin
      grind
    exact ph_inj (hE _ (by omega)) (hL _ (by omega)) (by grind)
  · intro h k hk hbk
    refine (hT k hk).mpr ?_
    rw [← hU k hk]
    refine m4_congr (fun i hi => ?_)
    try dsimp only
    have hb := bt_lt o i
    by_cases hbi : bt o i = 1
    · rw [h i hi hbi]
    · have h0 : bt o i = 0 := by omega
      rw [h0, ph_0]; grind
theorem oeS_0 {f g : Nat → Int32} {o c : Nat} : ∀ k, oeS f g o c k = 0 ↔ ∀ i, i < k → bt o i = 1 → f (c + i) = g (c + i)
  | 0 => by simp [oeS]
  | k + 1 => by
    have ih := oeS_0 (f := f) (g := g) (o := o) (c := c) k
    simp only [oeS]
    by_cases hc : bt o k = 1 ∧ ¬ f (c + k) = g (c + k)
    · rw [if_pos hc]
      constructor
      · intro h; omega
      · intro h; exact absurd (h k (by omega) hc.1) hc.2
    · rw [if_neg hc, ih]
      constructor
      · intro h i hi hb
        by_cases hik : i = k
        · subst hik
          exact Classical.byContradiction (fun z => hc ⟨hb, z⟩)
        · exact h i (by omega) hb
      · intro h i hi
        exact h i (by omega)
/-- both sets are one -/
theorem cl_eq {f g : Nat → Int32} {E L Q' : Nat → Nat} {o : Nat} (hf : rowN f E 16 31) (hg : rowN g L 16 31) (hL0 : ∀ j, j < 4 → ¬ (bt o j = 1 ∧ L (5 * j) = 0)) (he : elS 8 (grd L o) 4 = some Q') : stS (fun j => if bt o j = 1 ∧ oeS f g o (4 * j) 4 = 0 then 1 else 0) 4 = stS (fun j => isM E L Q' o j 4) 4 := by
  refine stS_cg 4 (fun j hj => ?_)
  try dsimp only
  rw [isM_iff]
  by_cases hbj : bt o j = 1
  · have h1 := cl_main (E := E) (fun i hi => (hf i hi).2) (fun i hi => (hg i hi).2) hL0 he hj hbj
    rw [h1]
    constructor
    · intro h
      by_cases hc : bt o j = 1 ∧ oeS f g o (4 * j) 4 = 0
      · refine ⟨hbj, fun i hi hb => ?_⟩
        have h2 := (oeS_0 4).mp hc.2 i hi hb
        obtain ⟨a1, a2⟩ := hf (4 * j + i) (by omega)
        obtain ⟨b1, b2⟩ := hg (4 * j + i) (by omega)
        rw [a1, b1] at h2
        exact (nI_eq (by omega) (by omega)).mp h2
      · rw [if_neg hc] at h; omega
    · intro h
      rw [if_pos ⟨hbj, (oeS_0 4).mpr (fun i hi hb => by rw [(hf (4 * j + i) (by omega)).1, (hg (4 * j + i) (by omega)).1, h.2 i hi hb])⟩]
  · rw [if_neg (fun z => hbj z.1)]
    constructor
    · intro h; omega
    · intro h; exact absurd h.1 hbj
