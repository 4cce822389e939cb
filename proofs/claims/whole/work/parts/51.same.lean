/-! ===== ROUNDS of the class are those of the model ===== -/
section S51
variable {N N' L L' P P' V V' : Nat → Int32} {o j : Nat} {m : Int32} {B : Nat → Nat}
theorem i_assoc1 (a b c : Int32) : a + (b + c) = a + b + c := by grind
theorem i_assoc2 (a b c : Int32) : a + b + c = a + c + b := by grind
theorem lev_up {t b : Nat} (hj : j < 4) (hb : b < 3) (ht : t < 3) : ∀ k, k ≤ 4 → levS N (upd P (3 * j + b) (P (3 * j + b) + nI 1)) L o j t k = if t = b then levS N P L o j t k + nI 1 else levS N P L o j t k
  | 0, _ => by
    simp only [levS, upd]
    by_cases h : t = b
    · subst h; simp only [if_true]; rw [i_assoc1]
    · rw [if_neg (by omega), if_neg h]
  | k + 1, hk => by
    have ih := lev_up hj hb ht k (by omega)
    simp only [levS, ih]
    by_cases hc : k ≠ j ∧ bt o k = 1
    · have h1 : upd P (3 * j + b) (P (3 * j + b) + nI 1) (3 * k + t) = P (3 * k + t) := by
        simp only [upd]; rw [if_neg (by omega)]
      rw [if_pos hc, if_pos hc, h1]
      by_cases h : t = b
      · rw [if_pos h, if_pos h, i_assoc2]
      · rw [if_neg h, if_neg h]
    · rw [if_neg hc, if_neg hc]
theorem qu_cg (hP : ∀ k, k < 3 → P (3 * j + k) = P' (3 * j + k)) (hV : ∀ k, k < 3 → V k = V' k) : ∀ k, k ≤ 3 → qu P V j m k = qu P' V' j m k
  | 0, _ => rfl
  | k + 1, hk => by
    have ih := qu_cg hP hV k (by omega)
    have hq := qu_le P' V' j m k (by omega)
    simp only [qu, ih, hP k (by omega), hV k (by omega)]
    by_cases h3 : qu P' V' j m k = 3
    · simp only [h3, true_or]
    · rw [hV _ (by omega)]
theorem qu_ok : ∀ k, k ≤ 3 → qu P V j m k < 3 → ¬ m ≤ P (3 * j + qu P V j m k)
  | 0, _, h => by simp [qu] at h
  | k + 1, hk, h => by
    simp only [qu] at h ⊢
    by_cases hc : ¬ m ≤ P (3 * j + k) ∧ (qu P V j m k = 3 ∨ ¬ V (qu P V j m k) ≤ V k)
    · rw [if_pos hc]; exact hc.1
    · rw [if_neg hc] at h ⊢
      exact qu_ok k (by omega) h
theorem fs_fu (hj : j < 4) {s : (Nat → Int32) × (Nat → Int32)} (hs : ∀ t, t < 3 → s.2 t = levS N s.1 L o j t 4) : (fs j m s).1 = fu N L o j m s.1 ∧ ∀ t, t < 3 → (fs j m s).2 t = levS N (fs j m s).1 L o j t 4 := by
  have hq := qu_le s.1 s.2 j m 3 (by omega)
  have he : qu s.1 s.2 j m 3 = qu s.1 (fun t => levS N s.1 L o j t 4) j m 3 := qu_cg (fun _ _ => rfl) hs 3 (by omega)
  unfold fs fu
  rw [← he]
  by_cases h3 : qu s.1 s.2 j m 3 = 3
  · rw [if_pos h3, if_pos h3]
    exact ⟨rfl, hs⟩
  · rw [if_neg h3, if_neg h3]
    refine ⟨rfl, fun t ht => ?_⟩
    dsimp only
    rw [lev_up hj (by omega) ht 4 (by omega)]
    simp only [upd]
    by_cases h : t = qu s.1 s.2 j m 3
    · rw [if_pos h, if_pos h, ← h, hs t ht]
    · rw [if_neg h, if_neg h, hs t ht]
theorem fsN_fu (hj : j < 4) : ∀ (n : Nat) (s : (Nat → Int32) × (Nat → Int32)), (∀ t, t < 3 → s.2 t = levS N s.1 L o j t 4) → (fsN j m n s).1 = fuN N L o j m n s.1
  | 0, s, _ => rfl
  | n + 1, s, hs => by
    obtain ⟨h1, h2⟩ := fs_fu (m := m) hj hs
    rw [fsN, fuN, fsN_fu hj n _ h2, h1]
theorem lay_fu {b : Nat} (hj : j < 4) : (lay N L o j b m P V).1 = fuN N L o j m b (pz P j) := by
  unfold lay
  exact fsN_fu hj b _ (fun t ht => by dsimp only; rw [if_pos ht])
theorem rnS_rd {s : (Nat → Int32) × (Nat → Int32)} : ∀ k, k ≤ 4 → (rnS N L o B m k s).1 = rdS N L o B m k s.1
  | 0, _ => rfl
  | k + 1, hk => by
    have ih := rnS_rd (s := s) k (by omega)
    simp only [rnS, rdS]
    by_cases hc : bt o k = 1
    · rw [if_pos hc, if_pos hc, lay_fu (by omega), ih]
    · rw [if_neg hc, if_neg hc, ih]
theorem rnN_rd {s : (Nat → Int32) × (Nat → Int32)} : ∀ n, (rnN N L o B m n s).1 = rdN N L o B m n s.1
  | 0 => rfl
  | n + 1 => by
    rw [rnN, rdN, rnS_rd 4 (by omega), rnN_rd n]
/-- alike in the first 12 places -/
def agr (P P' : Nat → Int32) : Prop := ∀ i, i < 12 → P i = P' i
theorem lev_cg {c : Nat} (hN : agr N N') (hL : ∀ i, i < 16 → L i = L' i) (hP : agr P P') (hj : j < 4) (hc : c < 3) : ∀ k, k ≤ 4 → levS N P L o j c k = levS N' P' L' o j c k
  | 0, _ => by simp only [levS]; rw [hN _ (by omega), hP _ (by omega)]
  | k + 1, hk => by
    have ih := lev_cg hN hL hP hj hc k (by omega)
    simp only [levS, ih]
    rw [hL _ (by omega), hP _ (by omega)]
theorem fu_cg (hN : agr N N') (hL : ∀ i, i < 16 → L i = L' i) (hP : agr P P') (hj : j < 4) : agr (fu N L o j m P) (fu N' L' o j m P') := by
  have he : qu P (fun t => levS N P L o j t 4) j m 3 = qu P' (fun t => levS N' P' L' o j t 4) j m 3 := qu_cg (fun k hk => hP _ (by omega)) (fun k hk => lev_cg hN hL hP hj hk 4 (by omega)) 3 (by omega)
  have hq := qu_le P' (fun t => levS N' P' L' o j t 4) j m 3 (by omega)
  unfold fu
  rw [he]
  by_cases h3 : qu P' (fun t => levS N' P' L' o j t 4) j m 3 = 3
  · rw [if_pos h3, if_pos h3]; exact hP
  · rw [if_neg h3, if_neg h3]
    intro i hi
    simp only [upd]
    rw [hP _ (by omega), hP i hi]
theorem fuN_cg (hN : agr N N') (hL : ∀ i, i < 16 → L i = L' i) (hj : j < 4) : ∀ (n : Nat) (P P' : Nat → Int32), agr P P' → agr (fuN N L o j m n P) (fuN N' L' o j m n P')
  | 0, _, _, h => h
  | n + 1, P, P', h => fuN_cg hN hL hj n _ _ (fu_cg hN hL h hj)
theorem pz_cg (hP : agr P P') : agr (pz P j) (pz P' j) := fun i hi => by
  simp only [pz]; rw [hP i hi]
theorem rdS_cg (hN : agr N N') (hL : ∀ i, i < 16 → L i = L' i) (hP : agr P P') : ∀ k, k ≤ 4 → agr (rdS N L o B m k P) (rdS N' L' o B m k P')
  | 0, _ => hP
  | k + 1, hk => by
    have ih := rdS_cg hN hL hP k (by omega)
    simp only [rdS]
    by_cases hc : bt o k = 1
    · rw [if_pos hc, if_pos hc]; exact fuN_cg hN hL (by omega) _ _ _ (pz_cg ih)
    · rw [if_neg hc, if_neg hc]; exact ih
theorem rdN_cg (hN : agr N N') (hL : ∀ i, i < 16 → L i = L' i) (hP : agr P P') : ∀ n, agr (rdN N L o B m n P) (rdN N' L' o B m n P')
  | 0 => hP
  | n + 1 => rdS_cg hN hL (rdN_cg hN hL hP n) 4 (by omega)
/-- POWER is 12 at most -/
def rg (P : Nat → Int32) : Prop := ∀ i, i < 12 → ∃ v, v ≤ 12 ∧ P i = nI v
theorem fu_rg {mm : Nat} (hm : m = nI mm) (hmm : mm ≤ 12) (hj : j < 4) (h : rg P) : rg (fu N L o j m P) := by
  have hq := qu_le P (fun t => levS N P L o j t 4) j m 3 (by omega)
  unfold fu
  by_cases h3 : qu P (fun t => levS N P L o j t 4) j m 3 = 3
  · rw [if_pos h3]; exact h
  · rw [if_neg h3]
    intro i hi
    simp only [upd]
    by_cases hi2 : i = 3 * j + qu P (fun t => levS N P L o j t 4) j m 3
    · rw [if_pos hi2]
      have hk := qu_ok (P := P) (V := fun t => levS N P L o j t 4) (j := j) (m := m) 3 (by omega) (by omega)
      obtain ⟨v, hv, hv2⟩ := h (3 * j + qu P (fun t => levS N P L o j t 4) j m 3) (by omega)
      rw [hv2, hm] at hk
      rw [hv2]
      refine ⟨v + 1, ?_, nI_add _ _⟩
      by_cases hlt : v < mm
      · omega
      · exact absurd (nI_le (show mm ≤ v by omega) (by omega)) hk
    · rw [if_neg hi2]; exact h i hi
theorem fuN_rg {mm : Nat} (hm : m = nI mm) (hmm : mm ≤ 12) (hj : j < 4) : ∀ (n : Nat) (P : Nat → Int32), rg P → rg (fuN N L o j m n P)
  | 0, _, h => h
  | n + 1, P, h => fuN_rg hm hmm hj n _ (fu_rg hm hmm hj h)
theorem pz_rg (h : rg P) : rg (pz P j) := fun i hi => by
  simp only [pz]
  split
  · exact ⟨0, by omega, rfl⟩
  · exact h i hi
theorem rdS_rg {mm : Nat} (hm : m = nI mm) (hmm : mm ≤ 12) (h : rg P) : ∀ k, k ≤ 4 → rg (rdS N L o B m k P)
  | 0, _ => h
  | k + 1, hk => by
    have ih := rdS_rg hm hmm h k (by omega)
    simp only [rdS]
    split
    · exact fuN_rg hm hmm (by omega) _ _ (pz_rg ih)
    · exact ih
theorem rdN_rg {mm : Nat} (hm : m = nI mm) (hmm : mm ≤ 12) (h : rg P) : ∀ n, rg (rdN N L o B m n P)
  | 0 => h
  | n + 1 => rdS_rg hm hmm (rdN_rg hm hmm h n) 4 (by omega)
theorem eqS_iff {Q : Nat → Int32} : ∀ k, eqS P Q k = true ↔ ∀ i, i < k → P i = Q i
  | 0 => by simp [eqS]
  | k + 1 => by
    simp only [eqS, Bool.and_eq_true, eqS_iff k, decide_eq_true_eq]
    constructor
    · rintro ⟨h1, h2⟩ i hi
      by_cases h : i = k
      · rw [h, h2]
      · exact h1 i (by omega)
    · intro h
      exact ⟨fun i hi => h i (by omega), (h k (by omega)).symm⟩
/-- POWER as a number of Nat -/
def pkN (p : Nat → Nat) : Nat → Nat
  | 0 => 0
  | k + 1 => 16 * pkN p k + p k
theorem pk_st {a v : Nat} (ha : a < 2 ^ 50) (hv : v < 16) : (Int64.ofNat a <<< ((nI 4).toInt64 &&& 63)) ||| (nI v).toInt64 = Int64.ofNat (16 * a + v) := by
  have h1 : (nI v).toInt64 = Int64.ofNat v := by
    have h2 : ∀ v, v < 16 → (nI v).toInt64 = Int64.ofNat v := by decide +kernel
    exact h2 v hv
  rw [h1]
  apply Int64.toBitVec_inj.mp
  have h3 : (((nI 4).toInt64 &&& 63).toBitVec.smod 64) = 4#64 := by decide +kernel
  simp only [Int64.toBitVec_or, Int64.toBitVec_shiftLeft, h3, Int64.toBitVec_ofNat']
  apply BitVec.eq_of_toNat_eq
  simp only [BitVec.toNat_or, BitVec.shiftLeft_eq', BitVec.toNat_shiftLeft, BitVec.toNat_ofNat]
  rw [show a % 2 ^ 64 = a by omega, show v % 2 ^ 64 = v by omega, show 4 % 2 ^ 64 = 4 by decide, show (16 * a + v) % 2 ^ 64 = 16 * a + v by omega]
  rw [Nat.mod_eq_of_lt (by rw [Nat.shiftLeft_eq]; omega), ← Nat.shiftLeft_add_eq_or_of_lt (by omega : v < 2 ^ 4), Nat.shiftLeft_eq]
  omega
theorem pkN_lt {p : Nat → Nat} (hp : ∀ i, i < 12 → p i < 16) : ∀ k, k ≤ 12 → pkN p k < 16 ^ k
  | 0, _ => by simp [pkN]
  | k + 1, hk => by
    have ih := pkN_lt hp k (by omega)
    have := hp k (by omega)
    simp only [pkN, Nat.pow_succ]
    omega
theorem pkS_N {p : Nat → Nat} (hp : ∀ i, i < 12 → P i = nI (p i) ∧ p i < 16) : ∀ k, k ≤ 12 → pkS P k = Int64.ofNat (pkN p k)
  | 0, _ => rfl
  | k + 1, hk => by
    have ih := pkS_N hp k (by omega)
    have hl := pkN_lt (fun i hi => (hp i hi).2) k (by omega)
    have h16 : 16 ^ k ≤ 16 ^ 12 := Nat.pow_le_pow_right (by decide) (by omega)
    obtain ⟨h1, h2⟩ := hp k (by omega)
    rw [pkS, ih, h1, pk_st (by omega) h2, pkN]
theorem pkN_inj {p q : Nat → Nat} (hp : ∀ i, i < 12 → p i < 16) (hq : ∀ i, i < 12 → q i < 16) : ∀ k, k ≤ 12 → pkN p k = pkN q k → ∀ i, i < k → p i = q i
  | 0, _, _, i, hi => by omega
  | k + 1, hk, h, i, hi => by
    have h1 := hp k (by omega)
    have h2 := hq k (by omega)
    simp only [pkN] at h
    by_cases hik : i = k
    · subst hik; omega
    · exact pkN_inj hp hq k (by omega) (by omega) i (by omega)
theorem pk_inj {Q : Nat → Int32} (hP : rg P) (hQ : rg Q) : pkS P 12 = pkS Q 12 ↔ ∀ i, i < 12 → P i = Q i := by
  have h1 : ∃ p : Nat → Nat, ∀ i, i < 12 → P i = nI (p i) ∧ p i < 16 := by
    refine ⟨fun i => (P i).toNatClampNeg, fun i hi => ?_⟩
    obtain ⟨v, hv, hv2⟩ := hP i hi
    dsimp only
    rw [hv2, nI_clamp (by omega)]
    exact ⟨rfl, by omega⟩
  have h2 : ∃ p : Nat → Nat, ∀ i, i < 12 → Q i = nI (p i) ∧ p i < 16 := by
    refine ⟨fun i => (Q i).toNatClampNeg, fun i hi => ?_⟩
    obtain ⟨v, hv, hv2⟩ := hQ i hi
    dsimp only
    rw [hv2, nI_clamp (by omega)]
    exact ⟨rfl, by omega⟩
  obtain ⟨p, hp⟩ := h1
  obtain ⟨q, hq⟩ := h2
  rw [pkS_N hp 12 (by omega), pkS_N hq 12 (by omega)]
  constructor
  · intro h i hi
    have hl1 := pkN_lt (fun i hi => (hp i hi).2) 12 (by omega)
    have hl2 := pkN_lt (fun i hi => (hq i hi).2) 12 (by omega)
    have he : pkN p 12 = pkN q 12 := by
      have h3 := congrArg (fun x => x.toBitVec.toNat) h
      simp only [Int64.toBitVec_ofNat', BitVec.toNat_ofNat] at h3
      omega
    rw [(hp i hi).1, (hq i hi).1, pkN_inj (fun i hi => (hp i hi).2) (fun i hi => (hq i hi).2) 12 (by omega) he i hi]
  · intro h
    have he : ∀ k, k ≤ 12 → pkN p k = pkN q k := by
      intro k
      induction k with
      | zero => intro _; rfl
      | succ k ih =>
        intro hk
        have h1 := h k (by omega)
        rw [(hp k (by omega)).1, (hq k (by omega)).1] at h1
        have hpk := (hp k (by omega)).2
        have hqk := (hq k (by omega)).2
        rw [nI_eq (by omega) (by omega)] at h1
        simp only [pkN, ih (by omega), h1]
    rw [he 12 (by omega)]
end S51
