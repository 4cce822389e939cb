/-! ===== bitCount ===== -/
def pcB (x : Nat) : Nat := x % 2 + x / 2 % 2 + x / 4 % 2 + x / 8 % 2 + x / 16 % 2 + x / 32 % 2 + x / 64 % 2 + x / 128 % 2 + x / 256 % 2 + x / 512 % 2 + x / 1024 % 2 + x / 2048 % 2 + x / 4096 % 2 + x / 8192 % 2 + x / 16384 % 2 + x / 32768 % 2
def pcG (n : Nat) : Nat → Bool
  | 0 => true
  | k + 1 => Nat.beq (pcA (256 * n + k)) (pcB (256 * n + k)) && pcG n k
def pcH : Nat → Bool
  | 0 => true
  | k + 1 => pcG k 256 && pcH k
set_option maxRecDepth 100000 in
theorem pc_all : pcH 256 = true := by decide +kernel
theorem pcG_ok {n : Nat} : ∀ k, pcG n k = true → ∀ l, l < k → pcA (256 * n + l) = pcB (256 * n + l)
  | 0, _, l, hl => by omega
  | k + 1, h, l, hl => by
    simp only [pcG, Bool.and_eq_true] at h
    by_cases hlk : l = k
    · subst hlk; exact Nat.eq_of_beq_eq_true h.1
    · exact pcG_ok k h.2 l (by omega)
theorem pcH_ok : ∀ k, pcH k = true → ∀ n, n < k → pcG n 256 = true
  | 0, _, n, hn => by omega
  | k + 1, h, n, hn => by
    simp only [pcH, Bool.and_eq_true] at h
    by_cases hnk : n = k
    · subst hnk; exact h.1
    · exact pcH_ok k h.2 n (by omega)
theorem pcA_eq {x : Nat} (h : x < 65536) : pcA x = pcS x 16 := by
  have h1 := pcG_ok 256 (pcH_ok 256 pc_all (x / 256) (by omega)) (x % 256) (by omega)
  rw [show 256 * (x / 256) + x % 256 = x by omega] at h1
  rw [h1]
  simp [pcB, pcS, bt]
theorem pcS_le (x : Nat) : ∀ k, pcS x k ≤ k
  | 0 => Nat.le_refl _
  | k + 1 => by
    have := pcS_le x k
    have := bt_lt x k
    simp only [pcS]
    omega
