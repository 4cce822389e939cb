/-! ===== the constructors, by evaluation ===== -/
def q_X0 : Nat × (Nat → Int32) := (0, fun _ => 0)
/-- a step that doesn't look at the script -/
def q_nxtS (σ : q_S) : Option q_D := match q_at σ.1 σ.2.1 with
  | none => none
  | some (i, n, g, pl) => if i = .arraylength then none else q_ins q_X0 σ.1 σ.2.1 σ.2.2.1 σ.2.2.2.1 σ.2.2.2.2 i n g pl
def q_runS : Nat → q_S → Option (Option Value × q_M)
  | 0, _ => none
  | n + 1, σ => match q_nxtS σ with
    | none => none
    | some (.inl r) => some r
    | some (.inr (.inl σ')) => q_runS n σ'
    | some (.inr (.inr (σc, M, pc, L, S))) => match q_runS n σc with
      | none => none
      | some (r, w) => q_runS n (M, pc, L, r.toList ++ S, w)
def q_ini1 : Option (Option Value × q_M) := q_runS 2500 (50, 0, [.ref 0, .null], [], q_nw q_w0 7 0)
def q_ini2 (w1 : q_M) : Option (Option Value × q_M) := q_runS 2500 (84, 0, [.ref 72], [], q_nw w1 8 0)
def q_iF (w : q_M) (a n : Nat) (f : Nat → Nat) : Bool := (List.range n).all (fun i => decide (w.2.1 a i = nI (f i)))
def q_iC (w : q_M) : Bool := decide (w.1 = k_st) && (List.range 86).all (fun a => (List.range 21).all (fun i => decide (w.2.2.1 a i = p_st 3 8 a i)))
  && q_iF w 4 16 bg && q_iF w 6 12 (fun _ => 0) && q_iF w 5 16 (fun _ => 0) && q_iF w 7 4 (fun _ => 4) && decide (w.2.1 3 4 = nI 12) && q_iF w 73 49 bg
  && decide (w.2.1 13 0 = nI 0) && q_iF w 14 16 bg && q_iF w 15 16 bg && q_iF w 16 16 (fun _ => 0) && q_iF w 17 12 (fun _ => 0) && q_iF w 75 61 (nw bg)
  && decide (w.2.1 18 1 = nI 0) && decide (w.2.1 18 2 = nI 0) && decide (w.2.1 72 4 = nI 0) && decide (w.2.1 0 9 = nI 0) && decide (w.2.1 78 0 = nI 0) && decide (w.2.1 78 1 = nI 0)
  && decide (w.2.1 57 2 = nI 0) && decide (w.2.1 72 10 = nI 0) && decide (w.2.1 1 1 = nI 0) && decide (w.2.1 72 15 = nI 0) && q_iF w 53 20 (fun _ => 0)
def q_iK : Bool := match q_ini1 with
  | some (none, w1) => decide (w1.1.length = 72) && (match q_ini2 w1 with
    | some (none, w) => q_iC w
    | _ => false)
  | _ => false
theorem q_iK_ok : q_iK = true := by decide +kernel
