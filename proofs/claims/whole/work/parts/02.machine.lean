/-! ===== a pure machine: cells are numbered, cell k lies at address base + k ===== -/
abbrev q_K : Type := List (Nat × Nat)
abbrev q_M : Type := q_K × (Nat → Nat → Int32) × (Nat → Nat → Option Nat) × (Nat → Int64)
abbrev q_S : Type := Nat × Nat × List Value × List Value × q_M
abbrev q_E : Type := Instr × Nat × Nat × List Nat
abbrev q_D : Type := (Option Value × q_M) ⊕ (q_S ⊕ (q_S × Nat × Nat × List Value × List Value))
/-- an int of a cell is set -/
def q_up (F : Nat → Nat → Int32) (a i : Nat) (x : Int32) : Nat → Nat → Int32 := va_up F a (upd (F a) i x)
def q_upP (P : Nat → Nat → Option Nat) (a i : Nat) (x : Option Nat) : Nat → Nat → Option Nat := va_up P a (va_up (P a) i x)
/-- a local of one slot is set -/
def q_st1 (L : List Value) (i : Nat) (v : Value) : List Value := L.set i v
def q_st2 (L : List Value) (i : Nat) (v : Value) : List Value := (L.set i v).set (i + 1) .null
def q_go (M pc : Nat) (L S : List Value) (w : q_M) : Option q_D := some (.inr (.inl (M, pc, L, S, w)))
def q_i2 (M pc : Nat) (L S : List Value) (w : q_M) (f : Int32 → Int32 → Int32) : Option q_D := match S with
  | .int y :: .int x :: S => q_go M pc L (.int (f x y) :: S) w
  | _ => none
def q_c1 (M pc tg : Nat) (L S : List Value) (w : q_M) (f : Int32 → Bool) : Option q_D := match S with
  | .int x :: S => if f x = true then q_go M tg L S w else q_go M pc L S w
  | _ => none
def q_c2 (M pc tg : Nat) (L S : List Value) (w : q_M) (f : Int32 → Int32 → Bool) : Option q_D := match S with
  | .int y :: .int x :: S => if f x y = true then q_go M tg L S w else q_go M pc L S w
  | _ => none
def q_ldi (M pc : Nat) (L S : List Value) (w : q_M) (k : Nat) : Option q_D := match L[k]? with
  | some (.int x) => q_go M pc L (.int x :: S) w
  | _ => none
def q_lda (M pc : Nat) (L S : List Value) (w : q_M) (k : Nat) : Option q_D := match L[k]? with
  | some (.ref x) => q_go M pc L (.ref x :: S) w
  | some (.float x) => q_go M pc L (.float x :: S) w
  | _ => none
def q_ldl (M pc : Nat) (L S : List Value) (w : q_M) (k : Nat) : Option q_D := match L[k]? with
  | some (.long x) => q_go M pc L (.long x :: S) w
  | _ => none
def q_sti (M pc : Nat) (L S : List Value) (w : q_M) (k : Nat) : Option q_D := match S with
  | .int x :: S => if k < L.length ∧ ¬ (M = 19 ∧ k = 2) then q_go M pc (q_st1 L k (.int x)) S w else none
  | _ => none
def q_sta (M pc : Nat) (L S : List Value) (w : q_M) (k : Nat) : Option q_D := match S with
  | .ref x :: S => if k < L.length ∧ ¬ (M = 19 ∧ k = 2) then q_go M pc (q_st1 L k (.ref x)) S w else none
  | _ => none
def q_stl (M pc : Nat) (L S : List Value) (w : q_M) (k : Nat) : Option q_D := match S with
  | .long x :: S => if k + 1 < L.length ∧ M = 19 ∧ k = 1 then q_go M pc (q_st2 L k (.long x)) S w else none
  | _ => none
def q_x0 (j : Nat) : Int32 := ([1, 1, 1, 1, 1, 30, 1, 30, 1, 1, 30, 30, 1, 30, 30, 1] : List Int32).getD j 0
def q_x1 (j : Nat) : Int32 := ([0, 1, 16, 21, 8, 25, 26, 9, 4, 7, 28, 17, 13, 12, 20, 29, 2, 11, 19, 18, 14, 3, 24, 27, 22, 5, 6, 23, 10, 15, 30] : List Int32).getD j 0
/-- the arrays that stand outside: two tables, and the script -/
def q_xt (X : Nat × (Nat → Int32)) (u : UInt32) : Nat × (Nat → Int32) := if u = 0 then (16, q_x0) else if u = 1 then (31, q_x1) else X
/-- the kinds of fields: 0 an int, 1 a reference, 2 a long -/
def q_ft (c : Nat) : List Nat := match c with
  | 0 => [0, 1, 1, 1, 1]
  | 1 => [1, 0, 0]
  | 2 => [1, 1, 2]
  | 3 => [1, 1, 1]
  | 4 => [1, 0, 0, 0]
  | 5 => [1, 1, 1, 1, 0]
  | 6 => [1, 1, 0]
  | 7 => [1, 1, 1, 1, 1, 1, 1, 1, 1, 0, 1]
  | 8 => [1, 1, 1, 1, 0, 1, 1, 1, 1, 1, 0, 1, 1, 1, 1, 0, 0, 0, 0, 0, 0]
  | _ => []
def q_sz (k : Nat × Nat) : Nat := if k.1 < 9 then (q_ft k.1).length else k.2
def q_sl (K : q_K) : Nat := (K.map q_sz).sum
/-- getfield: g is 32 times the class and the field's place -/
def q_gf (M pc : Nat) (L S : List Value) (w : q_M) (ci k : Nat) : Option q_D := match S with
  | .ref a :: S => if (w.1[a]?).map Prod.fst = some ci then
      match (q_ft ci)[k]? with
      | some 0 => q_go M pc L (.int (w.2.1 a k) :: S) w
      | some 1 => (match w.2.2.1 a k with
        | some r => q_go M pc L (.ref r :: S) w
        | none => none)
      | some 2 => q_go M pc L (.long (w.2.2.2 a) :: S) w
      | _ => none
    else none
  | _ => none
def q_pf (M pc : Nat) (L S : List Value) (w : q_M) (ci k : Nat) : Option q_D := match S with
  | .int x :: .ref a :: S => if (w.1[a]?).map Prod.fst = some ci ∧ (q_ft ci)[k]? = some 0 then q_go M pc L S (w.1, q_up w.2.1 a k x, w.2.2.1, w.2.2.2) else none
  | .ref x :: .ref a :: S => if (w.1[a]?).map Prod.fst = some ci ∧ (q_ft ci)[k]? = some 1 then q_go M pc L S (w.1, w.2.1, q_upP w.2.2.1 a k (some x), w.2.2.2) else none
  | .long x :: .ref a :: S => if (w.1[a]?).map Prod.fst = some ci ∧ (q_ft ci)[k]? = some 2 then q_go M pc L S (w.1, w.2.1, w.2.2.1, va_up w.2.2.2 a x) else none
  | _ => none
def q_inb (x : Int32) (n : Nat) : Bool := decide (¬ x < 0) && decide (x.toNatClampNeg < n)
/-- an int array (kind 9), a boolean array (kind 10): reading -/
def q_ald (X : Nat × (Nat → Int32)) (M pc : Nat) (L S : List Value) (w : q_M) (kd : Nat) : Option q_D := match S with
  | .int x :: .ref a :: S => (match w.1[a]? with
    | some (k, n) => if k = kd ∧ q_inb x n = true then q_go M pc L (.int (w.2.1 a x.toNatClampNeg) :: S) w else none
    | none => none)
  | .int x :: .float u :: S => if kd = 9 ∧ q_inb x (q_xt X u).1 = true then q_go M pc L (.int ((q_xt X u).2 x.toNatClampNeg) :: S) w else none
  | _ => none
def q_ast (M pc : Nat) (L S : List Value) (w : q_M) (kd : Nat) : Option q_D := match S with
  | .int v :: .int x :: .ref a :: S => (match w.1[a]? with
    | some (k, n) => if k = kd ∧ q_inb x n = true ∧ (kd = 9 ∨ v = 0 ∨ v = 1) then q_go M pc L S (w.1, q_up w.2.1 a x.toNatClampNeg v, w.2.2.1, w.2.2.2) else none
    | none => none)
  | _ => none
def q_ald2 (M pc : Nat) (L S : List Value) (w : q_M) : Option q_D := match S with
  | .int x :: .ref a :: S => (match w.1[a]? with
    | some (k, n) => if k = 11 ∧ q_inb x n = true then
        (match w.2.2.1 a x.toNatClampNeg with
        | some r => q_go M pc L (.ref r :: S) w
        | none => none)
      else none
    | none => none)
  | _ => none
def q_ast2 (M pc : Nat) (L S : List Value) (w : q_M) : Option q_D := match S with
  | .ref v :: .int x :: .ref a :: S => (match w.1[a]? with
    | some (k, n) => if k = 11 ∧ q_inb x n = true ∧ (w.1[v]?).map Prod.fst = some 0 then q_go M pc L S (w.1, w.2.1, q_upP w.2.2.1 a x.toNatClampNeg (some v), w.2.2.2) else none
    | none => none)
  | _ => none
/-- a new cell: all of it as by default -/
def q_nw (w : q_M) (k n : Nat) : q_M := (w.1 ++ [(k, n)], va_up w.2.1 w.1.length (fun _ => 0), va_up w.2.2.1 w.1.length (fun _ => none), va_up w.2.2.2 w.1.length 0)
def q_new (M pc : Nat) (L S : List Value) (w : q_M) (ci : Nat) : Option q_D := if ci < 9 then q_go M pc L (.ref w.1.length :: S) (q_nw w ci 0) else none
def q_newa (M pc : Nat) (L S : List Value) (w : q_M) (kd : Nat) : Option q_D := match S with
  | .int x :: S => if ¬ x < 0 ∧ x.toNatClampNeg ≤ 100000 then q_go M pc L (.ref w.1.length :: S) (q_nw w kd x.toNatClampNeg) else none
  | _ => none
def q_alen (X : Nat × (Nat → Int32)) (M pc : Nat) (L S : List Value) (w : q_M) : Option q_D := match S with
  | .float u :: S => q_go M pc L (.int (Int32.ofNat (q_xt X u).1) :: S) w
  | _ => none
/-- the first n of a stack are a call's arguments -/
def q_call (M pc : Nat) (L S : List Value) (w : q_M) (y n ml : Nat) : Option q_D :=
  if n ≤ S.length ∧ (S.drop n).length ≤ 4 ∧ n ≤ ml ∧ (S.take n).all (fun v => v.category == 1) = true then some (.inr (.inr ((y, 0, (S.take n).reverse ++ List.replicate (ml - n) .null, [], w), M, pc, L, S.drop n))) else none
/-- an instance call: the receiver's class is the method's -/
def q_callV (M pc : Nat) (L S : List Value) (w : q_M) (y n ml ci : Nat) : Option q_D := match S[n - 1]? with
  | some (.ref a) => if (w.1[a]?).map Prod.fst = some ci ∧ 0 < n then q_call M pc L S w y n ml else none
  | _ => none
def q_ret1 (S : List Value) (w : q_M) (rt : Nat) : Option q_D := match S with
  | [.int x] => if rt = 1 ∨ (rt = 2 ∧ (x = 0 ∨ x = 1)) then some (.inl (some (.int x), w)) else none
  | _ => none
def q_sw (M : Nat) (L S : List Value) (w : q_M) (lo hi : Int) (ts : List Nat) (d : Nat) : Option q_D := match S with
  | .int x :: S => if x.toInt < lo ∨ hi < x.toInt then q_go M d L S w else
      (match ts[(x.toInt - lo).toNat]? with
      | some t => q_go M t L S w
      | none => none)
  | _ => none
def q_lsw (ps : List (Int × Int)) (ts : List Nat) (d : Nat) (x : Int32) : Nat := match ps, ts with
  | (k, _) :: ps, t :: ts => if x.toInt = k then t else q_lsw ps ts d x
  | _, _ => d
/-- Math.max, Math.min -/
def q_mm (M pc : Nat) (L S : List Value) (w : q_M) (f : Int32 → Int32 → Int32) : Option q_D := match S with
  | .int y :: .int x :: S => if S.length ≤ 4 then q_go M pc L (.int (f x y) :: S) w else none
  | _ => none
