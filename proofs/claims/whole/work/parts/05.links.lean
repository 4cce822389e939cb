/-! ===== what the tables must say for an instruction; that they do ===== -/
def q_ln (i : Instr) (n : Nat) : Bool := match i with
  | .bipush _ | .iload _ | .istore _ | .newarray _ => n == 2
  | .sipush _ | .ldc_w _ | .iinc _ _ | .ifCond _ _ | .if_icmp _ _ | .goto _ | .getfield _ | .putfield _ | .getstatic _ | .new _ | .anewarray _ | .invokevirtual _ | .invokestatic _ | .invokespecial _ => n == 3
  | .tableswitch _ _ _ _ | .lookupswitch _ _ => true
  | _ => n == 1
/-- the words of a link: kind, class, place in the pool, what it is -/
def q_wk (k c x g : Nat) : List Jvm.Cond :=
  if k = 0 then [.fieldLink (q_cn c) x (q_T (g / 32) (g % 32)).1 (q_T (g / 32) (g % 32)).2.1 (q_T (g / 32) (g % 32)).2.2.1]
  else if k = 1 then [.fieldLink (q_cn c) x RX3 (if g = 0 then "MARKS" else "ONE_BY") "[I"]
  else if k = 2 then [.methodLink (q_cn c) x (q_y g), .instanceMethod (q_y g), .selects (q_own g) (q_y g) (q_y g), .initialized (q_own g)]
  else if k = 3 then (if g = 149 then [.methodLink (q_cn c) x Lib.Math.max.name, .static Lib.Math.max.name, .initialized "java/lang/Math", .code Lib.Math.max.name Lib.Math.max.code 2 (some .int)] else if g = 150 then [.methodLink (q_cn c) x Lib.Math.min.name, .static Lib.Math.min.name, .initialized "java/lang/Math", .code Lib.Math.min.name Lib.Math.min.code 2 (some .int)] else [.methodLink (q_cn c) x (q_y g), .static (q_y g), .initialized (q_own g)])
  else if k = 4 then (if g = 999 then [.methodLink (q_cn c) x objectInit, .instanceMethod objectInit, .code objectInit ⟨#[0xb1]⟩ 1 none]
    else if g < 200 then [.methodLink (q_cn c) x (q_y (g % 200)), .instanceMethod (q_y (g % 200)), .initialized (q_own (g % 200))]
    else [.methodLinkNest (q_cn c) x (q_y (g % 200)) "QuietPairs", .instanceMethod (q_y (g % 200)), .initialized (q_own (g % 200))])
  else if k = 5 then [.classLink (q_cn c) x (q_cn g), .instantiable (q_cn g) (q_ft g).length, .initialized (q_cn g)]
  else if k = 6 then [.classLink (q_cn c) x RX0, .arrayOver (.object RX0)]
  else [.constant (q_cn c) x (Int32.ofNat g)]
def q_dec (n : Nat) : List Jvm.Cond := q_wk (n / 4294967296 / 1024 / 16) (n / 4294967296 / 1024 % 16) (n / 4294967296 % 1024) (n % 4294967296)
def q_enc (k c x g : Nat) : Nat := ((k * 16 + c) * 1024 + x) * 4294967296 + g
def q_kd (i : Instr) : Option (Nat × Nat) := match i with
  | .getfield x | .putfield x => some (0, x)
  | .getstatic x => some (1, x)
  | .invokevirtual x => some (2, x)
  | .invokestatic x => some (3, x)
  | .invokespecial x => some (4, x)
  | .new x => some (5, x)
  | .anewarray x => some (6, x)
  | .ldc_w x => some (7, x)
  | _ => none
def q_lkd (c : Nat) (i : Instr) (g : Nat) : Bool := match q_kd i with
  | some (k, x) => decide (k < 16) && decide (x < 1024) && decide (g < 4294967296) && (q_lk c).contains (q_enc k c x g)
  | none => true
/-- a call has its room, and its method's name is as told -/
def q_cl (M y : Nat) : Bool := decide (y < 149) && decide (q_fr y + 1 ≤ q_fr M) && decide (8 + (q_ml y + 11) + q_lo y ≤ q_lo M)
def q_xc (M pc : Nat) (i : Instr) (g : Nat) (pl : List Nat) : Bool := match i with
  | .ifCond _ o | .if_icmp _ o | .goto o => decide ((pc : Int) + o = (g : Int))
  | .getfield _ => decide (g / 32 < 9) && decide (g % 32 < (q_ft (g / 32)).length)
  | .putfield _ => decide (g / 32 < 9) && decide (g % 32 < (q_ft (g / 32)).length) && ((q_T (g / 32) (g % 32)).2.2.2 == false || (q_ini M && decide ((q_T (g / 32) (g % 32)).1 = q_own M)))
  | .getstatic _ => decide (g < 2)
  | .invokevirtual _ => q_cl M g && decide (q_na g = q_np g + 1)
  | .invokestatic _ => if g = 149 ∨ g = 150 then decide (1 ≤ q_fr M) && decide (21 ≤ q_lo M) else q_cl M g && decide (q_na g = q_np g)
  | .invokespecial _ => if g = 999 then decide (1 ≤ q_fr M) && decide (12 ≤ q_lo M) else q_cl M (g % 200) && decide (q_na (g % 200) = q_np (g % 200) + 1) && q_ini (g % 200) && decide (q_rt (g % 200) = 0)
  | .newarray t => decide ((newarray.typeOf t = .int ∧ g = 9) ∨ (newarray.typeOf t = .boolean ∧ g = 10))
  | .anewarray _ => decide (g = 11)
  | .new _ => decide (g < 9)
  | .tableswitch d lo hi os => decide ((pc : Int) + d = (g : Int)) && decide (pl.map Int.ofNat = os.toList.map (fun o => (pc : Int) + o))
  | .lookupswitch d ps => decide ((pc : Int) + d = (g : Int)) && decide (pl.map Int.ofNat = ps.toList.map (fun o => (pc : Int) + o.2)) && (ps.toList.zip (ps.toList.drop 1)).all (fun (a, next) => a.1 < next.1)
  | _ => true
def q_chk1 (M : Nat) (e : Nat × q_E) : Bool := decide (decode (q_b M) e.1 = .ok (e.2.1, e.2.2.1)) && q_ln e.2.1 e.2.2.1 && q_lkd (q_ci M) e.2.1 e.2.2.2.1 && q_xc M e.1 e.2.1 e.2.2.2.1 e.2.2.2.2
/-- the entries a to a + n of a method's code -/
def q_chk (M a n : Nat) : Bool := (((q_code M).drop a).take n).all (q_chk1 M)
def q_chl (c : Nat) : Bool := decide ((q_lp c).map (fun ps => ps.map (fun j => lw_tbl[j]?)) = (q_lk c).map (fun n => (q_dec n).map some))
set_option maxRecDepth 100000 in
theorem q_cl_0 : (List.range 12).all q_chl = true := by decide +kernel
