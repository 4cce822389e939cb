/-! THE CLAIM OUT OF ONE WALK OF THE LAW'S BODY. Your part is whole_start (and what it stands on); all else here is the same for every law, but numbers. -/
def R_law : String := "QuietPairsLaw"
def lw_P (b : Addr) (xs : List Int32) (args : Array Value) (s : State) : Prop := args = #[.ref b] ∧ s.IntsAt b xs ∧ xs.length ≤ 3584 ∧ (Jvm.Cond.and given_1 narrow_1).before args s = true
def lw_Q (_ : Array Value) (s : State) (o : Outcome) (t : State) : Prop := o = .returned (some (.int 1)) ∧ Framed s o t [] 600000 7302250
def lw_Z (below : List Frame) (a : Array Value) (s : State) : State → Prop := fun t => ∃ o, t.status = .running ∧ Ended t below o ∧ lw_Q a s o t
/-- the law's own end, with 1 on the stack, nothing written that was there before, its room as the claim has it -/
theorem lw_ret {p : Program} {l : Launch} {e : Env} {s : State} {m : MethodId} {below : List Frame} {meth : Method} {c : Code} {b : Nat} (hx : p.tables.exec = Jvm.exec) (hb : c.code = code) (hr : meth.sig.returnType = ret) (hlocks : meth.locks = false) {pc : Nat} {H : Heap} {ls : Array Slot} (hdg : decode code pc = .ok (.ireturn, 1)) : W p l e room_1 s m #[Value.ref b] below meth c H [] 600000 7302250 (lw_Z below #[Value.ref b] s) (F0 m pc ls [.int 1]) := by
  intro T hT X
  obtain ⟨fs, hret, hrun, hended, hW, hframe⟩ := X.leave (v := some (.int 1)) (hlocks := hlocks) (fun h => by rw [hr] at h; cases h)
  have hmeth' : T.vm.method? m = some meth := X.method'
  refine ⟨T.setFrames fs, ?_, .returned (some (.int 1)), hrun, hended, rfl, ⟨_, rfl⟩, hW, hframe⟩
  jvm_step X.here [X.here.top, hx, hb, hdg, hmeth', hr, ret, narrow_b1]
  (try refine ⟨rfl, ?_⟩); (try refine ⟨rfl, ?_⟩)
  first | (intro acts; rw [hret _ acts rfl rfl rfl]) | rw [hret _ _ rfl rfl rfl]
  exact Steps.refl _
/-- what holds at the law's entry: the machine, the code, the tables' words (any of lw_tbl by 'hts w (by decide +kernel)'), the script of L ints xs at the cell b, what the Statement gives of the start (any of its parts by flat_of_before) -/
def lw_At (p : Program) (s : State) (m : MethodId) (meth : Method) (c : Code) (b L : Nat) (xs : Nat → Int32) : Prop :=
  p.tables.exec = Jvm.exec ∧ c.code = code ∧ meth.sig.returnType = ret ∧ c.maxLocals = 4 ∧ s.vm.findClass R_law = some m.cls ∧ (∀ w ∈ lw_tbl, w.before #[Value.ref b] s = true) ∧ va_X b L xs s s.heap ∧ b < s.heap.size ∧ meth.locks = false ∧ (Jvm.Cond.and given_1 narrow_1).before #[Value.ref b] s = true
/-! ===== the law's walk out of a run of the pure machine ===== -/
def q_w0 : q_M := ([], fun _ _ => 0, fun _ _ => none, fun _ => 0)
/-- the law's start in the pure machine -/
def q_l0 : q_S := (151, 0, [.float 2, .null, .null, .null], [], q_w0)
theorem q_arrT {args : Array Value} {s : State} {ty : FieldType} (h : (Jvm.Cond.arrayClass ty).before args s = true) : ∃ cA : ClassId, ArrOfT s cA ty ∧ s.vm.findClass ("[" ++ ty.toString) = some cA := by
  obtain ⟨cA, kA, comp, hfind, hk, hkind⟩ := Cond.arrayClass_spec h
  exact ⟨cA, fun n z => ⟨(fun k h => by cases h), kA, hk, comp, hkind⟩, hfind⟩
theorem q_marks : ∀ j, j < 16 → Jvm.Cond.eq (.elem (.static RX3 "MARKS" "[I") (.int (Int32.ofNat j))) (.int (q_x0 j)) ∈ flatC (Jvm.Cond.and given_1 narrow_1) := by decide +kernel
theorem q_ones : ∀ j, j < 31 → Jvm.Cond.eq (.elem (.static RX3 "ONE_BY" "[I") (.int (Int32.ofNat j))) (.int (q_x1 j)) ∈ flatC (Jvm.Cond.and given_1 narrow_1) := by decide +kernel
theorem q_inst0 : (List.range 9).all (fun ci => decide (Jvm.Cond.instantiable (q_cn ci) (q_ft ci).length ∈ lw_tbl)) = true := by decide +kernel
set_option maxHeartbeats 4000000 in
theorem q_start {p : Program} {e : Env} {s : State} {m : MethodId} {below : List Frame} {meth : Method} {c : Code} (l : Launch) {b L : Nat} {xs : Nat → Int32} (C0 : lw_At p s m meth c b L xs) {n : Nat} {w' : q_M} (hrun : q_run (L, xs) n q_l0 = some (some (.int 1), w')) (h1 : w'.1.length ≤ 600000) (h2 : q_sl w'.1 ≤ 7302250) : W p l e room_1 s m #[Value.ref b] below meth c s.heap [] 0 0 (lw_Z below #[Value.ref b] s) (entryFrame m ([Value.ref b] : List Value).toArray 4) := by
  obtain ⟨hx, hb, hr, hml, hown, hts, hX, hbl, hlocks, hgv⟩ := id C0
  have hs := flat_of_before _ hgv
  have hA : ∀ a : Nat, a < s.heap.size → ¬ q_A s.heap.size a := fun a ha h => absurd h (Nat.not_le.mpr ha)
  -- the two tables
  obtain ⟨tM, ht1, ht2⟩ := va_Tof (tm := .static RX3 "MARKS" "[I") (ty := .int) (N := 16) (f := fun j => .int (q_x0 j)) (A := q_A s.heap.size) (by decide) (hs _ (by decide +kernel)) (va_eqt (hs _ (show Jvm.Cond.eq (.length (.static RX3 "MARKS" "[I")) (.int 16) ∈ _ by decide +kernel))) (fun j hj => va_eqt (hs _ (q_marks j hj))) hA
  obtain ⟨tO, ho1, ho2⟩ := va_Tof (tm := .static RX3 "ONE_BY" "[I") (ty := .int) (N := 31) (f := fun j => .int (q_x1 j)) (A := q_A s.heap.size) (by decide) (hs _ (by decide +kernel)) (va_eqt (hs _ (show Jvm.Cond.eq (.length (.static RX3 "ONE_BY" "[I")) (.int 31) ∈ _ by decide +kernel))) (fun j hj => va_eqt (hs _ (q_ones j hj))) hA
  have hz1 := va_Zref (A := q_A s.heap.size) (hts (.laysStatic RX3 "MARKS" "[I") (by decide +kernel)) (hts (.initialized RX3) (by decide +kernel)) ht1 hA
  have hz2 := va_Zref (A := q_A s.heap.size) (hts (.laysStatic RX3 "ONE_BY" "[I") (by decide +kernel)) (hts (.initialized RX3) (by decide +kernel)) ho1 hA
  have hscr : va_T .int b L (fun j => .int (xs j)) (q_A s.heap.size) s s.heap := by
    obtain ⟨scr, g1, g2, g3, g4, g5⟩ := hX
    exact ⟨scr, g1, g2, g3, by omega, by rw [g4] <;> rfl, g5, hA b hbl⟩
  -- the classes
  obtain ⟨cI, hI1, hI2⟩ := q_arrT (hts (.arrayClass .int) q_ac_I)
  obtain ⟨cZ, hZ1, hZ2⟩ := q_arrT (hts (.arrayClass .boolean) q_ac_Z)
  have hAO : va_AO RX0 s := va_AO.of (hts (.arrayOver (.object RX0)) (by decide +kernel))
  obtain ⟨comp, cD, kD, hD1, hD2, hD3, hD4, hD5⟩ := Cond.arrayOver_spec hAO
  have hkn : ∀ ci : Nat, ∃ (cC : ClassId) (iS : Nat → Nat), ci < 9 → u_Kn s (q_cn ci) (q_T ci) (q_ft ci).length cC iS := by
    intro ci
    by_cases hci : ci < 9
    · obtain ⟨cC, iS, h⟩ := u_known (C := q_cn ci) (T := q_T ci) (N := (q_ft ci).length) (n := (q_ft ci).length) hts (fun w hw => (List.mem_filter.mp (q_hin hci w hw)).1) (hts _ (of_decide_eq_true (List.all_eq_true.mp q_inst0 ci (List.mem_range.mpr hci))))
      exact ⟨cC, iS, fun _ => h⟩
    · exact ⟨0, fun _ => 0, fun h => absurd h hci⟩
  have hK : va_K (fun ci => (hkn ci).choose, fun ci => (hkn ci).choose_spec.choose) vwCl (q_tys cI cZ cD) s := by
    refine ⟨fun ci q hq => ?_, fun k q hq => ?_⟩
    · have hci : ci < 9 := (List.getElem?_eq_some_iff.mp hq).1
      rw [q_vw hci] at hq
      cases hq
      exact (hkn ci).choose_spec.choose_spec hci
    · match k, hq with
      | 0, hq => cases hq; exact ⟨hI1, hI2⟩
      | 1, hq => cases hq; exact ⟨hZ1, hZ2⟩
      | 2, hq => cases hq; exact ⟨fun n z => ⟨(fun k h => by cases h), kD, hD3, comp, hD4⟩, kD, comp, hD3, hD4, hD1, hD5⟩
      | k + 3, hq => simp [q_tys] at hq
  have C : q_Cx p room_1 s m #[Value.ref b] meth c (fun ci => (hkn ci).choose, fun ci => (hkn ci).choose_spec.choose) cI cZ cD s.heap.size (fun k => if k = 0 then tM else if k = 1 then tO else b) (L, xs) 151 0 0 600000 7302250 := by
    refine ⟨hx, hb, hml, hown, fun w hw => hts w (List.mem_filter.mp hw).1, ⟨hAO, fun o k y h hm => va_Nw.of rfl (hts _ hm)⟩, fun h => absurd h (by decide +kernel), hK, ⟨⟨hz1, ht2⟩, ⟨hz2, ho2⟩, fun u h0 h1 => ?_⟩, rfl, rfl, rfl, rfl, rfl⟩
    have hu0 : ¬ u.toNat = 0 := fun z => h0 (UInt32.toNat_inj.mp z)
    have hu1 : ¬ u.toNat = 1 := fun z => h1 (UInt32.toNat_inj.mp z)
    dsimp only
    rw [if_neg hu0, if_neg hu1]
    exact hscr
  rw [lg_entry_eq]
  have hl := lv_entry ([.ref b]) (n := 4) (Nat.le_of_ble_eq_true rfl)
  generalize (lg_sl ([.ref b]) ++ List.replicate (4 - (lg_sl ([.ref b])).length) Slot.unset).toArray = ls at hl ⊢
  have hLo : q_Lo s.heap.size (fun k => if k = 0 then tM else if k = 1 then tO else b) 151 [.float 2, .null, .null, .null] ls := by
    refine ⟨rfl, hl.1, hl.2.1, fun k v hk hv => ?_, fun k v hk hv => ?_⟩
    rotate_left
    · match k, hk with
      | 0, hk => cases hk; simp [Value.category] at hv
      | 1, hk => cases hk; simp [Value.category] at hv
      | 2, hk => cases hk; simp [Value.category] at hv
      | 3, hk => cases hk; simp [Value.category] at hv
      | k + 4, hk => cases hk
    match k, hk with
    | 0, hk => cases hk; exact hl.2.2 _ List.mem_cons_self
    | 1, hk => cases hk; exact absurd rfl hv
    | 2, hk => cases hk; exact absurd rfl hv
    | 3, hk => cases hk; exact absurd rfl hv
    | k + 4, hk => cases hk
  refine q_main l n q_l0 (some (.int 1)) w' C hrun h1 h2 ?_ s.heap [] 0 0 ls hLo (fun k q h => by cases h) va_S.rf rfl rfl
  intro pc i H locs cells slots ls2 hd hcase hP2 hS2 hc2 hs2
  have hi : i = .ireturn := by
    rcases hcase with ⟨h0, -, hh⟩ | ⟨h0, -⟩ | ⟨h0, -⟩
    · cases hh
    · exact h0
    · exact absurd h0 (by decide +kernel)
  subst hi
  refine va_forget (fun q hq => hS2.2.2 q hq) ?_
  refine W.widen (k := 600000) (n := 7302250) (by omega) (by omega) ?_
  exact lw_ret hx hb hr hlocks hd
