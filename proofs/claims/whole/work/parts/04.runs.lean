/-! ===== one step of the pure machine; its runs ===== -/
def q_ins (X : Nat × (Nat → Int32)) (M pc : Nat) (L S : List Value) (w : q_M) (i : Instr) (n g : Nat) (pl : List Nat) : Option q_D := match i with
  | .iconst c => q_go M (pc + n) L (.int (Int32.ofInt c) :: S) w
  | .bipush c => q_go M (pc + n) L (.int (Int8.ofInt c).toInt32 :: S) w
  | .sipush c => q_go M (pc + n) L (.int (Int16.ofInt c).toInt32 :: S) w
  | .ldc_w _ => q_go M (pc + n) L (.int (Int32.ofNat g) :: S) w
  | .lconst c => q_go M (pc + n) L (.long (Int64.ofNat c) :: S) w
  | .iload_n k => q_ldi M (pc + n) L S w k
  | .iload k => q_ldi M (pc + n) L S w k
  | .lload_n k => q_ldl M (pc + n) L S w k
  | .aload_n k => q_lda M (pc + n) L S w k
  | .istore_n k => q_sti M (pc + n) L S w k
  | .istore k => q_sti M (pc + n) L S w k
  | .lstore_n k => q_stl M (pc + n) L S w k
  | .astore_n k => q_sta M (pc + n) L S w k
  | .iinc k c => (match L[k]? with
    | some (.int x) => if M = 19 ∧ k = 2 then none else q_go M (pc + n) (q_st1 L k (.int (x + Int32.ofInt c))) S w
    | _ => none)
  | .iadd => q_i2 M (pc + n) L S w (fun x y => x + y)
  | .isub => q_i2 M (pc + n) L S w (fun x y => x - y)
  | .imul => q_i2 M (pc + n) L S w (fun x y => x * y)
  | .iand => q_i2 M (pc + n) L S w (fun x y => x &&& y)
  | .ior => q_i2 M (pc + n) L S w (fun x y => x ||| y)
  | .ixor => q_i2 M (pc + n) L S w (fun x y => x ^^^ y)
  | .ishl => q_i2 M (pc + n) L S w (fun x y => x <<< (y &&& 31))
  | .ishr => q_i2 M (pc + n) L S w (fun x y => x >>> (y &&& 31))
  | .iushr => q_i2 M (pc + n) L S w (fun x y => (x.toUInt32 >>> (y.toUInt32 &&& Int32.toUInt32 31)).toInt32)
  | .idiv => (match S with
    | .int y :: .int x :: S => if y = 0 then none else q_go M (pc + n) L (.int (x / y) :: S) w
    | _ => none)
  | .irem => (match S with
    | .int y :: .int x :: S => if y = 0 then none else q_go M (pc + n) L (.int (x - x / y * y) :: S) w
    | _ => none)
  | .i2l => (match S with
    | .int x :: S => q_go M (pc + n) L (.long x.toInt64 :: S) w
    | _ => none)
  | .lshl => (match S with
    | .int y :: .long x :: S => q_go M (pc + n) L (.long (x <<< (y.toInt64 &&& 63)) :: S) w
    | _ => none)
  | .lor => (match S with
    | .long y :: .long x :: S => q_go M (pc + n) L (.long (x ||| y) :: S) w
    | _ => none)
  | .lcmp => (match S with
    | .long y :: .long x :: S => q_go M (pc + n) L (.int (lg_cmp x y) :: S) w
    | _ => none)
  | .dup => (match S with
    | v :: S => if v.category = 1 then q_go M (pc + n) L (v :: v :: S) w else none
    | _ => none)
  | .pop => (match S with
    | v :: S => if v.category = 1 then q_go M (pc + n) L S w else none
    | _ => none)
  | .dup2 => (match S with
    | v :: u :: S => if v.category = 1 ∧ u.category = 1 then q_go M (pc + n) L (v :: u :: v :: u :: S) w else none
    | _ => none)
  | .ifCond .eq _ => q_c1 M (pc + n) g L S w (fun x => decide (x = 0))
  | .ifCond .ne _ => q_c1 M (pc + n) g L S w (fun x => decide (¬ x = 0))
  | .ifCond .lt _ => q_c1 M (pc + n) g L S w (fun x => decide (x < 0))
  | .ifCond .ge _ => q_c1 M (pc + n) g L S w (fun x => decide (0 ≤ x))
  | .ifCond .le _ => q_c1 M (pc + n) g L S w (fun x => decide (x ≤ 0))
  | .if_icmp .eq _ => q_c2 M (pc + n) g L S w (fun x y => decide (x = y))
  | .if_icmp .ne _ => q_c2 M (pc + n) g L S w (fun x y => decide (¬ x = y))
  | .if_icmp .lt _ => q_c2 M (pc + n) g L S w (fun x y => decide (x < y))
  | .if_icmp .ge _ => q_c2 M (pc + n) g L S w (fun x y => decide (y ≤ x))
  | .if_icmp .gt _ => q_c2 M (pc + n) g L S w (fun x y => decide (y < x))
  | .if_icmp .le _ => q_c2 M (pc + n) g L S w (fun x y => decide (x ≤ y))
  | .goto _ => q_go M g L S w
  | .getfield _ => q_gf M (pc + n) L S w (g / 32) (g % 32)
  | .putfield _ => q_pf M (pc + n) L S w (g / 32) (g % 32)
  | .getstatic _ => q_go M (pc + n) L (.float (UInt32.ofNat g) :: S) w
  | .iaload => q_ald X M (pc + n) L S w 9
  | .baload => q_ald X M (pc + n) L S w 10
  | .aaload => q_ald2 M (pc + n) L S w
  | .iastore => q_ast M (pc + n) L S w 9
  | .bastore => q_ast M (pc + n) L S w 10
  | .aastore => q_ast2 M (pc + n) L S w
  | .arraylength => q_alen X M (pc + n) L S w
  | .new _ => q_new M (pc + n) L S w g
  | .newarray _ => q_newa M (pc + n) L S w g
  | .anewarray _ => q_newa M (pc + n) L S w g
  | .invokevirtual _ => q_callV M (pc + n) L S w g (q_na g) (q_ml g) (q_ci g)
  | .invokestatic _ => if g = 149 then q_mm M (pc + n) L S w (fun x y => if x < y then y else x) else if g = 150 then q_mm M (pc + n) L S w (fun x y => if y < x then y else x) else q_call M (pc + n) L S w g (q_na g) (q_ml g)
  | .invokespecial _ => if g = 999 then (match S with
      | [.ref _] => q_go M (pc + n) L [] w
      | _ => none)
    else (match S[q_na (g % 200) - 1]? with
      | some (.ref _) => if 0 < q_na (g % 200) then q_call M (pc + n) L S w (g % 200) (q_na (g % 200)) (q_ml (g % 200)) else none
      | _ => none)
  | .ireturn => q_ret1 S w (q_rt M)
  | .lreturn => (match S with
    | [.long x] => if q_rt M = 3 then some (.inl (some (.long x), w)) else none
    | _ => none)
  | .return_ => (match S with
    | [] => if q_rt M = 0 then some (.inl (none, w)) else none
    | _ => none)
  | .tableswitch _ lo hi _ => q_sw M L S w lo hi pl g
  | .lookupswitch _ ps => (match S with
    | .int x :: S => q_go M (q_lsw ps.toList pl g x) L S w
    | _ => none)
  | _ => none
def q_nxt (X : Nat × (Nat → Int32)) (σ : q_S) : Option q_D := match q_at σ.1 σ.2.1 with
  | none => none
  | some (i, n, g, pl) => q_ins X σ.1 σ.2.1 σ.2.2.1 σ.2.2.2.1 σ.2.2.2.2 i n g pl
def q_run (X : Nat × (Nat → Int32)) : Nat → q_S → Option (Option Value × q_M)
  | 0, _ => none
  | n + 1, σ => match q_nxt X σ with
    | none => none
    | some (.inl r) => some r
    | some (.inr (.inl σ')) => q_run X n σ'
    | some (.inr (.inr (σc, M, pc, L, S))) => match q_run X n σc with
      | none => none
      | some (r, w) => q_run X n (M, pc, L, r.toList ++ S, w)
theorem q_run_s (X : Nat × (Nat → Int32)) (n : Nat) (σ : q_S) : q_run X (n + 1) σ = match q_nxt X σ with
    | none => none
    | some (.inl r) => some r
    | some (.inr (.inl σ')) => q_run X n σ'
    | some (.inr (.inr (σc, M, pc, L, S))) => match q_run X n σc with
      | none => none
      | some (r, w) => q_run X n (M, pc, L, r.toList ++ S, w) := rfl
theorem q_run_1 {X : Nat × (Nat → Int32)} {n : Nat} : ∀ {σ : q_S} {r : Option Value × q_M}, q_run X n σ = some r → q_run X (n + 1) σ = some r := by
  induction n with
  | zero => intro σ r h; cases h
  | succ n ih =>
    intro σ r h
    rw [q_run_s] at h ⊢
    cases hn : q_nxt X σ with
    | none => rw [hn] at h; cases h
    | some d =>
      rw [hn] at h
      rcases d with d | d | ⟨σc, M, pc, L, S⟩
      · exact h
      · exact ih h
      · dsimp only at h ⊢
        cases hc : q_run X n σc with
        | none => rw [hc] at h; cases h
        | some y =>
          rw [hc] at h
          rw [ih hc]
          exact ih h
theorem q_run_le {X : Nat × (Nat → Int32)} {n k : Nat} (hk : n ≤ k) {σ : q_S} {r : Option Value × q_M} (h : q_run X n σ = some r) : q_run X k σ = some r := by
  induction hk with
  | refl => exact h
  | step _ ih => exact q_run_1 ih
/-- the run's end, if there is one -/
def q_ev (X : Nat × (Nat → Int32)) (σ : q_S) (r : Option Value × q_M) : Prop := ∃ n, q_run X n σ = some r
theorem q_ev_det {X : Nat × (Nat → Int32)} {σ : q_S} {r r' : Option Value × q_M} (h : q_ev X σ r) (h' : q_ev X σ r') : r = r' := by
  obtain ⟨n, h⟩ := h
  obtain ⟨k, h'⟩ := h'
  have a := q_run_le (Nat.le_add_right n k) h
  have b := q_run_le (Nat.le_add_left k n) h'
  exact Option.some.inj (a.symm.trans b)
noncomputable def q_ex (X : Nat × (Nat → Int32)) (σ : q_S) : Option (Option Value × q_M) := @dite _ (∃ r, q_ev X σ r) (Classical.propDecidable _) (fun h => some h.choose) (fun _ => none)
theorem q_ex_iff {X : Nat × (Nat → Int32)} {σ : q_S} {r : Option Value × q_M} : q_ex X σ = some r ↔ q_ev X σ r := by
  constructor
  · intro h
    unfold q_ex at h
    by_cases hx : ∃ r, q_ev X σ r
    · rw [dif_pos hx] at h
      rw [← Option.some.inj h]
      exact hx.choose_spec
    · rw [dif_neg hx] at h; cases h
  · intro h
    unfold q_ex
    rw [dif_pos ⟨r, h⟩]
    exact congrArg some (q_ev_det (Exists.choose_spec (⟨r, h⟩ : ∃ r, q_ev X σ r)) h)
theorem q_ex_ext {X : Nat × (Nat → Int32)} {σ : q_S} {o : Option (Option Value × q_M)} (h : ∀ r, q_ev X σ r ↔ o = some r) : q_ex X σ = o := by
  cases o with
  | some r => exact q_ex_iff.mpr ((h r).mpr rfl)
  | none =>
    cases hx : q_ex X σ with
    | none => rfl
    | some r => exact absurd ((h r).mp (q_ex_iff.mp hx)) (by simp)
/-- the three ways to go on -/
theorem q_ex_ret {X : Nat × (Nat → Int32)} {σ : q_S} {r : Option Value × q_M} (h : q_nxt X σ = some (.inl r)) : q_ex X σ = some r :=
  q_ex_iff.mpr ⟨1, by rw [q_run_s, h]⟩
theorem q_ex_go {X : Nat × (Nat → Int32)} {σ σ' : q_S} (h : q_nxt X σ = some (.inr (.inl σ'))) : q_ex X σ = q_ex X σ' := by
  refine q_ex_ext fun r => ⟨fun ⟨n, hn⟩ => ?_, fun hr => ?_⟩
  · cases n with
    | zero => cases hn
    | succ n =>
      rw [q_run_s, h] at hn
      exact q_ex_iff.mpr ⟨n, hn⟩
  · obtain ⟨n, hn⟩ := q_ex_iff.mp hr
    exact ⟨n + 1, by rw [q_run_s, h]; exact hn⟩
theorem q_ex_call {X : Nat × (Nat → Int32)} {σ σc : q_S} {M pc : Nat} {L S : List Value} (h : q_nxt X σ = some (.inr (.inr (σc, M, pc, L, S)))) :
    q_ex X σ = (q_ex X σc).bind (fun r => q_ex X (M, pc, L, r.1.toList ++ S, r.2)) := by
  refine q_ex_ext fun r => ⟨fun ⟨n, hn⟩ => ?_, fun hr => ?_⟩
  · cases n with
    | zero => cases hn
    | succ n =>
      rw [q_run_s, h] at hn
      dsimp only at hn
      cases hc : q_run X n σc with
      | none => rw [hc] at hn; cases hn
      | some y =>
        rw [hc] at hn
        rw [q_ex_iff.mpr ⟨n, hc⟩, Option.bind_some]
        exact q_ex_iff.mpr ⟨n, hn⟩
  · cases hc : q_ex X σc with
    | none => rw [hc] at hr; cases hr
    | some y =>
      rw [hc, Option.bind_some] at hr
      obtain ⟨n, hn⟩ := q_ex_iff.mp hc
      obtain ⟨k, hk⟩ := q_ex_iff.mp hr
      refine ⟨n + k + 1, ?_⟩
      rw [q_run_s, h]
      dsimp only
      rw [q_run_le (Nat.le_add_right n k) hn]
      exact q_run_le (Nat.le_add_left k n) hk
/-- what the machine has made stays made -/
theorem q_go_K {M pc : Nat} {L S : List Value} {w : q_M} {d : q_D} (h : q_go M pc L S w = some d) : d = .inr (.inl (M, pc, L, S, w)) := (Option.some.inj h).symm
def q_grow (K : q_K) (d : q_D) : Prop := match d with
  | .inl r => K <+: r.2.1
  | .inr (.inl σ) => K <+: σ.2.2.2.2.1
  | .inr (.inr (σc, _)) => K <+: σc.2.2.2.2.1
set_option maxHeartbeats 4000000 in
theorem q_ins_grow {X : Nat × (Nat → Int32)} {M pc : Nat} {L S : List Value} {w : q_M} {i : Instr} {n g : Nat} {pl : List Nat} {d : q_D} (h : q_ins X M pc L S w i n g pl = some d) : q_grow w.1 d := by
  unfold q_ins at h
  split at h
  all_goals try simp only [q_i2, q_c1, q_c2, q_ldi, q_lda, q_ldl, q_sti, q_sta, q_stl, q_gf, q_pf, q_ald, q_ast, q_ald2, q_ast2, q_new, q_newa, q_alen, q_callV, q_call, q_ret1, q_sw, q_mm, q_go] at h
  all_goals (repeat' (split at h))
  all_goals first
    | (cases h; done)
    | (cases h; first | exact List.prefix_refl _ | exact List.prefix_append _ _)
theorem q_nxt_grow {X : Nat × (Nat → Int32)} {σ : q_S} {d : q_D} (h : q_nxt X σ = some d) : q_grow σ.2.2.2.2.1 d := by
  unfold q_nxt at h
  split at h
  · cases h
  · exact q_ins_grow h
theorem q_run_grow {X : Nat × (Nat → Int32)} {n : Nat} : ∀ {σ : q_S} {r : Option Value × q_M}, q_run X n σ = some r → σ.2.2.2.2.1 <+: r.2.1 := by
  induction n with
  | zero => intro σ r h; cases h
  | succ n ih =>
    intro σ r h
    rw [q_run_s] at h
    cases hn : q_nxt X σ with
    | none => rw [hn] at h; cases h
    | some d =>
      rw [hn] at h
      have hg := q_nxt_grow hn
      rcases d with d | d | ⟨σc, M, pc, L, S⟩
      · cases h; exact hg
      · exact List.IsPrefix.trans hg (ih h)
      · dsimp only at h
        cases hc : q_run X n σc with
        | none => rw [hc] at h; cases h
        | some y =>
          rw [hc] at h
          exact List.IsPrefix.trans hg (List.IsPrefix.trans (ih hc) (ih h))
theorem q_sl_le {K K' : q_K} (h : K <+: K') : K.length ≤ K'.length ∧ q_sl K ≤ q_sl K' := by
  obtain ⟨t, rfl⟩ := h
  exact ⟨by simp, by simp [q_sl]⟩
