/-- the way of a step: the method stays; what a return says -/
def q_way (M : Nat) (d : q_D) : Prop := match d with
  | .inl _ => True
  | .inr (.inl σ) => σ.1 = M
  | .inr (.inr (_, M', _)) => M' = M
set_option maxHeartbeats 4000000 in
theorem q_ins_way {X : Nat × (Nat → Int32)} {M pc : Nat} {L S : List Value} {w : q_M} {i : Instr} {n g : Nat} {pl : List Nat} {d : q_D} (h : q_ins X M pc L S w i n g pl = some d) : q_way M d := by
  unfold q_ins at h
  split at h
  all_goals try simp only [q_i2, q_c1, q_c2, q_ldi, q_lda, q_ldl, q_sti, q_sta, q_stl, q_gf, q_pf, q_ald, q_ast, q_ald2, q_ast2, q_new, q_newa, q_alen, q_callV, q_call, q_ret1, q_sw, q_mm, q_go] at h
  all_goals (repeat' (split at h))
  all_goals first
    | (cases h; done)
    | (cases h; first | exact trivial | exact rfl)
/-- at a return -/
def q_HR (p : Program) (l : Launch) (e : Env) (R : Room) (s : State) (m : MethodId) (args : Array Value) (below : List Frame) (meth : Method) (c : Code) (Q : State → Prop) (D : va_G) (cI cZ cD : ClassId) (base : Nat) (T : Nat → Nat) (M N0 S0 : Nat) (r : Option Value) (w : q_M) : Prop :=
  ∀ (pc : Nat) (i : Instr) (H : Heap) (locs : List Loc) (cells slots : Nat) (ls : Array Slot), decode (q_b M) pc = .ok (i, 1) → ((q_rt M = 0 ∧ i = .return_ ∧ r = none) ∨ (i = .ireturn ∧ ∃ x : Int32, r = some (.int x) ∧ (q_rt M = 1 ∨ (q_rt M = 2 ∧ (x = 0 ∨ x = 1)))) ∨ (q_rt M = 3 ∧ i = .lreturn ∧ ∃ x : Int64, r = some (.long x))) →
    va_P D vwCl (q_ws base cI cZ cD w) H → va_S (q_A base) s.heap H locs → cells + N0 = w.1.length → slots + S0 = q_sl w.1 → W p l e R s m args below meth c H locs cells slots Q (F0 m pc ls (r.toList.map (q_rl base T)))
section QX
variable {p : Program} {l : Launch} {e : Env} {R : Room} {s : State} {m : MethodId} {args : Array Value} {below : List Frame} {meth : Method} {c : Code} {Q : State → Prop}
variable {D : va_G} {cI cZ cD : ClassId} {base : Nat} {T : Nat → Nat} {X : Nat × (Nat → Int32)} {M N0 S0 Nf Sf : Nat}
variable {pc n g : Nat} {pl : List Nat} {L S : List Value} {w : q_M} {σ' : q_S}
theorem q_step_go (C : q_Cx p R s m args meth c D cI cZ cD base T X M N0 S0 Nf Sf) {i : Instr} (hat : q_at M pc = some (i, n, g, pl)) (h : q_ins X M pc L S w i n g pl = some (.inr (.inl σ'))) (hw0 : w.1.length ≤ Nf ∧ q_sl w.1 ≤ Sf) (hf : σ'.2.2.2.2.1.length ≤ Nf ∧ q_sl σ'.2.2.2.2.1 ≤ Sf) (k : q_G p l e R s m args below meth c Q D cI cZ cD base T N0 S0 σ') : q_G p l e R s m args below meth c Q D cI cZ cD base T N0 S0 (M, pc, L, S, w) := by
  cases i with
  | iconst x => exact q_t_iconst C hat h k
  | bipush x => exact q_t_bipush C hat h k
  | sipush x => exact q_t_sipush C hat h k
  | lconst x => exact q_t_lconst C hat h k
  | ldc_w x => exact q_t_ldcw C hat h k
  | iload_n x => exact q_t_iload_n C hat h k
  | iload x => exact q_t_iload C hat h k
  | lload_n x => exact q_t_lload_n C hat h k
  | aload_n x => exact q_t_aload_n C hat h k
  | istore_n x => exact q_t_istore_n C hat h k
  | istore x => exact q_t_istore C hat h k
  | astore_n x => exact q_t_astore_n C hat h k
  | lstore_n x => exact q_t_lstore_n C hat h k
  | iinc x y => exact q_t_iinc C hat h k
  | iadd => exact q_t_iadd C hat h k
  | isub => exact q_t_isub C hat h k
  | imul => exact q_t_imul C hat h k
  | iand => exact q_t_iand C hat h k
  | ior => exact q_t_ior C hat h k
  | ixor => exact q_t_ixor C hat h k
  | ishl => exact q_t_ishl C hat h k
  | ishr => exact q_t_ishr C hat h k
  | iushr => exact q_t_iushr C hat h k
  | idiv => exact q_t_idiv C hat h k
  | irem => exact q_t_irem C hat h k
  | i2l => exact q_t_i2l C hat h k
  | lshl => exact q_t_lshl C hat h k
  | lor => exact q_t_lor C hat h k
  | lcmp => exact q_t_lcmp C hat h k
  | dup => exact q_t_dup C hat h k
  | pop => exact q_t_pop C hat h k
  | dup2 => exact q_t_dup2 C hat h k
  | goto x => exact q_t_goto C hat h k
  | getfield x => exact q_t_getfield C hat h k
  | putfield x => exact q_t_putfield C hat h k
  | getstatic x => exact q_t_getstatic C hat h k
  | iaload => exact q_t_iaload C hat h k
  | baload => exact q_t_baload C hat h k
  | aaload => exact q_t_aaload C hat h k
  | iastore => exact q_t_iastore C hat h k
  | bastore => exact q_t_bastore C hat h k
  | aastore => exact q_t_aastore C hat h k
  | arraylength => exact q_t_arraylength C hat h k
  | tableswitch a b d f => exact q_t_tableswitch C hat h k
  | lookupswitch a b => exact q_t_lookupswitch C hat h k
  | new x => exact q_t_new C hat h hf k
  | anewarray x => exact q_t_anewarray C hat h hf k
  | newarray t =>
    obtain ⟨hd, hn, hw, hxc⟩ := q_cert hat
    have h1 : (newarray.typeOf t = .int ∧ g = 9) ∨ (newarray.typeOf t = .boolean ∧ g = 10) := by simpa [q_xc] using hxc
    rcases h1 with ⟨h1, h2⟩ | ⟨h1, h2⟩
    · exact q_t_newarray_int C h1 h2 hat h hf k
    · exact q_t_newarray_boolean C h1 h2 hat h hf k
  | ifCond co x =>
    cases co with
    | eq => exact q_t_if_eq C hat h k
    | ne => exact q_t_if_ne C hat h k
    | lt => exact q_t_if_lt C hat h k
    | ge => exact q_t_if_ge C hat h k
    | le => exact q_t_if_le C hat h k
    | _ => exact nomatch (show (none : Option q_D) = some _ from h)
  | if_icmp co x =>
    cases co with
    | eq => exact q_t_icmp_eq C hat h k
    | ne => exact q_t_icmp_ne C hat h k
    | lt => exact q_t_icmp_lt C hat h k
    | ge => exact q_t_icmp_ge C hat h k
    | gt => exact q_t_icmp_gt C hat h k
    | le => exact q_t_icmp_le C hat h k
  | invokestatic x =>
    by_cases h1 : g = 149
    · have h2 : q_mm M (pc + n) L S w (fun x y => if x < y then y else x) = some (.inr (.inl σ')) := by
        have h3 := h
        unfold q_ins at h3
        dsimp only at h3
        rw [if_pos h1] at h3
        exact h3
      exact q_t_mmax C h1 hat h2 hw0 k
    · by_cases h0 : g = 150
      · have h2 : q_mm M (pc + n) L S w (fun x y => if y < x then y else x) = some (.inr (.inl σ')) := by
          have h3 := h
          unfold q_ins at h3
          dsimp only at h3
          rw [if_neg h1, if_pos h0] at h3
          exact h3
        exact q_t_mmin C h0 hat h2 hw0 k
      · have h3 := h
        unfold q_ins at h3
        dsimp only at h3
        rw [if_neg h1, if_neg h0] at h3
        unfold q_call at h3
        split at h3 <;> cases h3
  | invokespecial x =>
    by_cases h1 : g = 999
    · have h2 : (match S with | [.ref _] => q_go M (pc + n) L [] w | _ => none) = some (.inr (.inl σ')) := by
        have h3 := h
        unfold q_ins at h3
        dsimp only at h3
        rw [if_pos h1] at h3
        exact h3
      exact q_t_objinit C h1 hat h2 k
    · have h3 := h
      unfold q_ins at h3
      dsimp only at h3
      rw [if_neg h1] at h3
      unfold q_call at h3
      repeat' (split at h3)
      all_goals cases h3
  | invokevirtual x =>
    have h3 : q_callV M (pc + n) L S w g (q_na g) (q_ml g) (q_ci g) = some (.inr (.inl σ')) := h
    unfold q_callV q_call at h3
    repeat' (split at h3)
    all_goals cases h3
  | ireturn =>
    have h3 : q_ret1 S w (q_rt M) = some (.inr (.inl σ')) := h
    unfold q_ret1 at h3
    repeat' (split at h3)
    all_goals cases h3
  | lreturn =>
    have h3 : (match S with | [.long x] => if q_rt M = 3 then some (.inl (some (.long x), w)) else none | _ => (none : Option q_D)) = some (.inr (.inl σ')) := h
    repeat' (split at h3)
    all_goals cases h3
  | return_ =>
    have h3 : (match S with | [] => if q_rt M = 0 then some (.inl (none, w)) else none | _ => (none : Option q_D)) = some (.inr (.inl σ')) := h
    repeat' (split at h3)
    all_goals cases h3
  | _ => exact nomatch (show (none : Option q_D) = some _ from h)
set_option maxHeartbeats 4000000 in
theorem q_step_ret (C : q_Cx p R s m args meth c D cI cZ cD base T X M N0 S0 Nf Sf) {i : Instr} {r : Option Value × q_M} (hat : q_at M pc = some (i, n, g, pl)) (h : q_ins X M pc L S w i n g pl = some (.inl r)) (k : q_HR p l e R s m args below meth c Q D cI cZ cD base T M N0 S0 r.1 r.2) : q_G p l e R s m args below meth c Q D cI cZ cD base T N0 S0 (M, pc, L, S, w) := by
  obtain ⟨hd, hn, hw, hxc⟩ := q_cert hat
  intro H locs cells slots ls hL hP hS hc hs
  unfold q_ins at h
  split at h
  all_goals try simp only [q_i2, q_c1, q_c2, q_ldi, q_lda, q_ldl, q_sti, q_sta, q_stl, q_gf, q_pf, q_ald, q_ast, q_ald2, q_ast2, q_new, q_newa, q_alen, q_callV, q_call, q_ret1, q_sw, q_mm, q_go] at h
  all_goals (repeat' (split at h))
  all_goals first
    | (cases h; done)
    | (cases h
       obtain rfl : n = 1 := by simpa [q_ln] using hn
       first
         | (rename_i hq; exact k pc _ H locs cells slots ls hd (Or.inl ⟨hq, rfl, rfl⟩) hP hS hc hs)
         | (rename_i hq; exact k pc _ H locs cells slots ls hd (Or.inr (Or.inl ⟨rfl, _, rfl, hq⟩)) hP hS hc hs)
         | (rename_i hq; exact k pc _ H locs cells slots ls hd (Or.inr (Or.inr ⟨hq, rfl, _, rfl⟩)) hP hS hc hs))
/-- what a call of the pure machine is -/
def q_isCall (M pc : Nat) (L S : List Value) (w : q_M) (i : Instr) (g y : Nat) (σc : q_S) (M' pc' : Nat) (L' S' : List Value) : Prop :=
  M' = M ∧ pc' = pc ∧ L' = L ∧ S' = S.drop (q_na y) ∧ σc = (y, 0, (S.take (q_na y)).reverse ++ List.replicate (q_ml y - q_na y) .null, [], w) ∧ q_na y ≤ S.length ∧ (S.drop (q_na y)).length ≤ 4 ∧ q_na y ≤ q_ml y ∧ (S.take (q_na y)).all (fun v => v.category == 1) = true
theorem q_call_of {M pc : Nat} {L S : List Value} {w : q_M} {y n ml : Nat} {d : q_S × Nat × Nat × List Value × List Value} (h : q_call M pc L S w y n ml = some (.inr (.inr d))) : d = ((y, 0, (S.take n).reverse ++ List.replicate (ml - n) .null, [], w), M, pc, L, S.drop n) ∧ n ≤ S.length ∧ (S.drop n).length ≤ 4 ∧ n ≤ ml ∧ (S.take n).all (fun v => v.category == 1) = true := by
  unfold q_call at h
  split at h
  · rename_i hq
    cases h
    exact ⟨rfl, hq⟩
  · cases h
theorem q_call_no {M pc : Nat} {L S : List Value} {w : q_M} {d : q_S × Nat × Nat × List Value × List Value} {X : Nat × (Nat → Int32)} {i : Instr} {n g : Nat} {pl : List Nat} (h : q_ins X M pc L S w i n g pl = some (.inr (.inr d))) : (∃ x a, i = .invokevirtual x ∧ S[q_na g - 1]? = some (.ref a) ∧ (w.1[a]?).map Prod.fst = some (q_ci g) ∧ q_call M (pc + n) L S w g (q_na g) (q_ml g) = some (.inr (.inr d))) ∨ (∃ x, i = .invokestatic x ∧ ¬ (g = 149 ∨ g = 150) ∧ q_call M (pc + n) L S w g (q_na g) (q_ml g) = some (.inr (.inr d))) ∨ (∃ x a, i = .invokespecial x ∧ ¬ g = 999 ∧ S[q_na (g % 200) - 1]? = some (.ref a) ∧ q_call M (pc + n) L S w (g % 200) (q_na (g % 200)) (q_ml (g % 200)) = some (.inr (.inr d))) := by
  cases i with
  | invokevirtual x =>
    have h3 : q_callV M (pc + n) L S w g (q_na g) (q_ml g) (q_ci g) = some (.inr (.inr d)) := h
    unfold q_callV at h3
    split at h3
    · rename_i a ha
      split at h3
      · rename_i hq
        exact Or.inl ⟨x, a, rfl, ha, hq.1, h3⟩
      · cases h3
    · cases h3
  | invokestatic x =>
    have h3 := h
    unfold q_ins at h3
    dsimp only at h3
    split at h3
    · unfold q_mm q_go at h3
      repeat' (split at h3)
      all_goals cases h3
    · split at h3
      · unfold q_mm q_go at h3
        repeat' (split at h3)
        all_goals cases h3
      · rename_i h1 h2
        exact Or.inr (Or.inl ⟨x, rfl, fun z => z.elim h1 h2, h3⟩)
  | invokespecial x =>
    have h3 := h
    unfold q_ins at h3
    dsimp only at h3
    split at h3
    · unfold q_go at h3
      repeat' (split at h3)
      all_goals cases h3
    · rename_i h1
      split at h3
      · rename_i a ha
        split at h3
        · exact Or.inr (Or.inr ⟨x, a, rfl, h1, ha, h3⟩)
        · cases h3
      · cases h3
  | ifCond co x =>
    cases co
    all_goals
      have h3 := h
      unfold q_ins at h3
      try simp only [q_c1, q_go] at h3
      (repeat' (split at h3))
      all_goals cases h3
  | if_icmp co x =>
    cases co
    all_goals
      have h3 := h
      unfold q_ins at h3
      try simp only [q_c2, q_go] at h3
      (repeat' (split at h3))
      all_goals cases h3
  | _ =>
    have h3 := h
    unfold q_ins at h3
    try simp only [q_i2, q_c1, q_c2, q_ldi, q_lda, q_ldl, q_sti, q_sta, q_stl, q_gf, q_pf, q_ald, q_ast, q_ald2, q_ast2, q_new, q_newa, q_alen, q_ret1, q_sw, q_mm, q_go] at h3
    (repeat' (split at h3))
    all_goals cases h3
end QX
