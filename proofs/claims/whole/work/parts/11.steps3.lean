theorem q_ac_I : Jvm.Cond.arrayClass .int ∈ lw_tbl := List.mem_of_getElem? (i := 75) (by decide +kernel)
theorem q_ac_Z : Jvm.Cond.arrayClass .boolean ∈ lw_tbl := List.mem_of_getElem? (i := 214) (by decide +kernel)
theorem q_dflt0 : (List.range 9).all (fun ci => (List.range (q_ft ci).length).all (fun j => decide (defaultValue (q_ty ci j) = (if (q_ft ci)[j]? = some 0 then .int 0 else if (q_ft ci)[j]? = some 1 then .null else .long 0)))) = true := by decide +kernel
theorem q_dflt {ci j : Nat} (h : ci < 9) (hj : j < (q_ft ci).length) : defaultValue (q_ty ci j) = (if (q_ft ci)[j]? = some 0 then .int 0 else if (q_ft ci)[j]? = some 1 then .null else .long 0) :=
  of_decide_eq_true (List.all_eq_true.mp (List.all_eq_true.mp q_dflt0 ci (List.mem_range.mpr h)) j (List.mem_range.mpr hj))
theorem q_addr {D : va_G} {base : Nat} {cI cZ cD : ClassId} {w : q_M} {q : Nat} {x : va_E} {H : Heap} (hP : va_P D vwCl (q_ws base cI cZ cD w ++ [(q, x)]) H) (hD : va_D (q_A base) (q_ws base cI cZ cD w ++ [(q, x)])) (hs : H.size ≤ base + w.1.length + 1) : q = base + w.1.length := by
  have hat : (q_ws base cI cZ cD w ++ [(q, x)])[w.1.length]? = some (q, x) := by
    rw [List.getElem?_append_right (by rw [q_ws_len]; exact Nat.le_refl _), q_ws_len, Nat.sub_self]
    rfl
  have h1 : q < H.size := (hP _ _ hat).lt
  have h2 : base ≤ q := hD.2 _ _ hat
  by_cases h3 : q < base + w.1.length
  · have ha : q - base < w.1.length := by omega
    have hb : (q_ws base cI cZ cD w ++ [(q, x)])[q - base]? = some (base + (q - base), q_cell base cI cZ cD w (q - base)) := by
      rw [List.getElem?_append_left (by rw [q_ws_len]; exact ha), q_ws_at ha]
    have := hD.1 _ _ _ _ hat hb (show q = base + (q - base) by omega)
    omega
  · omega
theorem q_sl_nw {w : q_M} {k n : Nat} : (q_nw w k n).1.length = w.1.length + 1 ∧ q_sl (q_nw w k n).1 = q_sl w.1 + q_sz (k, n) := by
  constructor
  · simp [q_nw]
  · simp [q_nw, q_sl]
theorem q_N.warm {s U : State} (hW : s.WarmedH U.vm) (h : q_N s) : q_N U := ⟨va_AO.moved hW.alike h.1, fun o k y hh hm => va_Nw.warmM hW (h.2 o k y hh hm)⟩
theorem q_N.same {s U : State} (hW : s.vm = U.vm) (h : q_N s) : q_N U := ⟨va_AO.moved (by rw [hW]; exact Vm.Alike.refl _) h.1, fun o k y hh hm => va_Nw.same rfl hW (h.2 o k y hh hm)⟩
theorem q_Ext.moved {T : Nat → Nat} {X : Nat × (Nat → Int32)} {base : Nat} {u U : State} (hvm : u.vm.Alike U.vm) (hh : ∀ a : Nat, a < u.heap.size → ¬ q_A base a → U.heap[a]? = u.heap[a]?) (h : q_Ext T X base u) : q_Ext T X base U :=
  ⟨⟨va_Z.moved hvm (h.1.1.kept hh), va_T.moved hvm (h.1.2.kept hh)⟩, ⟨va_Z.moved hvm (h.2.1.1.kept hh), va_T.moved hvm (h.2.1.2.kept hh)⟩, fun k h0 h1 => va_T.moved hvm ((h.2.2 k h0 h1).kept hh)⟩
/-! ===== contracts ===== -/
def q_Wm (y : Nat) : List Jvm.Cond := .code (q_y y) (q_b y) (q_ml y) (q_ret y) :: lw_g
def q_Pc (D : va_G) (cI cZ cD : ClassId) (base : Nat) (T : Nat → Nat) (X : Nat × (Nat → Int32)) (As : List Value) (w : q_M) : Array Value → State → Prop := va_Pc (As.map (q_rl base T)) (fun U => U.heap.size = base + w.1.length ∧ va_P D vwCl (q_ws base cI cZ cD w) U.heap ∧ va_K D vwCl (q_tys cI cZ cD) U ∧ q_N U ∧ q_Ext T X base U)
def q_Qc (D : va_G) (cI cZ cD : ClassId) (base : Nat) (rt : Nat) (r : Option Value) (w : q_M) : Array Value → State → Outcome → State → Prop :=
  if rt = 0 then va_Qv (fun (_ : Unit) => r = none) (fun _ t => va_P D vwCl (q_ws base cI cZ cD w) t.heap) (q_A base)
  else if rt = 3 then va_Ql (fun x (_ : Unit) => r = some (.long x)) (fun _ t => va_P D vwCl (q_ws base cI cZ cD w) t.heap) (q_A base)
  else va_Qi (fun x (_ : Unit) => r = some (.int x)) (fun _ t => va_P D vwCl (q_ws base cI cZ cD w) t.heap) (q_A base)
def q_Mt (l : Launch) (D : va_G) (cI cZ cD : ClassId) (base : Nat) (T : Nat → Nat) (X : Nat × (Nat → Int32)) (y : Nat) (As : List Value) (w : q_M) (r : Option Value) (w1 : q_M) : Prop :=
  Met l (q_y y) (q_Wm y) { frames := q_fr y, cells := w1.1.length - w.1.length, slots := q_sl w1.1 - q_sl w.1, locals := q_lo y } (q_Pc D cI cZ cD base T X As w) (q_Qc D cI cZ cD base (q_rt y) r w1) (w1.1.length - w.1.length) (q_sl w1.1 - q_sl w.1) (q_A base)
theorem q_Pc_blind {D : va_G} {cI cZ cD : ClassId} {base : Nat} {T : Nat → Nat} {X : Nat × (Nat → Int32)} {As : List Value} {w : q_M} : FrameBlind (q_Pc D cI cZ cD base T X As w) := by
  intro a U g mk q
  obtain ⟨q0, q1, qP, qK, qN, qE⟩ := q
  exact ⟨q0, q1, qP, va_K.moved (u := U) (U := U.calling g mk a) (Vm.Alike.refl U.vm) qK, q_N.same rfl qN, q_Ext.moved (u := U) (U := U.calling g mk a) (Vm.Alike.refl U.vm) (fun _ _ _ => rfl) qE⟩
theorem q_code_in {y : Nat} (hy : y < 149) : Jvm.Cond.code (q_y y) (q_b y) (q_ml y) (q_ret y) ∈ lw_g := by
  have h := q_cw hy
  unfold q_chw at h
  exact q_in_g (List.mem_of_getElem? (of_decide_eq_true h)) rfl
theorem q_Wm_good {y : Nat} (hy : y < 149) : GoodIn lw_g (q_Wm y) := by
  intro w hw
  rcases List.mem_cons.mp hw with rfl | hw
  · exact q_g_good _ (q_code_in hy)
  · exact q_g_good _ hw
theorem q_goodw {ws : List Jvm.Cond} (h : ∀ w ∈ ws, w ∈ lw_g) : GoodIn lw_g ws := fun w hw => q_g_good w (h w hw)
theorem q_facts {y : Nat} (hy : y < 149) : ((q_y y).cls ≠ "java/lang/invoke/MethodHandle" ∧ (q_y y).cls ≠ "java/lang/invoke/VarHandle" ∧ (parseMethodDescriptor (q_y y).desc).map (fun d => d.parameters.length) = some (q_np y)) ∧ plainName (q_y y).cls = true ∧ (q_y y).cls = q_own y := by
  have h := q_cd hy
  unfold q_chd at h
  simp only [Bool.and_eq_true, decide_eq_true_eq] at h
  exact ⟨⟨h.1.1.2.1, h.1.1.2.2, h.1.1.1⟩, h.1.2, h.2⟩
section QU
variable {p : Program} {l : Launch} {e : Env} {R : Room} {s : State} {m : MethodId} {args : Array Value} {below : List Frame} {meth : Method} {c : Code} {Q : State → Prop}
variable {D : va_G} {cI cZ cD : ClassId} {base : Nat} {T : Nat → Nat} {X : Nat × (Nat → Int32)} {M N0 S0 Nf Sf : Nat}
variable {pc n g : Nat} {pl : List Nat} {L S : List Value} {w : q_M} {σ' : q_S}
theorem q_t_new (C : q_Cx p R s m args meth c D cI cZ cD base T X M N0 S0 Nf Sf) {x : Nat} (hat : q_at M pc = some (.new x, n, g, pl)) (h : q_new M (pc + n) L S w g = some (.inr (.inl σ'))) (hf : σ'.2.2.2.2.1.length ≤ Nf ∧ q_sl σ'.2.2.2.2.1 ≤ Sf) (k : q_G p l e R s m args below meth c Q D cI cZ cD base T N0 S0 σ') : q_G p l e R s m args below meth c Q D cI cZ cD base T N0 S0 (M, pc, L, S, w) := by
  obtain ⟨hx, hb, hml, hown, hts, hN, hin, hK, hE, hsz, hRf, hRl, hRc, hRs⟩ := C
  obtain ⟨hd, hn, hw, hxc⟩ := q_cert hat
  obtain rfl : n = 3 := by simpa [q_ln] using hn
  have hg : g < 9 := by simpa [q_xc] using hxc
  have hwd : ∀ w0 ∈ ([.classLink (q_own M) x (q_cn g), .instantiable (q_cn g) (q_ft g).length, .initialized (q_cn g)] : List Jvm.Cond), w0 ∈ lw_tbl := fun w0 h0 => hw w0 h0
  unfold q_new at h
  rw [if_pos hg] at h
  cases h
  intro H locs cells slots ls hL hP hS hc hs
  have hc' : cells + N0 = w.1.length := hc
  have hs' : slots + S0 = q_sl w.1 := hs
  obtain ⟨hl1, hl2⟩ := q_sl_nw (w := w) (k := g) (n := 0)
  have hz : q_sz (g, 0) = (q_ft g).length := by simp [q_sz, hg]
  rw [hz] at hl2
  have hf1 : (q_nw w g 0).1.length ≤ Nf := hf.1
  have hf2 : q_sl (q_nw w g 0).1 ≤ Sf := hf.2
  refine va_new (D := D) (ci := g) (fs := q_fl base (q_nw w g 0) w.1.length g) hx hb hts (q_hin hg) (q_ty g) (q_tyok hg) hown (hts _ (q_in_g (hwd _ (by simp)) rfl)) (hts _ (q_in_g (hwd _ (by simp)) rfl)) (hts _ (q_in_g (hwd _ (by simp)) rfl)) hK hP q_ws_D hS (fun q hq => by show base ≤ q; omega) (q_vw hg) (fun j hj => ?_) (by omega) (by omega) hd (fun q H1 hP1 hD1 hS1 => ?_)
  · have h1 : ∃ t, (q_ft g)[j]? = some t := ⟨_, List.getElem?_eq_getElem hj⟩
    obtain ⟨t, ht⟩ := h1
    rw [q_dflt hg hj]
    unfold vp_V
    rw [List.getD_eq_getElem?_getD, q_fl_at ht, ht]
    simp only [Option.getD_some, q_fv, q_nw, va_up_self, Option.some.injEq]
    by_cases h0 : t = 0
    · simp [h0]
    · by_cases h1 : t = 1
      · simp [h1, va_rf]
      · simp [h0, h1]
  · refine q_size (fun hsz1 => ?_)
    obtain rfl := q_addr hP1 hD1 (by omega)
    refine k H1 locs (cells + 1) (slots + (q_ft g).length) ls hL ?_ hS1 (by show _ = (q_nw w g 0).1.length; omega) (by show _ = q_sl (q_nw w g 0).1; omega)
    show va_P D vwCl (q_ws base cI cZ cD (q_nw w g 0)) H1
    rw [q_ws_nw, q_cell_obj (n := 0) (by show (w.1 ++ [(g, 0)])[w.1.length]? = _; simp) hg]
    exact hP1
theorem q_t_newarray_int (C : q_Cx p R s m args meth c D cI cZ cD base T X M N0 S0 Nf Sf) {t : ArrayType} (hty : newarray.typeOf t = .int) (hg : g = 9) (hat : q_at M pc = some (.newarray t, n, g, pl)) (h : q_newa M (pc + n) L S w g = some (.inr (.inl σ'))) (hf : σ'.2.2.2.2.1.length ≤ Nf ∧ q_sl σ'.2.2.2.2.1 ≤ Sf) (k : q_G p l e R s m args below meth c Q D cI cZ cD base T N0 S0 σ') : q_G p l e R s m args below meth c Q D cI cZ cD base T N0 S0 (M, pc, L, S, w) := by
  obtain ⟨hx, hb, hml, hown, hts, hN, hin, hK, hE, hsz, hRf, hRl, hRc, hRs⟩ := C
  obtain ⟨hd, hn, hw, hxc⟩ := q_cert hat
  obtain rfl : n = 2 := by simpa [q_ln] using hn
  subst hg
  unfold q_newa at h
  split at h
  · rename_i x S2
    split at h
    · rename_i hx9
      cases h
      intro H locs cells slots ls hL hP hS hc hs
      have hc' : cells + N0 = w.1.length := hc
      have hs' : slots + S0 = q_sl w.1 := hs
      obtain ⟨hl1, hl2⟩ := q_sl_nw (w := w) (k := 9) (n := x.toNatClampNeg)
      have hz : q_sz (9, x.toNatClampNeg) = x.toNatClampNeg := by simp [q_sz]
      rw [hz] at hl2
      have hf1 : (q_nw w 9 x.toNatClampNeg).1.length ≤ Nf := hf.1
      have hf2 : q_sl (q_nw w 9 x.toNatClampNeg).1 ≤ Sf := hf.2
      refine va_newa (D := D) (atype := t) (ty := .int) (N' := x.toNatClampNeg) (a0 := (x.toNatClampNeg, .inl (fun _ => 0))) hx hb (by rw [hty]; exact hts _ (q_in_g q_ac_I rfl)) hty hK hP q_ws_D hS (fun q hq => by show base ≤ q; omega) (fun _ => rfl) hx9.1 rfl (by simp only [componentBytes]; omega) (by omega) (by omega) hd (fun q cA H1 hK1 hP1 hD1 hS1 => ?_)
      have hcA : cA = cI := by
        have h1 : s.vm.findClass ("[" ++ (.int : FieldType).toString) = some cA := (hK1.2 3 _ rfl).2
        have h2 : s.vm.findClass ("[" ++ (.int : FieldType).toString) = some cI := (hK.2 0 _ rfl).2
        exact Option.some.inj (h1.symm.trans h2)
      rw [hcA] at hP1 hD1
      refine q_size (fun hsz1 => ?_)
      obtain rfl := q_addr hP1 hD1 (by omega)
      refine k H1 locs (cells + 1) (slots + x.toNatClampNeg) ls hL ?_ hS1 (by show _ = (q_nw w 9 x.toNatClampNeg).1.length; omega) (by show _ = q_sl (q_nw w 9 x.toNatClampNeg).1; omega)
      show va_P D vwCl (q_ws base cI cZ cD (q_nw w 9 x.toNatClampNeg)) H1
      rw [q_ws_nw, q_cell_I (n := x.toNatClampNeg) (by show (w.1 ++ [(9, x.toNatClampNeg)])[w.1.length]? = _; simp)]
      rw [show (q_nw w 9 x.toNatClampNeg).2.1 w.1.length = (fun _ => 0) from va_up_self _ _ _]
      exact hP1
    · cases h
  · cases h
theorem q_t_newarray_boolean (C : q_Cx p R s m args meth c D cI cZ cD base T X M N0 S0 Nf Sf) {t : ArrayType} (hty : newarray.typeOf t = .boolean) (hg : g = 10) (hat : q_at M pc = some (.newarray t, n, g, pl)) (h : q_newa M (pc + n) L S w g = some (.inr (.inl σ'))) (hf : σ'.2.2.2.2.1.length ≤ Nf ∧ q_sl σ'.2.2.2.2.1 ≤ Sf) (k : q_G p l e R s m args below meth c Q D cI cZ cD base T N0 S0 σ') : q_G p l e R s m args below meth c Q D cI cZ cD base T N0 S0 (M, pc, L, S, w) := by
  obtain ⟨hx, hb, hml, hown, hts, hN, hin, hK, hE, hsz, hRf, hRl, hRc, hRs⟩ := C
  obtain ⟨hd, hn, hw, hxc⟩ := q_cert hat
  obtain rfl : n = 2 := by simpa [q_ln] using hn
  subst hg
  unfold q_newa at h
  split at h
  · rename_i x S2
    split at h
    · rename_i hx9
      cases h
      intro H locs cells slots ls hL hP hS hc hs
      have hc' : cells + N0 = w.1.length := hc
      have hs' : slots + S0 = q_sl w.1 := hs
      obtain ⟨hl1, hl2⟩ := q_sl_nw (w := w) (k := 10) (n := x.toNatClampNeg)
      have hz : q_sz (10, x.toNatClampNeg) = x.toNatClampNeg := by simp [q_sz]
      rw [hz] at hl2
      have hf1 : (q_nw w 10 x.toNatClampNeg).1.length ≤ Nf := hf.1
      have hf2 : q_sl (q_nw w 10 x.toNatClampNeg).1 ≤ Sf := hf.2
      refine va_newa (D := D) (atype := t) (ty := .boolean) (N' := x.toNatClampNeg) (a0 := (x.toNatClampNeg, .inl (fun _ => 0))) hx hb (by rw [hty]; exact hts _ (q_in_g q_ac_Z rfl)) hty hK hP q_ws_D hS (fun q hq => by show base ≤ q; omega) (fun _ => rfl) hx9.1 rfl (by simp only [componentBytes]; omega) (by omega) (by omega) hd (fun q cA H1 hK1 hP1 hD1 hS1 => ?_)
      have hcA : cA = cZ := by
        have h1 : s.vm.findClass ("[" ++ (.boolean : FieldType).toString) = some cA := (hK1.2 3 _ rfl).2
        have h2 : s.vm.findClass ("[" ++ (.boolean : FieldType).toString) = some cZ := (hK.2 1 _ rfl).2
        exact Option.some.inj (h1.symm.trans h2)
      rw [hcA] at hP1 hD1
      refine q_size (fun hsz1 => ?_)
      obtain rfl := q_addr hP1 hD1 (by omega)
      refine k H1 locs (cells + 1) (slots + x.toNatClampNeg) ls hL ?_ hS1 (by show _ = (q_nw w 10 x.toNatClampNeg).1.length; omega) (by show _ = q_sl (q_nw w 10 x.toNatClampNeg).1; omega)
      show va_P D vwCl (q_ws base cI cZ cD (q_nw w 10 x.toNatClampNeg)) H1
      rw [q_ws_nw, q_cell_Z (n := x.toNatClampNeg) (by show (w.1 ++ [(10, x.toNatClampNeg)])[w.1.length]? = _; simp)]
      rw [show (q_nw w 10 x.toNatClampNeg).2.1 w.1.length = (fun _ => 0) from va_up_self _ _ _]
      exact hP1
    · cases h
  · cases h
theorem q_t_anewarray (C : q_Cx p R s m args meth c D cI cZ cD base T X M N0 S0 Nf Sf) {x : Nat} (hat : q_at M pc = some (.anewarray x, n, g, pl)) (h : q_newa M (pc + n) L S w g = some (.inr (.inl σ'))) (hf : σ'.2.2.2.2.1.length ≤ Nf ∧ q_sl σ'.2.2.2.2.1 ≤ Sf) (k : q_G p l e R s m args below meth c Q D cI cZ cD base T N0 S0 σ') : q_G p l e R s m args below meth c Q D cI cZ cD base T N0 S0 (M, pc, L, S, w) := by
  obtain ⟨hx, hb, hml, hown, hts, hN, hin, hK, hE, hsz, hRf, hRl, hRc, hRs⟩ := C
  obtain ⟨hd, hn, hw, hxc⟩ := q_cert hat
  obtain rfl : n = 3 := by simpa [q_ln] using hn
  obtain rfl : g = 11 := by simpa [q_xc] using hxc
  have hwd : ∀ w0 ∈ ([.classLink (q_own M) x RX0, .arrayOver (.object RX0)] : List Jvm.Cond), w0 ∈ lw_tbl := fun w0 h0 => hw w0 h0
  unfold q_newa at h
  split at h
  · rename_i x2 S2
    split at h
    · rename_i hx9
      cases h
      intro H locs cells slots ls hL hP hS hc hs
      have hc' : cells + N0 = w.1.length := hc
      have hs' : slots + S0 = q_sl w.1 := hs
      obtain ⟨hl1, hl2⟩ := q_sl_nw (w := w) (k := 11) (n := x2.toNatClampNeg)
      have hz : q_sz (11, x2.toNatClampNeg) = x2.toNatClampNeg := by simp [q_sz]
      rw [hz] at hl2
      have hf1 : (q_nw w 11 x2.toNatClampNeg).1.length ≤ Nf := hf.1
      have hf2 : q_sl (q_nw w 11 x2.toNatClampNeg).1 ≤ Sf := hf.2
      refine va_newq (D := D) (N' := x2.toNatClampNeg) hx hb hown (hts _ (q_in_g (hwd _ (by simp)) rfl)) hN.1 hK hP q_ws_D hS (fun q hq => by show base ≤ q; omega) hx9.1 rfl (by omega) (by omega) (by omega) hd (fun q cA H1 hK1 hP1 hD1 hS1 => ?_)
      have hcA : cA = cD := by
        obtain ⟨kA, comp, -, -, -, h1⟩ : va_RA s cA (.object RX0) := (hK1.2 3 _ rfl).2
        obtain ⟨kA2, comp2, -, -, -, h2⟩ : va_RA s cD (.object RX0) := (hK.2 2 _ rfl).2
        exact Option.some.inj (h1.symm.trans h2)
      rw [hcA] at hP1 hD1
      refine q_size (fun hsz1 => ?_)
      obtain rfl := q_addr hP1 hD1 (by omega)
      refine k H1 locs (cells + 1) (slots + x2.toNatClampNeg) ls hL ?_ hS1 (by show _ = (q_nw w 11 x2.toNatClampNeg).1.length; omega) (by show _ = q_sl (q_nw w 11 x2.toNatClampNeg).1; omega)
      show va_P D vwCl (q_ws base cI cZ cD (q_nw w 11 x2.toNatClampNeg)) H1
      rw [q_ws_nw, q_cell_D (n := x2.toNatClampNeg) (by show (w.1 ++ [(11, x2.toNatClampNeg)])[w.1.length]? = _; simp)]
      rw [show (fun i => ((q_nw w 11 x2.toNatClampNeg).2.2.1 w.1.length i).map (fun r => base + r)) = (fun _ => none) from by funext i; show ((va_up w.2.2.1 w.1.length (fun _ => none)) w.1.length i).map _ = none; rw [va_up_self]; rfl]
      exact hP1
    · cases h
  · cases h
theorem q_t_objinit (C : q_Cx p R s m args meth c D cI cZ cD base T X M N0 S0 Nf Sf) {x : Nat} (hg : g = 999) (hat : q_at M pc = some (.invokespecial x, n, g, pl)) (h : (match S with | [.ref _] => q_go M (pc + n) L [] w | _ => none) = some (.inr (.inl σ'))) (k : q_G p l e R s m args below meth c Q D cI cZ cD base T N0 S0 σ') : q_G p l e R s m args below meth c Q D cI cZ cD base T N0 S0 (M, pc, L, S, w) := by
  obtain ⟨hx, hb, hml, hown, hts, hN, hin, hK, hE, hsz, hRf, hRl, hRc, hRs⟩ := C
  obtain ⟨hd, hn, hw, hxc⟩ := q_cert hat
  obtain rfl : n = 3 := by simpa [q_ln] using hn
  subst hg
  obtain ⟨h1, h2⟩ : 1 ≤ q_fr M ∧ 12 ≤ q_lo M := by simpa [q_xc] using hxc
  have hwd : ∀ w0 ∈ ([.methodLink (q_own M) x objectInit, .instanceMethod objectInit, .code objectInit ⟨#[0xb1]⟩ 1 none] : List Jvm.Cond), w0 ∈ lw_tbl := fun w0 h0 => hw w0 h0
  split at h
  · rename_i a
    cases h
    intro H locs cells slots ls hL hP hS hc hs
    refine W.objInit hx hb hown (hts _ (q_in_g (hwd _ (by simp)) rfl)) (hts _ (q_in_g (hwd _ (by simp)) rfl)) (hts _ (q_in_g (hwd _ (by simp)) rfl)) rfl (by rw [hml]; exact hL.2.1) rfl hd (by rw [hRf]; exact h1) (by rw [hRl]; show 2 * 0 + 0 + 12 ≤ _; omega) ?_
    exact (k H locs cells slots ls hL hP hS hc hs)
  · cases h
end QU
