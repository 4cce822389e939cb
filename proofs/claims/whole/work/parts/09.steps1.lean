/-! ===== the contexts of a method's walk ===== -/
def q_tys (cI cZ cD : ClassId) : List (ClassId × FieldType) := [(cI, .int), (cZ, .boolean), (cD, .object RX0)]
/-- the words that no contract hands on -/
def q_N (U : State) : Prop := va_AO RX0 U ∧ ∀ (o : String) (k : Nat) (y : MethodName) (h : String), Jvm.Cond.methodLinkNest o k y h ∈ lw_tbl → va_Nw (.methodLinkNest o k y h) U
/-- what stands outside: two tables in statics, and the script -/
def q_Ext (T : Nat → Nat) (X : Nat × (Nat → Int32)) (base : Nat) (U : State) : Prop :=
  (va_Z RX3 "MARKS" "[I" (.ref (T 0)) (q_A base) U U.heap ∧ va_T .int (T 0) 16 (fun j => .int (q_x0 j)) (q_A base) U U.heap) ∧ (va_Z RX3 "ONE_BY" "[I" (.ref (T 1)) (q_A base) U U.heap ∧ va_T .int (T 1) 31 (fun j => .int (q_x1 j)) (q_A base) U U.heap) ∧ (∀ u : UInt32, u ≠ 0 → u ≠ 1 → va_T .int (T u.toNat) X.1 (fun j => .int (X.2 j)) (q_A base) U U.heap)
def q_Cx (p : Program) (R : Room) (s : State) (m : MethodId) (args : Array Value) (meth : Method) (c : Code) (D : va_G) (cI cZ cD : ClassId) (base : Nat) (T : Nat → Nat) (X : Nat × (Nat → Int32)) (M N0 S0 Nf Sf : Nat) : Prop :=
  p.tables.exec = Jvm.exec ∧ c.code = q_b M ∧ c.maxLocals = q_ml M ∧ s.vm.findClass (q_own M) = some m.cls ∧ (∀ w ∈ lw_g, w.before args s = true) ∧ q_N s ∧ (q_ini M = true → meth.name = "<init>") ∧ va_K D vwCl (q_tys cI cZ cD) s ∧ q_Ext T X base s ∧ s.heap.size = base + N0 ∧ R.frames = q_fr M ∧ R.locals = q_lo M ∧ R.cells + N0 = Nf ∧ R.slots + S0 = Sf
/-- from a state of the pure machine the machine comes to Q -/
def q_G (p : Program) (l : Launch) (e : Env) (R : Room) (s : State) (m : MethodId) (args : Array Value) (below : List Frame) (meth : Method) (c : Code) (Q : State → Prop) (D : va_G) (cI cZ cD : ClassId) (base : Nat) (T : Nat → Nat) (N0 S0 : Nat) (σ : q_S) : Prop :=
  ∀ (H : Heap) (locs : List Loc) (cells slots : Nat) (ls : Array Slot), q_Lo base T σ.1 σ.2.2.1 ls → va_P D vwCl (q_ws base cI cZ cD σ.2.2.2.2) H → va_S (q_A base) s.heap H locs → cells + N0 = σ.2.2.2.2.1.length → slots + S0 = q_sl σ.2.2.2.2.1 →
    W p l e R s m args below meth c H locs cells slots Q (F0 m σ.2.1 ls (σ.2.2.2.1.map (q_rl base T)))
theorem q_vw {ci : Nat} (h : ci < 9) : vwCl[ci]? = some (q_cn ci, q_T ci, (q_ft ci).length) := by
  match ci, h with
  | 0, _ => rfl
  | 1, _ => rfl
  | 2, _ => rfl
  | 3, _ => rfl
  | 4, _ => rfl
  | 5, _ => rfl
  | 6, _ => rfl
  | 7, _ => rfl
  | 8, _ => rfl
  | k + 9, h => exact absurd h (by omega)
set_option maxRecDepth 100000 in
theorem q_hin0 : (List.range 9).all (fun ci => (u_ws (q_cn ci) (q_T ci) (q_ft ci).length).all (fun w => decide (w ∈ lw_tbl) && goodWord w)) = true := by decide +kernel
theorem q_hin {ci : Nat} (h : ci < 9) : ∀ w ∈ u_ws (q_cn ci) (q_T ci) (q_ft ci).length, w ∈ lw_g := by
  intro w hw
  have h1 := List.all_eq_true.mp (List.all_eq_true.mp q_hin0 ci (List.mem_range.mpr h)) w hw
  simp only [Bool.and_eq_true, decide_eq_true_eq] at h1
  exact q_in_g h1.1 h1.2
theorem q_tyok {ci : Nat} (h : ci < 9) : ∀ k, k < (q_ft ci).length → parseFieldDescriptor (q_T ci k).2.2.1 = some (q_ty ci k) := by
  match ci, h with
  | 0, _ => exact tyX0_ok
  | 1, _ => exact tyX1_ok
  | 2, _ => exact tyX2_ok
  | 3, _ => exact tyX3_ok
  | 4, _ => exact tyX4_ok
  | 5, _ => exact tyX5_ok
  | 6, _ => exact tyX6_ok
  | 7, _ => exact tyX7_ok
  | 8, _ => exact tyX8_ok
  | k + 9, h => exact absurd h (by omega)
theorem q_nmok {ci : Nat} (h : ci < 9) : ∀ a, a < (q_ft ci).length → ∀ b, b < (q_ft ci).length → a ≠ b → (q_T ci a).2.1 ≠ (q_T ci b).2.1 := by
  match ci, h with
  | 0, _ => exact nmX0
  | 1, _ => exact nmX1
  | 2, _ => exact nmX2
  | 3, _ => exact nmX3
  | 4, _ => exact nmX4
  | 5, _ => exact nmX5
  | 6, _ => exact nmX6
  | 7, _ => exact nmX7
  | 8, _ => exact nmX8
  | k + 9, h => exact absurd h (by omega)
def q_isR (t : FieldType) : Bool := match t with
  | .array _ => true
  | .object _ => true
  | _ => false
theorem q_kinds0 : (List.range 9).all (fun ci => (List.range (q_ft ci).length).all (fun k => decide ((q_ft ci)[k]? = some 0 → q_ty ci k = .int) && decide ((q_ft ci)[k]? = some 1 → q_isR (q_ty ci k) = true) && decide ((q_ft ci)[k]? = some 2 → q_ty ci k = .long ∧ ci = 2 ∧ k = 2))) = true := by decide +kernel
theorem q_kinds {ci k : Nat} (h : ci < 9) (hk : k < (q_ft ci).length) : ((q_ft ci)[k]? = some 0 → q_ty ci k = .int) ∧ ((q_ft ci)[k]? = some 1 → q_isR (q_ty ci k) = true) ∧ ((q_ft ci)[k]? = some 2 → q_ty ci k = .long ∧ ci = 2 ∧ k = 2) := by
  have h1 := List.all_eq_true.mp (List.all_eq_true.mp q_kinds0 ci (List.mem_range.mpr h)) k (List.mem_range.mpr hk)
  simp only [Bool.and_eq_true, decide_eq_true_eq] at h1
  exact ⟨h1.1.1, h1.1.2, h1.2⟩
theorem q_narR {t : FieldType} {a : Nat} (h : q_isR t = true) : narrow t (.ref a) = .ref a ∧ fits t (.ref a) = true := by
  cases t <;> first | (cases h; done) | exact ⟨rfl, rfl⟩
theorem q_inb_in {x : Int32} {n : Nat} (h : q_inb x n = true) : vp_in x n := by
  unfold q_inb at h
  simp only [Bool.and_eq_true, decide_eq_true_eq] at h
  intro q
  rcases q with q | q
  · exact h.1 q
  · omega
/-! ===== one step: the machine follows the pure machine ===== -/
section QS
variable {p : Program} {l : Launch} {e : Env} {R : Room} {s : State} {m : MethodId} {args : Array Value} {below : List Frame} {meth : Method} {c : Code} {Q : State → Prop}
variable {D : va_G} {cI cZ cD : ClassId} {base : Nat} {T : Nat → Nat} {X : Nat × (Nat → Int32)} {M N0 S0 Nf Sf : Nat}
variable {pc n g : Nat} {pl : List Nat} {L S : List Value} {w : q_M} {σ' : q_S}
/-- the heap is no larger than what was made -/
theorem q_size {H : Heap} {locs : List Loc} {cells slots : Nat} {f : JFrame} (h : H.size ≤ s.heap.size + cells → W p l e R s m args below meth c H locs cells slots Q f) : W p l e R s m args below meth c H locs cells slots Q f :=
  fun T0 hT X0 => h (by rw [← hT]; exact X0.heapSize) T0 hT X0
theorem q_t_iconst (C : q_Cx p R s m args meth c D cI cZ cD base T X M N0 S0 Nf Sf) {x : Int} (hat : q_at M pc = some (.iconst x, n, g, pl)) (h : q_go M (pc + n) L (.int (Int32.ofInt x) :: S) w = some (.inr (.inl σ'))) (k : q_G p l e R s m args below meth c Q D cI cZ cD base T N0 S0 σ') : q_G p l e R s m args below meth c Q D cI cZ cD base T N0 S0 (M, pc, L, S, w) := by
  obtain ⟨hx, hb, hml, hown, hts, hN, hin, hK, hE, hsz, hRf, hRl, hRc, hRs⟩ := C
  obtain ⟨hd, hn, hw, hxc⟩ := q_cert hat
  obtain rfl : n = 1 := by simpa [q_ln] using hn
  cases h
  intro H locs cells slots ls hL hP hS hc hs
  exact lv_iconst hx hb hd rfl (k H locs cells slots ls hL hP hS hc hs)
theorem q_t_bipush (C : q_Cx p R s m args meth c D cI cZ cD base T X M N0 S0 Nf Sf) {x : Int} (hat : q_at M pc = some (.bipush x, n, g, pl)) (h : q_go M (pc + n) L (.int (Int8.ofInt x).toInt32 :: S) w = some (.inr (.inl σ'))) (k : q_G p l e R s m args below meth c Q D cI cZ cD base T N0 S0 σ') : q_G p l e R s m args below meth c Q D cI cZ cD base T N0 S0 (M, pc, L, S, w) := by
  obtain ⟨hx, hb, hml, hown, hts, hN, hin, hK, hE, hsz, hRf, hRl, hRc, hRs⟩ := C
  obtain ⟨hd, hn, hw, hxc⟩ := q_cert hat
  obtain rfl : n = 2 := by simpa [q_ln] using hn
  cases h
  intro H locs cells slots ls hL hP hS hc hs
  exact lv_bipush hx hb hd rfl (k H locs cells slots ls hL hP hS hc hs)
theorem q_t_sipush (C : q_Cx p R s m args meth c D cI cZ cD base T X M N0 S0 Nf Sf) {x : Int} (hat : q_at M pc = some (.sipush x, n, g, pl)) (h : q_go M (pc + n) L (.int (Int16.ofInt x).toInt32 :: S) w = some (.inr (.inl σ'))) (k : q_G p l e R s m args below meth c Q D cI cZ cD base T N0 S0 σ') : q_G p l e R s m args below meth c Q D cI cZ cD base T N0 S0 (M, pc, L, S, w) := by
  obtain ⟨hx, hb, hml, hown, hts, hN, hin, hK, hE, hsz, hRf, hRl, hRc, hRs⟩ := C
  obtain ⟨hd, hn, hw, hxc⟩ := q_cert hat
  obtain rfl : n = 3 := by simpa [q_ln] using hn
  cases h
  intro H locs cells slots ls hL hP hS hc hs
  exact lv_sipush hx hb hd rfl (k H locs cells slots ls hL hP hS hc hs)
theorem q_t_lconst (C : q_Cx p R s m args meth c D cI cZ cD base T X M N0 S0 Nf Sf) {x : Fin 2} (hat : q_at M pc = some (.lconst x, n, g, pl)) (h : q_go M (pc + n) L (.long (Int64.ofNat x) :: S) w = some (.inr (.inl σ'))) (k : q_G p l e R s m args below meth c Q D cI cZ cD base T N0 S0 σ') : q_G p l e R s m args below meth c Q D cI cZ cD base T N0 S0 (M, pc, L, S, w) := by
  obtain ⟨hx, hb, hml, hown, hts, hN, hin, hK, hE, hsz, hRf, hRl, hRc, hRs⟩ := C
  obtain ⟨hd, hn, hw, hxc⟩ := q_cert hat
  obtain rfl : n = 1 := by simpa [q_ln] using hn
  cases h
  intro H locs cells slots ls hL hP hS hc hs
  exact lv_lconst hx hb hd rfl (k H locs cells slots ls hL hP hS hc hs)
theorem q_t_ldcw (C : q_Cx p R s m args meth c D cI cZ cD base T X M N0 S0 Nf Sf) {x : Nat} (hat : q_at M pc = some (.ldc_w x, n, g, pl)) (h : q_go M (pc + n) L (.int (Int32.ofNat g) :: S) w = some (.inr (.inl σ'))) (k : q_G p l e R s m args below meth c Q D cI cZ cD base T N0 S0 σ') : q_G p l e R s m args below meth c Q D cI cZ cD base T N0 S0 (M, pc, L, S, w) := by
  obtain ⟨hx, hb, hml, hown, hts, hN, hin, hK, hE, hsz, hRf, hRl, hRc, hRs⟩ := C
  obtain ⟨hd, hn, hw, hxc⟩ := q_cert hat
  obtain rfl : n = 3 := by simpa [q_ln] using hn
  cases h
  intro H locs cells slots ls hL hP hS hc hs
  have hw1 : Jvm.Cond.constant (q_own M) x (Int32.ofNat g) ∈ lw_tbl := hw _ (by simp [q_wd, q_kd, q_wk, q_own])
  exact lv_ldcw hx hb hown (hts _ (q_in_g hw1 rfl)) hd (k H locs cells slots ls hL hP hS hc hs)
theorem q_t_iload_n (C : q_Cx p R s m args meth c D cI cZ cD base T X M N0 S0 Nf Sf) {x : Fin 4} (hat : q_at M pc = some (.iload_n x, n, g, pl)) (h : q_ldi M (pc + n) L S w x = some (.inr (.inl σ'))) (k : q_G p l e R s m args below meth c Q D cI cZ cD base T N0 S0 σ') : q_G p l e R s m args below meth c Q D cI cZ cD base T N0 S0 (M, pc, L, S, w) := by
  obtain ⟨hx, hb, hml, hown, hts, hN, hin, hK, hE, hsz, hRf, hRl, hRc, hRs⟩ := C
  obtain ⟨hd, hn, hw, hxc⟩ := q_cert hat
  obtain rfl : n = 1 := by simpa [q_ln] using hn
  unfold q_ldi at h
  split at h
  · rename_i v hv
    cases h
    intro H locs cells slots ls hL hP hS hc hs
    exact lv_iload_n hx hb hd rfl (q_Lo_at hL hv (by simp)) (k H locs cells slots ls hL hP hS hc hs)
  · cases h
theorem q_t_iload (C : q_Cx p R s m args meth c D cI cZ cD base T X M N0 S0 Nf Sf) {x : Nat} (hat : q_at M pc = some (.iload x, n, g, pl)) (h : q_ldi M (pc + n) L S w x = some (.inr (.inl σ'))) (k : q_G p l e R s m args below meth c Q D cI cZ cD base T N0 S0 σ') : q_G p l e R s m args below meth c Q D cI cZ cD base T N0 S0 (M, pc, L, S, w) := by
  obtain ⟨hx, hb, hml, hown, hts, hN, hin, hK, hE, hsz, hRf, hRl, hRc, hRs⟩ := C
  obtain ⟨hd, hn, hw, hxc⟩ := q_cert hat
  obtain rfl : n = 2 := by simpa [q_ln] using hn
  unfold q_ldi at h
  split at h
  · rename_i v hv
    cases h
    intro H locs cells slots ls hL hP hS hc hs
    exact lv_iload hx hb hd (q_Lo_at hL hv (by simp)) (k H locs cells slots ls hL hP hS hc hs)
  · cases h
theorem q_t_lload_n (C : q_Cx p R s m args meth c D cI cZ cD base T X M N0 S0 Nf Sf) {x : Fin 4} (hat : q_at M pc = some (.lload_n x, n, g, pl)) (h : q_ldl M (pc + n) L S w x = some (.inr (.inl σ'))) (k : q_G p l e R s m args below meth c Q D cI cZ cD base T N0 S0 σ') : q_G p l e R s m args below meth c Q D cI cZ cD base T N0 S0 (M, pc, L, S, w) := by
  obtain ⟨hx, hb, hml, hown, hts, hN, hin, hK, hE, hsz, hRf, hRl, hRc, hRs⟩ := C
  obtain ⟨hd, hn, hw, hxc⟩ := q_cert hat
  obtain rfl : n = 1 := by simpa [q_ln] using hn
  unfold q_ldl at h
  split at h
  · rename_i v hv
    cases h
    intro H locs cells slots ls hL hP hS hc hs
    exact lv_lload_n hx hb hd rfl (q_Lo_at hL hv (by simp)) (k H locs cells slots ls hL hP hS hc hs)
  · cases h
theorem q_t_aload_n (C : q_Cx p R s m args meth c D cI cZ cD base T X M N0 S0 Nf Sf) {x : Fin 4} (hat : q_at M pc = some (.aload_n x, n, g, pl)) (h : q_lda M (pc + n) L S w x = some (.inr (.inl σ'))) (k : q_G p l e R s m args below meth c Q D cI cZ cD base T N0 S0 σ') : q_G p l e R s m args below meth c Q D cI cZ cD base T N0 S0 (M, pc, L, S, w) := by
  obtain ⟨hx, hb, hml, hown, hts, hN, hin, hK, hE, hsz, hRf, hRl, hRc, hRs⟩ := C
  obtain ⟨hd, hn, hw, hxc⟩ := q_cert hat
  obtain rfl : n = 1 := by simpa [q_ln] using hn
  unfold q_lda at h
  split at h
  · rename_i v hv
    cases h
    intro H locs cells slots ls hL hP hS hc hs
    exact lv_aload_n hx hb hd rfl (q_Lo_at hL hv (by simp)) (k H locs cells slots ls hL hP hS hc hs)
  · rename_i v hv
    cases h
    intro H locs cells slots ls hL hP hS hc hs
    exact lv_aload_n hx hb hd rfl (q_Lo_at hL hv (by simp)) (k H locs cells slots ls hL hP hS hc hs)
  · cases h
theorem q_t_istore_n (C : q_Cx p R s m args meth c D cI cZ cD base T X M N0 S0 Nf Sf) {x : Fin 4} (hat : q_at M pc = some (.istore_n x, n, g, pl)) (h : q_sti M (pc + n) L S w x = some (.inr (.inl σ'))) (k : q_G p l e R s m args below meth c Q D cI cZ cD base T N0 S0 σ') : q_G p l e R s m args below meth c Q D cI cZ cD base T N0 S0 (M, pc, L, S, w) := by
  obtain ⟨hx, hb, hml, hown, hts, hN, hin, hK, hE, hsz, hRf, hRl, hRc, hRs⟩ := C
  obtain ⟨hd, hn, hw, hxc⟩ := q_cert hat
  obtain rfl : n = 1 := by simpa [q_ln] using hn
  unfold q_sti at h
  split at h
  · rename_i v S2
    split at h
    · rename_i hlt
      cases h
      intro H locs cells slots ls hL hP hS hc hs
      exact lv_istore_n hx hb hd rfl (q_Lo_has hL) (by rw [← hL.1]; exact hlt.1) rfl (fun ls2 h2 => k H locs cells slots ls2 (q_Lo_st1 (u := .int v) hL hlt rfl h2) hP hS hc hs)
    · cases h
  · cases h
theorem q_t_istore (C : q_Cx p R s m args meth c D cI cZ cD base T X M N0 S0 Nf Sf) {x : Nat} (hat : q_at M pc = some (.istore x, n, g, pl)) (h : q_sti M (pc + n) L S w x = some (.inr (.inl σ'))) (k : q_G p l e R s m args below meth c Q D cI cZ cD base T N0 S0 σ') : q_G p l e R s m args below meth c Q D cI cZ cD base T N0 S0 (M, pc, L, S, w) := by
  obtain ⟨hx, hb, hml, hown, hts, hN, hin, hK, hE, hsz, hRf, hRl, hRc, hRs⟩ := C
  obtain ⟨hd, hn, hw, hxc⟩ := q_cert hat
  obtain rfl : n = 2 := by simpa [q_ln] using hn
  unfold q_sti at h
  split at h
  · rename_i v S2
    split at h
    · rename_i hlt
      cases h
      intro H locs cells slots ls hL hP hS hc hs
      exact lv_istore hx hb hd (q_Lo_has hL) (by rw [← hL.1]; exact hlt.1) rfl (fun ls2 h2 => k H locs cells slots ls2 (q_Lo_st1 (u := .int v) hL hlt rfl h2) hP hS hc hs)
    · cases h
  · cases h
theorem q_t_astore_n (C : q_Cx p R s m args meth c D cI cZ cD base T X M N0 S0 Nf Sf) {x : Fin 4} (hat : q_at M pc = some (.astore_n x, n, g, pl)) (h : q_sta M (pc + n) L S w x = some (.inr (.inl σ'))) (k : q_G p l e R s m args below meth c Q D cI cZ cD base T N0 S0 σ') : q_G p l e R s m args below meth c Q D cI cZ cD base T N0 S0 (M, pc, L, S, w) := by
  obtain ⟨hx, hb, hml, hown, hts, hN, hin, hK, hE, hsz, hRf, hRl, hRc, hRs⟩ := C
  obtain ⟨hd, hn, hw, hxc⟩ := q_cert hat
  obtain rfl : n = 1 := by simpa [q_ln] using hn
  unfold q_sta at h
  split at h
  · rename_i v S2
    split at h
    · rename_i hlt
      cases h
      intro H locs cells slots ls hL hP hS hc hs
      exact lv_astore_n hx hb hd rfl (q_Lo_has hL) (by rw [← hL.1]; exact hlt.1) rfl (fun ls2 h2 => k H locs cells slots ls2 (q_Lo_st1 (u := .ref v) hL hlt rfl h2) hP hS hc hs)
    · cases h
  · cases h
theorem q_t_lstore_n (C : q_Cx p R s m args meth c D cI cZ cD base T X M N0 S0 Nf Sf) {x : Fin 4} (hat : q_at M pc = some (.lstore_n x, n, g, pl)) (h : q_stl M (pc + n) L S w x = some (.inr (.inl σ'))) (k : q_G p l e R s m args below meth c Q D cI cZ cD base T N0 S0 σ') : q_G p l e R s m args below meth c Q D cI cZ cD base T N0 S0 (M, pc, L, S, w) := by
  obtain ⟨hx, hb, hml, hown, hts, hN, hin, hK, hE, hsz, hRf, hRl, hRc, hRs⟩ := C
  obtain ⟨hd, hn, hw, hxc⟩ := q_cert hat
  obtain rfl : n = 1 := by simpa [q_ln] using hn
  unfold q_stl at h
  split at h
  · rename_i v S2
    split at h
    · rename_i hlt
      cases h
      intro H locs cells slots ls hL hP hS hc hs
      exact lv_lstore_n hx hb hd rfl (q_Lo_has hL) (by rw [← hL.1]; exact hlt.1) rfl (fun ls2 h2 => k H locs cells slots ls2 (q_Lo_st2 (u := .long v) hL hlt h2) hP hS hc hs)
    · cases h
  · cases h
theorem q_t_iinc (C : q_Cx p R s m args meth c D cI cZ cD base T X M N0 S0 Nf Sf) {x : Nat} {y : Int} (hat : q_at M pc = some (.iinc x y, n, g, pl)) (h : (match L[x]? with | some (.int v) => if M = 19 ∧ x = 2 then none else q_go M (pc + n) (q_st1 L x (.int (v + Int32.ofInt y))) S w | _ => none) = some (.inr (.inl σ'))) (k : q_G p l e R s m args below meth c Q D cI cZ cD base T N0 S0 σ') : q_G p l e R s m args below meth c Q D cI cZ cD base T N0 S0 (M, pc, L, S, w) := by
  obtain ⟨hx, hb, hml, hown, hts, hN, hin, hK, hE, hsz, hRf, hRl, hRc, hRs⟩ := C
  obtain ⟨hd, hn, hw, hxc⟩ := q_cert hat
  obtain rfl : n = 3 := by simpa [q_ln] using hn
  split at h
  · rename_i v hv
    split at h
    · cases h
    · rename_i hno
      cases h
      intro H locs cells slots ls hL hP hS hc hs
      have hlt : x < L.length := (List.getElem?_eq_some_iff.mp hv).1
      obtain ⟨j, hj⟩ := List.getElem?_of_mem (q_lvl_in (base := base) (T := T) hv (by simp))
      exact lv_iinc hx hb hd (q_Lo_has hL) hj rfl (by rw [← hL.1]; exact hlt) rfl (fun ls2 h2 => k H locs cells slots ls2 (q_Lo_st1 (u := .int (v + Int32.ofInt y)) hL ⟨hlt, hno⟩ rfl h2) hP hS hc hs)
  · cases h
theorem q_t_iadd (C : q_Cx p R s m args meth c D cI cZ cD base T X M N0 S0 Nf Sf) (hat : q_at M pc = some (.iadd, n, g, pl)) (h : q_i2 M (pc + n) L S w (fun x y => x + y) = some (.inr (.inl σ'))) (k : q_G p l e R s m args below meth c Q D cI cZ cD base T N0 S0 σ') : q_G p l e R s m args below meth c Q D cI cZ cD base T N0 S0 (M, pc, L, S, w) := by
  obtain ⟨hx, hb, hml, hown, hts, hN, hin, hK, hE, hsz, hRf, hRl, hRc, hRs⟩ := C
  obtain ⟨hd, hn, hw, hxc⟩ := q_cert hat
  obtain rfl : n = 1 := by simpa [q_ln] using hn
  unfold q_i2 at h
  split at h
  · cases h
    intro H locs cells slots ls hL hP hS hc hs
    exact lv_iadd hx hb hd (k H locs cells slots ls hL hP hS hc hs)
  · cases h
theorem q_t_isub (C : q_Cx p R s m args meth c D cI cZ cD base T X M N0 S0 Nf Sf) (hat : q_at M pc = some (.isub, n, g, pl)) (h : q_i2 M (pc + n) L S w (fun x y => x - y) = some (.inr (.inl σ'))) (k : q_G p l e R s m args below meth c Q D cI cZ cD base T N0 S0 σ') : q_G p l e R s m args below meth c Q D cI cZ cD base T N0 S0 (M, pc, L, S, w) := by
  obtain ⟨hx, hb, hml, hown, hts, hN, hin, hK, hE, hsz, hRf, hRl, hRc, hRs⟩ := C
  obtain ⟨hd, hn, hw, hxc⟩ := q_cert hat
  obtain rfl : n = 1 := by simpa [q_ln] using hn
  unfold q_i2 at h
  split at h
  · cases h
    intro H locs cells slots ls hL hP hS hc hs
    exact lv_isub hx hb hd (k H locs cells slots ls hL hP hS hc hs)
  · cases h
theorem q_t_imul (C : q_Cx p R s m args meth c D cI cZ cD base T X M N0 S0 Nf Sf) (hat : q_at M pc = some (.imul, n, g, pl)) (h : q_i2 M (pc + n) L S w (fun x y => x * y) = some (.inr (.inl σ'))) (k : q_G p l e R s m args below meth c Q D cI cZ cD base T N0 S0 σ') : q_G p l e R s m args below meth c Q D cI cZ cD base T N0 S0 (M, pc, L, S, w) := by
  obtain ⟨hx, hb, hml, hown, hts, hN, hin, hK, hE, hsz, hRf, hRl, hRc, hRs⟩ := C
  obtain ⟨hd, hn, hw, hxc⟩ := q_cert hat
  obtain rfl : n = 1 := by simpa [q_ln] using hn
  unfold q_i2 at h
  split at h
  · cases h
    intro H locs cells slots ls hL hP hS hc hs
    exact lv_imul hx hb hd (k H locs cells slots ls hL hP hS hc hs)
  · cases h
theorem q_t_iand (C : q_Cx p R s m args meth c D cI cZ cD base T X M N0 S0 Nf Sf) (hat : q_at M pc = some (.iand, n, g, pl)) (h : q_i2 M (pc + n) L S w (fun x y => x &&& y) = some (.inr (.inl σ'))) (k : q_G p l e R s m args below meth c Q D cI cZ cD base T N0 S0 σ') : q_G p l e R s m args below meth c Q D cI cZ cD base T N0 S0 (M, pc, L, S, w) := by
  obtain ⟨hx, hb, hml, hown, hts, hN, hin, hK, hE, hsz, hRf, hRl, hRc, hRs⟩ := C
  obtain ⟨hd, hn, hw, hxc⟩ := q_cert hat
  obtain rfl : n = 1 := by simpa [q_ln] using hn
  unfold q_i2 at h
  split at h
  · cases h
    intro H locs cells slots ls hL hP hS hc hs
    exact lv_iand hx hb hd (k H locs cells slots ls hL hP hS hc hs)
  · cases h
theorem q_t_ior (C : q_Cx p R s m args meth c D cI cZ cD base T X M N0 S0 Nf Sf) (hat : q_at M pc = some (.ior, n, g, pl)) (h : q_i2 M (pc + n) L S w (fun x y => x ||| y) = some (.inr (.inl σ'))) (k : q_G p l e R s m args below meth c Q D cI cZ cD base T N0 S0 σ') : q_G p l e R s m args below meth c Q D cI cZ cD base T N0 S0 (M, pc, L, S, w) := by
  obtain ⟨hx, hb, hml, hown, hts, hN, hin, hK, hE, hsz, hRf, hRl, hRc, hRs⟩ := C
  obtain ⟨hd, hn, hw, hxc⟩ := q_cert hat
  obtain rfl : n = 1 := by simpa [q_ln] using hn
  unfold q_i2 at h
  split at h
  · cases h
    intro H locs cells slots ls hL hP hS hc hs
    exact lv_ior hx hb hd (k H locs cells slots ls hL hP hS hc hs)
  · cases h
theorem q_t_ixor (C : q_Cx p R s m args meth c D cI cZ cD base T X M N0 S0 Nf Sf) (hat : q_at M pc = some (.ixor, n, g, pl)) (h : q_i2 M (pc + n) L S w (fun x y => x ^^^ y) = some (.inr (.inl σ'))) (k : q_G p l e R s m args below meth c Q D cI cZ cD base T N0 S0 σ') : q_G p l e R s m args below meth c Q D cI cZ cD base T N0 S0 (M, pc, L, S, w) := by
  obtain ⟨hx, hb, hml, hown, hts, hN, hin, hK, hE, hsz, hRf, hRl, hRc, hRs⟩ := C
  obtain ⟨hd, hn, hw, hxc⟩ := q_cert hat
  obtain rfl : n = 1 := by simpa [q_ln] using hn
  unfold q_i2 at h
  split at h
  · cases h
    intro H locs cells slots ls hL hP hS hc hs
    exact lv_ixor hx hb hd (k H locs cells slots ls hL hP hS hc hs)
  · cases h
theorem q_t_ishl (C : q_Cx p R s m args meth c D cI cZ cD base T X M N0 S0 Nf Sf) (hat : q_at M pc = some (.ishl, n, g, pl)) (h : q_i2 M (pc + n) L S w (fun x y => x <<< (y &&& 31)) = some (.inr (.inl σ'))) (k : q_G p l e R s m args below meth c Q D cI cZ cD base T N0 S0 σ') : q_G p l e R s m args below meth c Q D cI cZ cD base T N0 S0 (M, pc, L, S, w) := by
  obtain ⟨hx, hb, hml, hown, hts, hN, hin, hK, hE, hsz, hRf, hRl, hRc, hRs⟩ := C
  obtain ⟨hd, hn, hw, hxc⟩ := q_cert hat
  obtain rfl : n = 1 := by simpa [q_ln] using hn
  unfold q_i2 at h
  split at h
  · cases h
    intro H locs cells slots ls hL hP hS hc hs
    exact lv_ishl hx hb hd (k H locs cells slots ls hL hP hS hc hs)
  · cases h
theorem q_t_ishr (C : q_Cx p R s m args meth c D cI cZ cD base T X M N0 S0 Nf Sf) (hat : q_at M pc = some (.ishr, n, g, pl)) (h : q_i2 M (pc + n) L S w (fun x y => x >>> (y &&& 31)) = some (.inr (.inl σ'))) (k : q_G p l e R s m args below meth c Q D cI cZ cD base T N0 S0 σ') : q_G p l e R s m args below meth c Q D cI cZ cD base T N0 S0 (M, pc, L, S, w) := by
  obtain ⟨hx, hb, hml, hown, hts, hN, hin, hK, hE, hsz, hRf, hRl, hRc, hRs⟩ := C
  obtain ⟨hd, hn, hw, hxc⟩ := q_cert hat
  obtain rfl : n = 1 := by simpa [q_ln] using hn
  unfold q_i2 at h
  split at h
  · cases h
    intro H locs cells slots ls hL hP hS hc hs
    exact lv_ishr hx hb hd (k H locs cells slots ls hL hP hS hc hs)
  · cases h
theorem q_t_iushr (C : q_Cx p R s m args meth c D cI cZ cD base T X M N0 S0 Nf Sf) (hat : q_at M pc = some (.iushr, n, g, pl)) (h : q_i2 M (pc + n) L S w (fun x y => (x.toUInt32 >>> (y.toUInt32 &&& Int32.toUInt32 31)).toInt32) = some (.inr (.inl σ'))) (k : q_G p l e R s m args below meth c Q D cI cZ cD base T N0 S0 σ') : q_G p l e R s m args below meth c Q D cI cZ cD base T N0 S0 (M, pc, L, S, w) := by
  obtain ⟨hx, hb, hml, hown, hts, hN, hin, hK, hE, hsz, hRf, hRl, hRc, hRs⟩ := C
  obtain ⟨hd, hn, hw, hxc⟩ := q_cert hat
  obtain rfl : n = 1 := by simpa [q_ln] using hn
  unfold q_i2 at h
  split at h
  · cases h
    intro H locs cells slots ls hL hP hS hc hs
    exact lv_iushr hx hb hd rfl (k H locs cells slots ls hL hP hS hc hs)
  · cases h
theorem q_t_idiv (C : q_Cx p R s m args meth c D cI cZ cD base T X M N0 S0 Nf Sf) (hat : q_at M pc = some (.idiv, n, g, pl)) (h : (match S with | .int y :: .int x :: S => if y = 0 then none else q_go M (pc + n) L (.int (x / y) :: S) w | _ => none) = some (.inr (.inl σ'))) (k : q_G p l e R s m args below meth c Q D cI cZ cD base T N0 S0 σ') : q_G p l e R s m args below meth c Q D cI cZ cD base T N0 S0 (M, pc, L, S, w) := by
  obtain ⟨hx, hb, hml, hown, hts, hN, hin, hK, hE, hsz, hRf, hRl, hRc, hRs⟩ := C
  obtain ⟨hd, hn, hw, hxc⟩ := q_cert hat
  obtain rfl : n = 1 := by simpa [q_ln] using hn
  split at h
  · split at h
    · cases h
    · rename_i hy
      cases h
      intro H locs cells slots ls hL hP hS hc hs
      exact lv_idiv hx hb hd hy (k H locs cells slots ls hL hP hS hc hs)
  · cases h
theorem q_t_irem (C : q_Cx p R s m args meth c D cI cZ cD base T X M N0 S0 Nf Sf) (hat : q_at M pc = some (.irem, n, g, pl)) (h : (match S with | .int y :: .int x :: S => if y = 0 then none else q_go M (pc + n) L (.int (x - x / y * y) :: S) w | _ => none) = some (.inr (.inl σ'))) (k : q_G p l e R s m args below meth c Q D cI cZ cD base T N0 S0 σ') : q_G p l e R s m args below meth c Q D cI cZ cD base T N0 S0 (M, pc, L, S, w) := by
  obtain ⟨hx, hb, hml, hown, hts, hN, hin, hK, hE, hsz, hRf, hRl, hRc, hRs⟩ := C
  obtain ⟨hd, hn, hw, hxc⟩ := q_cert hat
  obtain rfl : n = 1 := by simpa [q_ln] using hn
  split at h
  · split at h
    · cases h
    · rename_i hy
      cases h
      intro H locs cells slots ls hL hP hS hc hs
      exact lv_irem hx hb hd hy (k H locs cells slots ls hL hP hS hc hs)
  · cases h
theorem q_t_i2l (C : q_Cx p R s m args meth c D cI cZ cD base T X M N0 S0 Nf Sf) (hat : q_at M pc = some (.i2l, n, g, pl)) (h : (match S with | .int x :: S => q_go M (pc + n) L (.long x.toInt64 :: S) w | _ => none) = some (.inr (.inl σ'))) (k : q_G p l e R s m args below meth c Q D cI cZ cD base T N0 S0 σ') : q_G p l e R s m args below meth c Q D cI cZ cD base T N0 S0 (M, pc, L, S, w) := by
  obtain ⟨hx, hb, hml, hown, hts, hN, hin, hK, hE, hsz, hRf, hRl, hRc, hRs⟩ := C
  obtain ⟨hd, hn, hw, hxc⟩ := q_cert hat
  obtain rfl : n = 1 := by simpa [q_ln] using hn
  split at h
  · cases h
    intro H locs cells slots ls hL hP hS hc hs
    exact lv_i2l hx hb hd rfl (k H locs cells slots ls hL hP hS hc hs)
  · cases h
theorem q_t_lshl (C : q_Cx p R s m args meth c D cI cZ cD base T X M N0 S0 Nf Sf) (hat : q_at M pc = some (.lshl, n, g, pl)) (h : (match S with | .int y :: .long x :: S => q_go M (pc + n) L (.long (x <<< (y.toInt64 &&& 63)) :: S) w | _ => none) = some (.inr (.inl σ'))) (k : q_G p l e R s m args below meth c Q D cI cZ cD base T N0 S0 σ') : q_G p l e R s m args below meth c Q D cI cZ cD base T N0 S0 (M, pc, L, S, w) := by
  obtain ⟨hx, hb, hml, hown, hts, hN, hin, hK, hE, hsz, hRf, hRl, hRc, hRs⟩ := C
  obtain ⟨hd, hn, hw, hxc⟩ := q_cert hat
  obtain rfl : n = 1 := by simpa [q_ln] using hn
  split at h
  · cases h
    intro H locs cells slots ls hL hP hS hc hs
    exact lv_lshl hx hb hd rfl (k H locs cells slots ls hL hP hS hc hs)
  · cases h
theorem q_t_lor (C : q_Cx p R s m args meth c D cI cZ cD base T X M N0 S0 Nf Sf) (hat : q_at M pc = some (.lor, n, g, pl)) (h : (match S with | .long y :: .long x :: S => q_go M (pc + n) L (.long (x ||| y) :: S) w | _ => none) = some (.inr (.inl σ'))) (k : q_G p l e R s m args below meth c Q D cI cZ cD base T N0 S0 σ') : q_G p l e R s m args below meth c Q D cI cZ cD base T N0 S0 (M, pc, L, S, w) := by
  obtain ⟨hx, hb, hml, hown, hts, hN, hin, hK, hE, hsz, hRf, hRl, hRc, hRs⟩ := C
  obtain ⟨hd, hn, hw, hxc⟩ := q_cert hat
  obtain rfl : n = 1 := by simpa [q_ln] using hn
  split at h
  · cases h
    intro H locs cells slots ls hL hP hS hc hs
    exact lv_lor hx hb hd (k H locs cells slots ls hL hP hS hc hs)
  · cases h
theorem q_t_lcmp (C : q_Cx p R s m args meth c D cI cZ cD base T X M N0 S0 Nf Sf) (hat : q_at M pc = some (.lcmp, n, g, pl)) (h : (match S with | .long y :: .long x :: S => q_go M (pc + n) L (.int (lg_cmp x y) :: S) w | _ => none) = some (.inr (.inl σ'))) (k : q_G p l e R s m args below meth c Q D cI cZ cD base T N0 S0 σ') : q_G p l e R s m args below meth c Q D cI cZ cD base T N0 S0 (M, pc, L, S, w) := by
  obtain ⟨hx, hb, hml, hown, hts, hN, hin, hK, hE, hsz, hRf, hRl, hRc, hRs⟩ := C
  obtain ⟨hd, hn, hw, hxc⟩ := q_cert hat
  obtain rfl : n = 1 := by simpa [q_ln] using hn
  split at h
  · cases h
    intro H locs cells slots ls hL hP hS hc hs
    exact W.lcmp hx hb hd (k H locs cells slots ls hL hP hS hc hs)
  · cases h
theorem q_t_dup (C : q_Cx p R s m args meth c D cI cZ cD base T X M N0 S0 Nf Sf) (hat : q_at M pc = some (.dup, n, g, pl)) (h : (match S with | v :: S => if v.category = 1 then q_go M (pc + n) L (v :: v :: S) w else none | _ => none) = some (.inr (.inl σ'))) (k : q_G p l e R s m args below meth c Q D cI cZ cD base T N0 S0 σ') : q_G p l e R s m args below meth c Q D cI cZ cD base T N0 S0 (M, pc, L, S, w) := by
  obtain ⟨hx, hb, hml, hown, hts, hN, hin, hK, hE, hsz, hRf, hRl, hRc, hRs⟩ := C
  obtain ⟨hd, hn, hw, hxc⟩ := q_cert hat
  obtain rfl : n = 1 := by simpa [q_ln] using hn
  split at h
  · split at h
    · rename_i hv
      cases h
      intro H locs cells slots ls hL hP hS hc hs
      exact lv_dup hx hb hd (by rw [q_rl_cat]; exact hv) (k H locs cells slots ls hL hP hS hc hs)
    · cases h
  · cases h
theorem q_t_pop (C : q_Cx p R s m args meth c D cI cZ cD base T X M N0 S0 Nf Sf) (hat : q_at M pc = some (.pop, n, g, pl)) (h : (match S with | v :: S => if v.category = 1 then q_go M (pc + n) L S w else none | _ => none) = some (.inr (.inl σ'))) (k : q_G p l e R s m args below meth c Q D cI cZ cD base T N0 S0 σ') : q_G p l e R s m args below meth c Q D cI cZ cD base T N0 S0 (M, pc, L, S, w) := by
  obtain ⟨hx, hb, hml, hown, hts, hN, hin, hK, hE, hsz, hRf, hRl, hRc, hRs⟩ := C
  obtain ⟨hd, hn, hw, hxc⟩ := q_cert hat
  obtain rfl : n = 1 := by simpa [q_ln] using hn
  split at h
  · split at h
    · rename_i hv
      cases h
      intro H locs cells slots ls hL hP hS hc hs
      exact lv_pop hx hb hd (by rw [q_rl_cat]; exact hv) (k H locs cells slots ls hL hP hS hc hs)
    · cases h
  · cases h
theorem q_t_dup2 (C : q_Cx p R s m args meth c D cI cZ cD base T X M N0 S0 Nf Sf) (hat : q_at M pc = some (.dup2, n, g, pl)) (h : (match S with | v :: u :: S => if v.category = 1 ∧ u.category = 1 then q_go M (pc + n) L (v :: u :: v :: u :: S) w else none | _ => none) = some (.inr (.inl σ'))) (k : q_G p l e R s m args below meth c Q D cI cZ cD base T N0 S0 σ') : q_G p l e R s m args below meth c Q D cI cZ cD base T N0 S0 (M, pc, L, S, w) := by
  obtain ⟨hx, hb, hml, hown, hts, hN, hin, hK, hE, hsz, hRf, hRl, hRc, hRs⟩ := C
  obtain ⟨hd, hn, hw, hxc⟩ := q_cert hat
  obtain rfl : n = 1 := by simpa [q_ln] using hn
  split at h
  · split at h
    · rename_i hv
      cases h
      intro H locs cells slots ls hL hP hS hc hs
      exact lv_dup2_11 hx hb hd (by rw [q_rl_cat]; exact hv.1) (by rw [q_rl_cat]; exact hv.2) (k H locs cells slots ls hL hP hS hc hs)
    · cases h
  · cases h
theorem q_t_if_eq (C : q_Cx p R s m args meth c D cI cZ cD base T X M N0 S0 Nf Sf) {o : Int} (hat : q_at M pc = some (.ifCond .eq o, n, g, pl)) (h : q_c1 M (pc + n) g L S w (fun x => decide (x = 0)) = some (.inr (.inl σ'))) (k : q_G p l e R s m args below meth c Q D cI cZ cD base T N0 S0 σ') : q_G p l e R s m args below meth c Q D cI cZ cD base T N0 S0 (M, pc, L, S, w) := by
  obtain ⟨hx, hb, hml, hown, hts, hN, hin, hK, hE, hsz, hRf, hRl, hRc, hRs⟩ := C
  obtain ⟨hd, hn, hw, hxc⟩ := q_cert hat
  obtain rfl : n = 3 := by simpa [q_ln] using hn
  have ht : (pc : Int) + o = (g : Int) := by simpa [q_xc] using hxc
  unfold q_c1 at h
  split at h
  · split at h
    · rename_i hv
      cases h
      intro H locs cells slots ls hL hP hS hc hs
      exact lv_if_eq hx hb hd ht (fun _ => (k H locs cells slots ls hL hP hS hc hs)) (fun z => absurd (of_decide_eq_true hv) z)
    · rename_i hv
      cases h
      intro H locs cells slots ls hL hP hS hc hs
      exact lv_if_eq hx hb hd ht (fun z => absurd (decide_eq_true z) hv) (fun _ => (k H locs cells slots ls hL hP hS hc hs))
  · cases h
theorem q_t_if_ne (C : q_Cx p R s m args meth c D cI cZ cD base T X M N0 S0 Nf Sf) {o : Int} (hat : q_at M pc = some (.ifCond .ne o, n, g, pl)) (h : q_c1 M (pc + n) g L S w (fun x => decide (¬ x = 0)) = some (.inr (.inl σ'))) (k : q_G p l e R s m args below meth c Q D cI cZ cD base T N0 S0 σ') : q_G p l e R s m args below meth c Q D cI cZ cD base T N0 S0 (M, pc, L, S, w) := by
  obtain ⟨hx, hb, hml, hown, hts, hN, hin, hK, hE, hsz, hRf, hRl, hRc, hRs⟩ := C
  obtain ⟨hd, hn, hw, hxc⟩ := q_cert hat
  obtain rfl : n = 3 := by simpa [q_ln] using hn
  have ht : (pc : Int) + o = (g : Int) := by simpa [q_xc] using hxc
  unfold q_c1 at h
  split at h
  · split at h
    · rename_i hv
      cases h
      intro H locs cells slots ls hL hP hS hc hs
      exact lv_if_ne hx hb hd ht (fun _ => (k H locs cells slots ls hL hP hS hc hs)) (fun z => absurd (of_decide_eq_true hv) (fun q => q z))
    · rename_i hv
      cases h
      intro H locs cells slots ls hL hP hS hc hs
      exact lv_if_ne hx hb hd ht (fun z => absurd (decide_eq_true z) hv) (fun _ => (k H locs cells slots ls hL hP hS hc hs))
  · cases h
theorem q_t_if_lt (C : q_Cx p R s m args meth c D cI cZ cD base T X M N0 S0 Nf Sf) {o : Int} (hat : q_at M pc = some (.ifCond .lt o, n, g, pl)) (h : q_c1 M (pc + n) g L S w (fun x => decide (x < 0)) = some (.inr (.inl σ'))) (k : q_G p l e R s m args below meth c Q D cI cZ cD base T N0 S0 σ') : q_G p l e R s m args below meth c Q D cI cZ cD base T N0 S0 (M, pc, L, S, w) := by
  obtain ⟨hx, hb, hml, hown, hts, hN, hin, hK, hE, hsz, hRf, hRl, hRc, hRs⟩ := C
  obtain ⟨hd, hn, hw, hxc⟩ := q_cert hat
  obtain rfl : n = 3 := by simpa [q_ln] using hn
  have ht : (pc : Int) + o = (g : Int) := by simpa [q_xc] using hxc
  unfold q_c1 at h
  split at h
  · split at h
    · rename_i hv
      cases h
      intro H locs cells slots ls hL hP hS hc hs
      exact lv_if_lt hx hb hd ht (fun _ => (k H locs cells slots ls hL hP hS hc hs)) (fun z => absurd (of_decide_eq_true hv) z)
    · rename_i hv
      cases h
      intro H locs cells slots ls hL hP hS hc hs
      exact lv_if_lt hx hb hd ht (fun z => absurd (decide_eq_true z) hv) (fun _ => (k H locs cells slots ls hL hP hS hc hs))
  · cases h
theorem q_t_if_ge (C : q_Cx p R s m args meth c D cI cZ cD base T X M N0 S0 Nf Sf) {o : Int} (hat : q_at M pc = some (.ifCond .ge o, n, g, pl)) (h : q_c1 M (pc + n) g L S w (fun x => decide (0 ≤ x)) = some (.inr (.inl σ'))) (k : q_G p l e R s m args below meth c Q D cI cZ cD base T N0 S0 σ') : q_G p l e R s m args below meth c Q D cI cZ cD base T N0 S0 (M, pc, L, S, w) := by
  obtain ⟨hx, hb, hml, hown, hts, hN, hin, hK, hE, hsz, hRf, hRl, hRc, hRs⟩ := C
  obtain ⟨hd, hn, hw, hxc⟩ := q_cert hat
  obtain rfl : n = 3 := by simpa [q_ln] using hn
  have ht : (pc : Int) + o = (g : Int) := by simpa [q_xc] using hxc
  unfold q_c1 at h
  split at h
  · split at h
    · rename_i hv
      cases h
      intro H locs cells slots ls hL hP hS hc hs
      exact lv_if_ge hx hb hd ht (fun _ => (k H locs cells slots ls hL hP hS hc hs)) (fun z => absurd (of_decide_eq_true hv) z)
    · rename_i hv
      cases h
      intro H locs cells slots ls hL hP hS hc hs
      exact lv_if_ge hx hb hd ht (fun z => absurd (decide_eq_true z) hv) (fun _ => (k H locs cells slots ls hL hP hS hc hs))
  · cases h
theorem q_t_if_le (C : q_Cx p R s m args meth c D cI cZ cD base T X M N0 S0 Nf Sf) {o : Int} (hat : q_at M pc = some (.ifCond .le o, n, g, pl)) (h : q_c1 M (pc + n) g L S w (fun x => decide (x ≤ 0)) = some (.inr (.inl σ'))) (k : q_G p l e R s m args below meth c Q D cI cZ cD base T N0 S0 σ') : q_G p l e R s m args below meth c Q D cI cZ cD base T N0 S0 (M, pc, L, S, w) := by
  obtain ⟨hx, hb, hml, hown, hts, hN, hin, hK, hE, hsz, hRf, hRl, hRc, hRs⟩ := C
  obtain ⟨hd, hn, hw, hxc⟩ := q_cert hat
  obtain rfl : n = 3 := by simpa [q_ln] using hn
  have ht : (pc : Int) + o = (g : Int) := by simpa [q_xc] using hxc
  unfold q_c1 at h
  split at h
  · split at h
    · rename_i hv
      cases h
      intro H locs cells slots ls hL hP hS hc hs
      exact lv_if_le hx hb hd ht (fun _ => (k H locs cells slots ls hL hP hS hc hs)) (fun z => absurd (of_decide_eq_true hv) z)
    · rename_i hv
      cases h
      intro H locs cells slots ls hL hP hS hc hs
      exact lv_if_le hx hb hd ht (fun z => absurd (decide_eq_true z) hv) (fun _ => (k H locs cells slots ls hL hP hS hc hs))
  · cases h
theorem q_t_icmp_eq (C : q_Cx p R s m args meth c D cI cZ cD base T X M N0 S0 Nf Sf) {o : Int} (hat : q_at M pc = some (.if_icmp .eq o, n, g, pl)) (h : q_c2 M (pc + n) g L S w (fun x y => decide (x = y)) = some (.inr (.inl σ'))) (k : q_G p l e R s m args below meth c Q D cI cZ cD base T N0 S0 σ') : q_G p l e R s m args below meth c Q D cI cZ cD base T N0 S0 (M, pc, L, S, w) := by
  obtain ⟨hx, hb, hml, hown, hts, hN, hin, hK, hE, hsz, hRf, hRl, hRc, hRs⟩ := C
  obtain ⟨hd, hn, hw, hxc⟩ := q_cert hat
  obtain rfl : n = 3 := by simpa [q_ln] using hn
  have ht : (pc : Int) + o = (g : Int) := by simpa [q_xc] using hxc
  unfold q_c2 at h
  split at h
  · split at h
    · rename_i hv
      cases h
      intro H locs cells slots ls hL hP hS hc hs
      exact lv_icmp_eq hx hb hd ht (fun _ => (k H locs cells slots ls hL hP hS hc hs)) (fun z => absurd (of_decide_eq_true hv) z)
    · rename_i hv
      cases h
      intro H locs cells slots ls hL hP hS hc hs
      exact lv_icmp_eq hx hb hd ht (fun z => absurd (decide_eq_true z) hv) (fun _ => (k H locs cells slots ls hL hP hS hc hs))
  · cases h
theorem q_t_icmp_ne (C : q_Cx p R s m args meth c D cI cZ cD base T X M N0 S0 Nf Sf) {o : Int} (hat : q_at M pc = some (.if_icmp .ne o, n, g, pl)) (h : q_c2 M (pc + n) g L S w (fun x y => decide (¬ x = y)) = some (.inr (.inl σ'))) (k : q_G p l e R s m args below meth c Q D cI cZ cD base T N0 S0 σ') : q_G p l e R s m args below meth c Q D cI cZ cD base T N0 S0 (M, pc, L, S, w) := by
  obtain ⟨hx, hb, hml, hown, hts, hN, hin, hK, hE, hsz, hRf, hRl, hRc, hRs⟩ := C
  obtain ⟨hd, hn, hw, hxc⟩ := q_cert hat
  obtain rfl : n = 3 := by simpa [q_ln] using hn
  have ht : (pc : Int) + o = (g : Int) := by simpa [q_xc] using hxc
  unfold q_c2 at h
  split at h
  · split at h
    · rename_i hv
      cases h
      intro H locs cells slots ls hL hP hS hc hs
      exact lv_icmp_ne hx hb hd ht (fun _ => (k H locs cells slots ls hL hP hS hc hs)) (fun z => absurd (of_decide_eq_true hv) (fun q => q z))
    · rename_i hv
      cases h
      intro H locs cells slots ls hL hP hS hc hs
      exact lv_icmp_ne hx hb hd ht (fun z => absurd (decide_eq_true z) hv) (fun _ => (k H locs cells slots ls hL hP hS hc hs))
  · cases h
theorem q_t_icmp_lt (C : q_Cx p R s m args meth c D cI cZ cD base T X M N0 S0 Nf Sf) {o : Int} (hat : q_at M pc = some (.if_icmp .lt o, n, g, pl)) (h : q_c2 M (pc + n) g L S w (fun x y => decide (x < y)) = some (.inr (.inl σ'))) (k : q_G p l e R s m args below meth c Q D cI cZ cD base T N0 S0 σ') : q_G p l e R s m args below meth c Q D cI cZ cD base T N0 S0 (M, pc, L, S, w) := by
  obtain ⟨hx, hb, hml, hown, hts, hN, hin, hK, hE, hsz, hRf, hRl, hRc, hRs⟩ := C
  obtain ⟨hd, hn, hw, hxc⟩ := q_cert hat
  obtain rfl : n = 3 := by simpa [q_ln] using hn
  have ht : (pc : Int) + o = (g : Int) := by simpa [q_xc] using hxc
  unfold q_c2 at h
  split at h
  · split at h
    · rename_i hv
      cases h
      intro H locs cells slots ls hL hP hS hc hs
      exact lv_icmp_lt hx hb hd ht (fun _ => (k H locs cells slots ls hL hP hS hc hs)) (fun z => absurd (of_decide_eq_true hv) z)
    · rename_i hv
      cases h
      intro H locs cells slots ls hL hP hS hc hs
      exact lv_icmp_lt hx hb hd ht (fun z => absurd (decide_eq_true z) hv) (fun _ => (k H locs cells slots ls hL hP hS hc hs))
  · cases h
theorem q_t_icmp_ge (C : q_Cx p R s m args meth c D cI cZ cD base T X M N0 S0 Nf Sf) {o : Int} (hat : q_at M pc = some (.if_icmp .ge o, n, g, pl)) (h : q_c2 M (pc + n) g L S w (fun x y => decide (y ≤ x)) = some (.inr (.inl σ'))) (k : q_G p l e R s m args below meth c Q D cI cZ cD base T N0 S0 σ') : q_G p l e R s m args below meth c Q D cI cZ cD base T N0 S0 (M, pc, L, S, w) := by
  obtain ⟨hx, hb, hml, hown, hts, hN, hin, hK, hE, hsz, hRf, hRl, hRc, hRs⟩ := C
  obtain ⟨hd, hn, hw, hxc⟩ := q_cert hat
  obtain rfl : n = 3 := by simpa [q_ln] using hn
  have ht : (pc : Int) + o = (g : Int) := by simpa [q_xc] using hxc
  unfold q_c2 at h
  split at h
  · split at h
    · rename_i hv
      cases h
      intro H locs cells slots ls hL hP hS hc hs
      exact lv_icmp_ge hx hb hd ht (fun _ => (k H locs cells slots ls hL hP hS hc hs)) (fun z => absurd (of_decide_eq_true hv) z)
    · rename_i hv
      cases h
      intro H locs cells slots ls hL hP hS hc hs
      exact lv_icmp_ge hx hb hd ht (fun z => absurd (decide_eq_true z) hv) (fun _ => (k H locs cells slots ls hL hP hS hc hs))
  · cases h
theorem q_t_icmp_gt (C : q_Cx p R s m args meth c D cI cZ cD base T X M N0 S0 Nf Sf) {o : Int} (hat : q_at M pc = some (.if_icmp .gt o, n, g, pl)) (h : q_c2 M (pc + n) g L S w (fun x y => decide (y < x)) = some (.inr (.inl σ'))) (k : q_G p l e R s m args below meth c Q D cI cZ cD base T N0 S0 σ') : q_G p l e R s m args below meth c Q D cI cZ cD base T N0 S0 (M, pc, L, S, w) := by
  obtain ⟨hx, hb, hml, hown, hts, hN, hin, hK, hE, hsz, hRf, hRl, hRc, hRs⟩ := C
  obtain ⟨hd, hn, hw, hxc⟩ := q_cert hat
  obtain rfl : n = 3 := by simpa [q_ln] using hn
  have ht : (pc : Int) + o = (g : Int) := by simpa [q_xc] using hxc
  unfold q_c2 at h
  split at h
  · split at h
    · rename_i hv
      cases h
      intro H locs cells slots ls hL hP hS hc hs
      exact lv_icmp_gt hx hb hd ht (fun _ => (k H locs cells slots ls hL hP hS hc hs)) (fun z => absurd (of_decide_eq_true hv) z)
    · rename_i hv
      cases h
      intro H locs cells slots ls hL hP hS hc hs
      exact lv_icmp_gt hx hb hd ht (fun z => absurd (decide_eq_true z) hv) (fun _ => (k H locs cells slots ls hL hP hS hc hs))
  · cases h
theorem q_t_icmp_le (C : q_Cx p R s m args meth c D cI cZ cD base T X M N0 S0 Nf Sf) {o : Int} (hat : q_at M pc = some (.if_icmp .le o, n, g, pl)) (h : q_c2 M (pc + n) g L S w (fun x y => decide (x ≤ y)) = some (.inr (.inl σ'))) (k : q_G p l e R s m args below meth c Q D cI cZ cD base T N0 S0 σ') : q_G p l e R s m args below meth c Q D cI cZ cD base T N0 S0 (M, pc, L, S, w) := by
  obtain ⟨hx, hb, hml, hown, hts, hN, hin, hK, hE, hsz, hRf, hRl, hRc, hRs⟩ := C
  obtain ⟨hd, hn, hw, hxc⟩ := q_cert hat
  obtain rfl : n = 3 := by simpa [q_ln] using hn
  have ht : (pc : Int) + o = (g : Int) := by simpa [q_xc] using hxc
  unfold q_c2 at h
  split at h
  · split at h
    · rename_i hv
      cases h
      intro H locs cells slots ls hL hP hS hc hs
      exact lv_icmp_le hx hb hd ht (fun _ => (k H locs cells slots ls hL hP hS hc hs)) (fun z => absurd (of_decide_eq_true hv) z)
    · rename_i hv
      cases h
      intro H locs cells slots ls hL hP hS hc hs
      exact lv_icmp_le hx hb hd ht (fun z => absurd (decide_eq_true z) hv) (fun _ => (k H locs cells slots ls hL hP hS hc hs))
  · cases h
theorem q_t_goto (C : q_Cx p R s m args meth c D cI cZ cD base T X M N0 S0 Nf Sf) {o : Int} (hat : q_at M pc = some (.goto o, n, g, pl)) (h : q_go M g L S w = some (.inr (.inl σ'))) (k : q_G p l e R s m args below meth c Q D cI cZ cD base T N0 S0 σ') : q_G p l e R s m args below meth c Q D cI cZ cD base T N0 S0 (M, pc, L, S, w) := by
  obtain ⟨hx, hb, hml, hown, hts, hN, hin, hK, hE, hsz, hRf, hRl, hRc, hRs⟩ := C
  obtain ⟨hd, hn, hw, hxc⟩ := q_cert hat
  obtain rfl : n = 3 := by simpa [q_ln] using hn
  have ht : (pc : Int) + o = (g : Int) := by simpa [q_xc] using hxc
  cases h
  intro H locs cells slots ls hL hP hS hc hs
  exact lv_goto hx hb hd ht (k H locs cells slots ls hL hP hS hc hs)
end QS
