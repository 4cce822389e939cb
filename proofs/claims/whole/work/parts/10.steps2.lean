theorem q_cat8 {base : Nat} {T : Nat → Nat} {S : List Value} (h : S.length ≤ 4) : ((S.map (q_rl base T)).map fun v => v.category).sum ≤ 8 := by
  have key : ∀ S : List Value, ((S.map (q_rl base T)).map fun v => v.category).sum ≤ 2 * S.length := by
    intro S
    induction S with
    | nil => simp
    | cons v S ih =>
      simp only [List.map_cons, List.sum_cons, List.length_cons]
      have : (q_rl base T v).category ≤ 2 := by rcases lv_cat (q_rl base T v) with h | h <;> omega
      omega
  have := key S
  omega
section QT
variable {p : Program} {l : Launch} {e : Env} {R : Room} {s : State} {m : MethodId} {args : Array Value} {below : List Frame} {meth : Method} {c : Code} {Q : State → Prop}
variable {D : va_G} {cI cZ cD : ClassId} {base : Nat} {T : Nat → Nat} {X : Nat × (Nat → Int32)} {M N0 S0 Nf Sf : Nat}
variable {pc n g : Nat} {pl : List Nat} {L S : List Value} {w : q_M} {σ' : q_S}
theorem q_t_getfield (C : q_Cx p R s m args meth c D cI cZ cD base T X M N0 S0 Nf Sf) {x : Nat} (hat : q_at M pc = some (.getfield x, n, g, pl)) (h : q_gf M (pc + n) L S w (g / 32) (g % 32) = some (.inr (.inl σ'))) (k : q_G p l e R s m args below meth c Q D cI cZ cD base T N0 S0 σ') : q_G p l e R s m args below meth c Q D cI cZ cD base T N0 S0 (M, pc, L, S, w) := by
  obtain ⟨hx, hb, hml, hown, hts, hN, hin, hK, hE, hsz, hRf, hRl, hRc, hRs⟩ := C
  obtain ⟨hd, hn, hw, hxc⟩ := q_cert hat
  obtain rfl : n = 3 := by simpa [q_ln] using hn
  obtain ⟨hci, hk⟩ : g / 32 < 9 ∧ g % 32 < (q_ft (g / 32)).length := by simpa [q_xc] using hxc
  have hw1 : Jvm.Cond.fieldLink (q_own M) x (q_T (g / 32) (g % 32)).1 (q_T (g / 32) (g % 32)).2.1 (q_T (g / 32) (g % 32)).2.2.1 ∈ lw_tbl := hw _ (by simp [q_wd, q_kd, q_wk, q_own])
  unfold q_gf at h
  split at h
  · rename_i a S2
    split at h
    · rename_i hcl
      obtain ⟨n0, hn0⟩ := q_fst_of hcl
      have he : (q_ws base cI cZ cD w)[a]? = some (base + a, .inr (g / 32, q_fl base w a (g / 32))) := by rw [q_ws_at (q_lt_of hn0), q_cell_obj hn0 hci]
      split at h
      · rename_i ht
        cases h
        intro H locs cells slots ls hL hP hS hc hs
        exact va_get (D := D) (v := .int (w.2.1 a (g % 32))) hx hb hts (q_hin hci) hown hK hP a he (q_vw hci) (g % 32) hk (hts _ (q_in_g hw1 rfl)) (fun _ h9 => h9) (q_fl_at ht) hd (k H locs cells slots ls hL hP hS hc hs)
      · rename_i ht
        split at h
        · rename_i r hr
          cases h
          intro H locs cells slots ls hL hP hS hc hs
          exact va_get (D := D) (v := .ref (base + r)) hx hb hts (q_hin hci) hown hK hP a he (q_vw hci) (g % 32) hk (hts _ (q_in_g hw1 rfl)) (fun _ h9 => h9) (by rw [q_fl_at ht]; simp [q_fv, hr, va_rf]) hd (k H locs cells slots ls hL hP hS hc hs)
        · cases h
      · rename_i ht
        cases h
        intro H locs cells slots ls hL hP hS hc hs
        exact va_get (D := D) (v := .long (w.2.2.2 a)) hx hb hts (q_hin hci) hown hK hP a he (q_vw hci) (g % 32) hk (hts _ (q_in_g hw1 rfl)) (fun _ h9 => h9) (q_fl_at ht) hd (k H locs cells slots ls hL hP hS hc hs)
      · cases h
    · cases h
  · cases h
theorem q_t_putfield (C : q_Cx p R s m args meth c D cI cZ cD base T X M N0 S0 Nf Sf) {x : Nat} (hat : q_at M pc = some (.putfield x, n, g, pl)) (h : q_pf M (pc + n) L S w (g / 32) (g % 32) = some (.inr (.inl σ'))) (k : q_G p l e R s m args below meth c Q D cI cZ cD base T N0 S0 σ') : q_G p l e R s m args below meth c Q D cI cZ cD base T N0 S0 (M, pc, L, S, w) := by
  obtain ⟨hx, hb, hml, hown, hts, hN, hin, hK, hE, hsz, hRf, hRl, hRc, hRs⟩ := C
  obtain ⟨hd, hn, hw, hxc⟩ := q_cert hat
  obtain rfl : n = 3 := by simpa [q_ln] using hn
  obtain ⟨⟨hci, hk⟩, hfin⟩ : (g / 32 < 9 ∧ g % 32 < (q_ft (g / 32)).length) ∧ ((q_T (g / 32) (g % 32)).2.2.2 = false ∨ (q_ini M = true ∧ (q_T (g / 32) (g % 32)).1 = q_own M)) := by simpa [q_xc] using hxc
  have hw1 : Jvm.Cond.fieldLink (q_own M) x (q_T (g / 32) (g % 32)).1 (q_T (g / 32) (g % 32)).2.1 (q_T (g / 32) (g % 32)).2.2.1 ∈ lw_tbl := hw _ (by simp [q_wd, q_kd, q_wk, q_own])
  obtain ⟨k0, k1, k2⟩ := q_kinds hci hk
  unfold q_pf at h
  split at h
  · rename_i v a S2
    split at h
    · rename_i hcl
      obtain ⟨n0, hn0⟩ := q_fst_of hcl.1
      have he : (q_ws base cI cZ cD w)[a]? = some (base + a, .inr (g / 32, q_fl base w a (g / 32))) := by rw [q_ws_at (q_lt_of hn0), q_cell_obj hn0 hci]
      cases h
      intro H locs cells slots ls hL hP hS hc hs
      have hset : (q_ws base cI cZ cD w).set a (base + a, .inr (g / 32, (q_fl base w a (g / 32)).set (g % 32) (.int v))) = q_ws base cI cZ cD (w.1, q_up w.2.1 a (g % 32) v, w.2.2.1, w.2.2.2) := by
        have h1 := q_ws_upd (base := base) (cI := cI) (cZ := cZ) (cD := cD) (w := w) (w' := (w.1, q_up w.2.1 a (g % 32) v, w.2.2.1, w.2.2.2)) (a := a) rfl (fun b hb2 => ⟨va_up_ne _ _ hb2, rfl, rfl⟩)
        rw [← h1]
        have hc2 : q_cell base cI cZ cD (w.1, q_up w.2.1 a (g % 32) v, w.2.2.1, w.2.2.2) a = .inr (g / 32, q_fl base (w.1, q_up w.2.1 a (g % 32) v, w.2.2.1, w.2.2.2) a (g / 32)) := q_cell_obj hn0 hci
        rw [hc2, q_fl_set (w' := (w.1, q_up w.2.1 a (g % 32) v, w.2.2.1, w.2.2.2)) hcl.2 (by simp [q_fv, q_up, va_up, upd]) (fun i u hi hu => by simp [q_fv, q_up, va_up, upd, hi])]
      obtain ⟨hn9, hf9⟩ : narrow (q_ty (g / 32) (g % 32)) (.int v) = .int v ∧ fits (q_ty (g / 32) (g % 32)) (.int v) = true := by rw [k0 hcl.2]; exact ⟨rfl, rfl⟩
      have hlen : g % 32 < (q_fl base w a (g / 32)).length := by simpa [q_fl] using hk
      rcases hfin with hfin | ⟨hfi, hown2⟩
      · by_cases hft : (q_T (g / 32) (g % 32)).2.2.2 = false
        · exact va_put (D := D) (v := .int v) (ty := q_ty (g / 32) (g % 32)) hx hb hts (q_hin hci) (q_ty (g / 32)) (q_tyok hci) (q_nmok hci) hown hK hP q_ws_D hS a he (q_vw hci) (g % 32) hk (hts _ (q_in_g hw1 rfl)) (fun _ h9 => h9) hft (q_tyok hci _ hk) hn9 hf9 hlen hd (fun H1 locs1 hP1 hD1 hS1 => k H1 locs1 cells slots ls hL (by rw [hset] at hP1; exact hP1) hS1 hc hs)
        · exact absurd hfin hft
      · by_cases hft : (q_T (g / 32) (g % 32)).2.2.2 = false
        · exact va_put (D := D) (v := .int v) (ty := q_ty (g / 32) (g % 32)) hx hb hts (q_hin hci) (q_ty (g / 32)) (q_tyok hci) (q_nmok hci) hown hK hP q_ws_D hS a he (q_vw hci) (g % 32) hk (hts _ (q_in_g hw1 rfl)) (fun _ h9 => h9) hft (q_tyok hci _ hk) hn9 hf9 hlen hd (fun H1 locs1 hP1 hD1 hS1 => k H1 locs1 cells slots ls hL (by rw [hset] at hP1; exact hP1) hS1 hc hs)
        · have hft2 : (q_T (g / 32) (g % 32)).2.2.2 = true := by simpa using hft
          exact va_putF (D := D) (v := .int v) (ty := q_ty (g / 32) (g % 32)) hx hb hts (q_hin hci) (q_ty (g / 32)) (q_tyok hci) (q_nmok hci) hown hK hP q_ws_D hS a he (q_vw hci) (g % 32) hk (hts _ (q_in_g hw1 rfl)) (fun _ h9 => h9) hft2 (hin hfi) hown2 (q_tyok hci _ hk) hn9 hf9 hlen hd (fun H1 locs1 hP1 hD1 hS1 => k H1 locs1 cells slots ls hL (by rw [hset] at hP1; exact hP1) hS1 hc hs)
    · cases h
  · rename_i v a S2
    split at h
    · rename_i hcl
      obtain ⟨n0, hn0⟩ := q_fst_of hcl.1
      have he : (q_ws base cI cZ cD w)[a]? = some (base + a, .inr (g / 32, q_fl base w a (g / 32))) := by rw [q_ws_at (q_lt_of hn0), q_cell_obj hn0 hci]
      cases h
      intro H locs cells slots ls hL hP hS hc hs
      have hset : (q_ws base cI cZ cD w).set a (base + a, .inr (g / 32, (q_fl base w a (g / 32)).set (g % 32) (.ref (base + v)))) = q_ws base cI cZ cD (w.1, w.2.1, q_upP w.2.2.1 a (g % 32) (some v), w.2.2.2) := by
        have h1 := q_ws_upd (base := base) (cI := cI) (cZ := cZ) (cD := cD) (w := w) (w' := (w.1, w.2.1, q_upP w.2.2.1 a (g % 32) (some v), w.2.2.2)) (a := a) rfl (fun b hb2 => ⟨rfl, va_up_ne _ _ hb2, rfl⟩)
        rw [← h1]
        have hc2 : q_cell base cI cZ cD (w.1, w.2.1, q_upP w.2.2.1 a (g % 32) (some v), w.2.2.2) a = .inr (g / 32, q_fl base (w.1, w.2.1, q_upP w.2.2.1 a (g % 32) (some v), w.2.2.2) a (g / 32)) := q_cell_obj hn0 hci
        rw [hc2, q_fl_set (w' := (w.1, w.2.1, q_upP w.2.2.1 a (g % 32) (some v), w.2.2.2)) hcl.2 (by simp [q_fv, q_upP, va_up, va_rf]) (fun i u hi hu => by simp [q_fv, q_upP, va_up, hi])]
      obtain ⟨hn9, hf9⟩ : narrow (q_ty (g / 32) (g % 32)) (.ref (base + v)) = .ref (base + v) ∧ fits (q_ty (g / 32) (g % 32)) (.ref (base + v)) = true := q_narR (k1 hcl.2)
      have hlen : g % 32 < (q_fl base w a (g / 32)).length := by simpa [q_fl] using hk
      rcases hfin with hfin | ⟨hfi, hown2⟩
      · by_cases hft : (q_T (g / 32) (g % 32)).2.2.2 = false
        · exact va_put (D := D) (v := .ref (base + v)) (ty := q_ty (g / 32) (g % 32)) hx hb hts (q_hin hci) (q_ty (g / 32)) (q_tyok hci) (q_nmok hci) hown hK hP q_ws_D hS a he (q_vw hci) (g % 32) hk (hts _ (q_in_g hw1 rfl)) (fun _ h9 => h9) hft (q_tyok hci _ hk) hn9 hf9 hlen hd (fun H1 locs1 hP1 hD1 hS1 => k H1 locs1 cells slots ls hL (by rw [hset] at hP1; exact hP1) hS1 hc hs)
        · exact absurd hfin hft
      · by_cases hft : (q_T (g / 32) (g % 32)).2.2.2 = false
        · exact va_put (D := D) (v := .ref (base + v)) (ty := q_ty (g / 32) (g % 32)) hx hb hts (q_hin hci) (q_ty (g / 32)) (q_tyok hci) (q_nmok hci) hown hK hP q_ws_D hS a he (q_vw hci) (g % 32) hk (hts _ (q_in_g hw1 rfl)) (fun _ h9 => h9) hft (q_tyok hci _ hk) hn9 hf9 hlen hd (fun H1 locs1 hP1 hD1 hS1 => k H1 locs1 cells slots ls hL (by rw [hset] at hP1; exact hP1) hS1 hc hs)
        · have hft2 : (q_T (g / 32) (g % 32)).2.2.2 = true := by simpa using hft
          exact va_putF (D := D) (v := .ref (base + v)) (ty := q_ty (g / 32) (g % 32)) hx hb hts (q_hin hci) (q_ty (g / 32)) (q_tyok hci) (q_nmok hci) hown hK hP q_ws_D hS a he (q_vw hci) (g % 32) hk (hts _ (q_in_g hw1 rfl)) (fun _ h9 => h9) hft2 (hin hfi) hown2 (q_tyok hci _ hk) hn9 hf9 hlen hd (fun H1 locs1 hP1 hD1 hS1 => k H1 locs1 cells slots ls hL (by rw [hset] at hP1; exact hP1) hS1 hc hs)
    · cases h
  · rename_i v a S2
    split at h
    · rename_i hcl
      obtain ⟨k21, k22, k23⟩ := k2 hcl.2
      obtain ⟨n0, hn0⟩ := q_fst_of hcl.1
      have he : (q_ws base cI cZ cD w)[a]? = some (base + a, .inr (g / 32, q_fl base w a (g / 32))) := by rw [q_ws_at (q_lt_of hn0), q_cell_obj hn0 hci]
      cases h
      intro H locs cells slots ls hL hP hS hc hs
      have hset : (q_ws base cI cZ cD w).set a (base + a, .inr (g / 32, (q_fl base w a (g / 32)).set (g % 32) (.long v))) = q_ws base cI cZ cD (w.1, w.2.1, w.2.2.1, va_up w.2.2.2 a v) := by
        have h1 := q_ws_upd (base := base) (cI := cI) (cZ := cZ) (cD := cD) (w := w) (w' := (w.1, w.2.1, w.2.2.1, va_up w.2.2.2 a v)) (a := a) rfl (fun b hb2 => ⟨rfl, rfl, va_up_ne _ _ hb2⟩)
        rw [← h1]
        have hc2 : q_cell base cI cZ cD (w.1, w.2.1, w.2.2.1, va_up w.2.2.2 a v) a = .inr (g / 32, q_fl base (w.1, w.2.1, w.2.2.1, va_up w.2.2.2 a v) a (g / 32)) := q_cell_obj hn0 hci
        rw [hc2, q_fl_set (w' := (w.1, w.2.1, w.2.2.1, va_up w.2.2.2 a v)) hcl.2 (by simp [q_fv, va_up]) (fun i u hi hu => by
          have hi2 : i < (q_ft (g / 32)).length := (List.getElem?_eq_some_iff.mp hu).1
          have hu2 : ¬ u = 2 := fun z => hi (by subst z; rw [k23]; exact (((q_kinds hci hi2).2.2 hu).2.2))
          rw [k22] at hu
          have hu3 : u = 0 ∨ u = 1 := by
            rcases i with _ | _ | _ | i
            · right; cases hu; rfl
            · right; cases hu; rfl
            · cases hu; exact absurd rfl hu2
            · cases hu
          rcases hu3 with rfl | rfl <;> rfl)]
      obtain ⟨hn9, hf9⟩ : narrow (q_ty (g / 32) (g % 32)) (.long v) = .long v ∧ fits (q_ty (g / 32) (g % 32)) (.long v) = true := by rw [k21]; exact ⟨rfl, rfl⟩
      have hlen : g % 32 < (q_fl base w a (g / 32)).length := by simpa [q_fl] using hk
      rcases hfin with hfin | ⟨hfi, hown2⟩
      · by_cases hft : (q_T (g / 32) (g % 32)).2.2.2 = false
        · exact va_put (D := D) (v := .long v) (ty := q_ty (g / 32) (g % 32)) hx hb hts (q_hin hci) (q_ty (g / 32)) (q_tyok hci) (q_nmok hci) hown hK hP q_ws_D hS a he (q_vw hci) (g % 32) hk (hts _ (q_in_g hw1 rfl)) (fun _ h9 => h9) hft (q_tyok hci _ hk) hn9 hf9 hlen hd (fun H1 locs1 hP1 hD1 hS1 => k H1 locs1 cells slots ls hL (by rw [hset] at hP1; exact hP1) hS1 hc hs)
        · exact absurd hfin hft
      · by_cases hft : (q_T (g / 32) (g % 32)).2.2.2 = false
        · exact va_put (D := D) (v := .long v) (ty := q_ty (g / 32) (g % 32)) hx hb hts (q_hin hci) (q_ty (g / 32)) (q_tyok hci) (q_nmok hci) hown hK hP q_ws_D hS a he (q_vw hci) (g % 32) hk (hts _ (q_in_g hw1 rfl)) (fun _ h9 => h9) hft (q_tyok hci _ hk) hn9 hf9 hlen hd (fun H1 locs1 hP1 hD1 hS1 => k H1 locs1 cells slots ls hL (by rw [hset] at hP1; exact hP1) hS1 hc hs)
        · have hft2 : (q_T (g / 32) (g % 32)).2.2.2 = true := by simpa using hft
          exact va_putF (D := D) (v := .long v) (ty := q_ty (g / 32) (g % 32)) hx hb hts (q_hin hci) (q_ty (g / 32)) (q_tyok hci) (q_nmok hci) hown hK hP q_ws_D hS a he (q_vw hci) (g % 32) hk (hts _ (q_in_g hw1 rfl)) (fun _ h9 => h9) hft2 (hin hfi) hown2 (q_tyok hci _ hk) hn9 hf9 hlen hd (fun H1 locs1 hP1 hD1 hS1 => k H1 locs1 cells slots ls hL (by rw [hset] at hP1; exact hP1) hS1 hc hs)
    · cases h
  · cases h
theorem q_t_getstatic (C : q_Cx p R s m args meth c D cI cZ cD base T X M N0 S0 Nf Sf) {x : Nat} (hat : q_at M pc = some (.getstatic x, n, g, pl)) (h : q_go M (pc + n) L (.float (UInt32.ofNat g) :: S) w = some (.inr (.inl σ'))) (k : q_G p l e R s m args below meth c Q D cI cZ cD base T N0 S0 σ') : q_G p l e R s m args below meth c Q D cI cZ cD base T N0 S0 (M, pc, L, S, w) := by
  obtain ⟨hx, hb, hml, hown, hts, hN, hin, hK, hE, hsz, hRf, hRl, hRc, hRs⟩ := C
  obtain ⟨hd, hn, hw, hxc⟩ := q_cert hat
  obtain rfl : n = 3 := by simpa [q_ln] using hn
  have hg : g < 2 := by simpa [q_xc] using hxc
  have hw1 : Jvm.Cond.fieldLink (q_own M) x RX3 (if g = 0 then "MARKS" else "ONE_BY") "[I" ∈ lw_tbl := hw _ (by simp [q_wd, q_kd, q_wk, q_own])
  cases h
  intro H locs cells slots ls hL hP hS hc hs
  rcases (show g = 0 ∨ g = 1 by omega) with rfl | rfl
  · exact va_gets hx hb hE.1.1 hS hown (hts _ (q_in_g hw1 rfl)) (fun _ h9 => h9) hd (k H locs cells slots ls hL hP hS hc hs)
  · exact va_gets hx hb hE.2.1.1 hS hown (hts _ (q_in_g hw1 rfl)) (fun _ h9 => h9) hd (k H locs cells slots ls hL hP hS hc hs)
theorem q_xt_T (hE : q_Ext T X base s) (u : UInt32) : va_T .int (T u.toNat) (q_xt X u).1 (fun j => .int ((q_xt X u).2 j)) (q_A base) s s.heap := by
  unfold q_xt
  by_cases h0 : u = 0
  · subst h0; exact hE.1.2
  · by_cases h1 : u = 1
    · subst h1; exact hE.2.1.2
    · rw [if_neg h0, if_neg h1]; exact hE.2.2 u h0 h1
theorem q_t_iaload (C : q_Cx p R s m args meth c D cI cZ cD base T X M N0 S0 Nf Sf) (hat : q_at M pc = some (.iaload, n, g, pl)) (h : q_ald X M (pc + n) L S w 9 = some (.inr (.inl σ'))) (k : q_G p l e R s m args below meth c Q D cI cZ cD base T N0 S0 σ') : q_G p l e R s m args below meth c Q D cI cZ cD base T N0 S0 (M, pc, L, S, w) := by
  obtain ⟨hx, hb, hml, hown, hts, hN, hin, hK, hE, hsz, hRf, hRl, hRc, hRs⟩ := C
  obtain ⟨hd, hn, hw, hxc⟩ := q_cert hat
  obtain rfl : n = 1 := by simpa [q_ln] using hn
  unfold q_ald at h
  split at h
  · rename_i x a S2
    split at h
    · rename_i k0 n0 hn0
      split at h
      · rename_i hk
        obtain ⟨rfl, hi⟩ := hk
        cases h
        intro H locs cells slots ls hL hP hS hc hs
        exact va_iald (D := D) (f := w.2.1 a) hx hb hK hP a 0 (by rw [q_ws_at (q_lt_of hn0), q_cell_I hn0]) rfl (q_inb_in hi) hd (k H locs cells slots ls hL hP hS hc hs)
      · cases h
    · cases h
  · rename_i x u S2
    split at h
    · rename_i hk
      cases h
      intro H locs cells slots ls hL hP hS hc hs
      exact va_ti hx hb (q_xt_T hE u) hS (q_inb_in hk.2) rfl hd (k H locs cells slots ls hL hP hS hc hs)
    · cases h
  · cases h
theorem q_t_baload (C : q_Cx p R s m args meth c D cI cZ cD base T X M N0 S0 Nf Sf) (hat : q_at M pc = some (.baload, n, g, pl)) (h : q_ald X M (pc + n) L S w 10 = some (.inr (.inl σ'))) (k : q_G p l e R s m args below meth c Q D cI cZ cD base T N0 S0 σ') : q_G p l e R s m args below meth c Q D cI cZ cD base T N0 S0 (M, pc, L, S, w) := by
  obtain ⟨hx, hb, hml, hown, hts, hN, hin, hK, hE, hsz, hRf, hRl, hRc, hRs⟩ := C
  obtain ⟨hd, hn, hw, hxc⟩ := q_cert hat
  obtain rfl : n = 1 := by simpa [q_ln] using hn
  unfold q_ald at h
  split at h
  · rename_i x a S2
    split at h
    · rename_i k0 n0 hn0
      split at h
      · rename_i hk
        obtain ⟨rfl, hi⟩ := hk
        cases h
        intro H locs cells slots ls hL hP hS hc hs
        exact va_zald (D := D) (f := w.2.1 a) hx hb hK hP a 1 (by rw [q_ws_at (q_lt_of hn0), q_cell_Z hn0]) rfl (q_inb_in hi) hd (k H locs cells slots ls hL hP hS hc hs)
      · cases h
    · cases h
  · rename_i x u S2
    split at h
    · rename_i hk
      exact absurd hk.1 (by decide)
    · cases h
  · cases h
theorem q_t_aaload (C : q_Cx p R s m args meth c D cI cZ cD base T X M N0 S0 Nf Sf) (hat : q_at M pc = some (.aaload, n, g, pl)) (h : q_ald2 M (pc + n) L S w = some (.inr (.inl σ'))) (k : q_G p l e R s m args below meth c Q D cI cZ cD base T N0 S0 σ') : q_G p l e R s m args below meth c Q D cI cZ cD base T N0 S0 (M, pc, L, S, w) := by
  obtain ⟨hx, hb, hml, hown, hts, hN, hin, hK, hE, hsz, hRf, hRl, hRc, hRs⟩ := C
  obtain ⟨hd, hn, hw, hxc⟩ := q_cert hat
  obtain rfl : n = 1 := by simpa [q_ln] using hn
  unfold q_ald2 at h
  split at h
  · rename_i x a S2
    split at h
    · rename_i k0 n0 hn0
      split at h
      · rename_i hk
        obtain ⟨rfl, hi⟩ := hk
        split at h
        · rename_i r hr
          cases h
          intro H locs cells slots ls hL hP hS hc hs
          refine va_aldq (D := D) hx hb hK hP a 2 (by rw [q_ws_at (q_lt_of hn0), q_cell_D hn0]) rfl (q_inb_in hi) hd ?_
          have hv : va_rf ((w.2.2.1 a x.toNatClampNeg).map (fun r => base + r)) = .ref (base + r) := by rw [hr]; rfl
          rw [hv]
          exact (k H locs cells slots ls hL hP hS hc hs)
        · cases h
      · cases h
    · cases h
  · cases h
theorem q_t_iastore (C : q_Cx p R s m args meth c D cI cZ cD base T X M N0 S0 Nf Sf) (hat : q_at M pc = some (.iastore, n, g, pl)) (h : q_ast M (pc + n) L S w 9 = some (.inr (.inl σ'))) (k : q_G p l e R s m args below meth c Q D cI cZ cD base T N0 S0 σ') : q_G p l e R s m args below meth c Q D cI cZ cD base T N0 S0 (M, pc, L, S, w) := by
  obtain ⟨hx, hb, hml, hown, hts, hN, hin, hK, hE, hsz, hRf, hRl, hRc, hRs⟩ := C
  obtain ⟨hd, hn, hw, hxc⟩ := q_cert hat
  obtain rfl : n = 1 := by simpa [q_ln] using hn
  unfold q_ast at h
  split at h
  · rename_i v x a S2
    split at h
    · rename_i k0 n0 hn0
      split at h
      · rename_i hk
        obtain ⟨rfl, hi, hv⟩ := hk
        cases h
        intro H locs cells slots ls hL hP hS hc hs
        have hnar : v = v := by rfl
        refine va_iast (D := D) (f := w.2.1 a) (x := v) hx hb hK hP q_ws_D hS a 0 (by rw [q_ws_at (q_lt_of hn0), q_cell_I hn0]) rfl (q_inb_in hi) hd (fun H1 locs1 hP1 hD1 hS1 => k H1 locs1 cells slots ls hL ?_ hS1 hc hs)
        have h1 := q_ws_upd (base := base) (cI := cI) (cZ := cZ) (cD := cD) (w := w) (w' := (w.1, q_up w.2.1 a x.toNatClampNeg v, w.2.2.1, w.2.2.2)) (a := a) rfl (fun b hb2 => ⟨va_up_ne _ _ hb2, rfl, rfl⟩)
        have hc2 := q_cell_I (base := base) (cI := cI) (cZ := cZ) (cD := cD) (w := (w.1, q_up w.2.1 a x.toNatClampNeg v, w.2.2.1, w.2.2.2)) hn0
        rw [hc2] at h1
        have hrow : (q_up w.2.1 a x.toNatClampNeg v) a = upd (w.2.1 a) x.toNatClampNeg v := va_up_self _ _ _
        dsimp only at h1
        rw [hrow] at h1
        rw [← h1]
        rw [hnar] at hP1
        exact hP1
      · cases h
    · cases h
  · cases h
theorem q_t_bastore (C : q_Cx p R s m args meth c D cI cZ cD base T X M N0 S0 Nf Sf) (hat : q_at M pc = some (.bastore, n, g, pl)) (h : q_ast M (pc + n) L S w 10 = some (.inr (.inl σ'))) (k : q_G p l e R s m args below meth c Q D cI cZ cD base T N0 S0 σ') : q_G p l e R s m args below meth c Q D cI cZ cD base T N0 S0 (M, pc, L, S, w) := by
  obtain ⟨hx, hb, hml, hown, hts, hN, hin, hK, hE, hsz, hRf, hRl, hRc, hRs⟩ := C
  obtain ⟨hd, hn, hw, hxc⟩ := q_cert hat
  obtain rfl : n = 1 := by simpa [q_ln] using hn
  unfold q_ast at h
  split at h
  · rename_i v x a S2
    split at h
    · rename_i k0 n0 hn0
      split at h
      · rename_i hk
        obtain ⟨rfl, hi, hv⟩ := hk
        cases h
        intro H locs cells slots ls hL hP hS hc hs
        have hnar : (vp_nar .boolean v) = v := by (rcases hv with hv | rfl | rfl) <;> first | rfl | exact absurd hv (by decide)
        refine va_zast (D := D) (f := w.2.1 a) (x := v) hx hb hK hP q_ws_D hS a 1 (by rw [q_ws_at (q_lt_of hn0), q_cell_Z hn0]) rfl (q_inb_in hi) hd (fun H1 locs1 hP1 hD1 hS1 => k H1 locs1 cells slots ls hL ?_ hS1 hc hs)
        have h1 := q_ws_upd (base := base) (cI := cI) (cZ := cZ) (cD := cD) (w := w) (w' := (w.1, q_up w.2.1 a x.toNatClampNeg v, w.2.2.1, w.2.2.2)) (a := a) rfl (fun b hb2 => ⟨va_up_ne _ _ hb2, rfl, rfl⟩)
        have hc2 := q_cell_Z (base := base) (cI := cI) (cZ := cZ) (cD := cD) (w := (w.1, q_up w.2.1 a x.toNatClampNeg v, w.2.2.1, w.2.2.2)) hn0
        rw [hc2] at h1
        have hrow : (q_up w.2.1 a x.toNatClampNeg v) a = upd (w.2.1 a) x.toNatClampNeg v := va_up_self _ _ _
        dsimp only at h1
        rw [hrow] at h1
        rw [← h1]
        rw [hnar] at hP1
        exact hP1
      · cases h
    · cases h
  · cases h
theorem q_t_aastore (C : q_Cx p R s m args meth c D cI cZ cD base T X M N0 S0 Nf Sf) (hat : q_at M pc = some (.aastore, n, g, pl)) (h : q_ast2 M (pc + n) L S w = some (.inr (.inl σ'))) (k : q_G p l e R s m args below meth c Q D cI cZ cD base T N0 S0 σ') : q_G p l e R s m args below meth c Q D cI cZ cD base T N0 S0 (M, pc, L, S, w) := by
  obtain ⟨hx, hb, hml, hown, hts, hN, hin, hK, hE, hsz, hRf, hRl, hRc, hRs⟩ := C
  obtain ⟨hd, hn, hw, hxc⟩ := q_cert hat
  obtain rfl : n = 1 := by simpa [q_ln] using hn
  unfold q_ast2 at h
  split at h
  · rename_i v x a S2
    split at h
    · rename_i k0 n0 hn0
      split at h
      · rename_i hk
        obtain ⟨rfl, hi, hv⟩ := hk
        obtain ⟨n1, hn1⟩ := q_fst_of hv
        cases h
        intro H locs cells slots ls hL hP hS hc hs
        refine va_astq (D := D) hx hb hK hP q_ws_D hS a 2 v 0 (by rw [q_ws_at (q_lt_of hn0), q_cell_D hn0]) (r := (q_cn 0, q_T 0, (q_ft 0).length)) rfl (by rw [q_ws_at (q_lt_of hn1), q_cell_obj hn1 (by decide)]) (q_vw (by decide)) (q_inb_in hi) hd (fun H1 locs1 hP1 hD1 hS1 => k H1 locs1 cells slots ls hL ?_ hS1 hc hs)
        have h1 := q_ws_upd (base := base) (cI := cI) (cZ := cZ) (cD := cD) (w := w) (w' := (w.1, w.2.1, q_upP w.2.2.1 a x.toNatClampNeg (some v), w.2.2.2)) (a := a) rfl (fun b hb2 => ⟨rfl, va_up_ne _ _ hb2, rfl⟩)
        have hc2 := q_cell_D (base := base) (cI := cI) (cZ := cZ) (cD := cD) (w := (w.1, w.2.1, q_upP w.2.2.1 a x.toNatClampNeg (some v), w.2.2.2)) hn0
        have hrow : (fun i => ((q_upP w.2.2.1 a x.toNatClampNeg (some v)) a i).map (fun r => base + r)) = va_up (fun i => (w.2.2.1 a i).map (fun r => base + r)) x.toNatClampNeg (some (base + v)) := by
          funext i
          by_cases hix : i = x.toNatClampNeg
          · subst hix; simp [q_upP, va_up]
          · simp [q_upP, va_up, hix]
        dsimp only at hc2
        rw [hrow] at hc2
        rw [hc2] at h1
        rw [← h1]
        exact hP1
      · cases h
    · cases h
  · cases h
theorem q_t_arraylength (C : q_Cx p R s m args meth c D cI cZ cD base T X M N0 S0 Nf Sf) (hat : q_at M pc = some (.arraylength, n, g, pl)) (h : q_alen X M (pc + n) L S w = some (.inr (.inl σ'))) (k : q_G p l e R s m args below meth c Q D cI cZ cD base T N0 S0 σ') : q_G p l e R s m args below meth c Q D cI cZ cD base T N0 S0 (M, pc, L, S, w) := by
  obtain ⟨hx, hb, hml, hown, hts, hN, hin, hK, hE, hsz, hRf, hRl, hRc, hRs⟩ := C
  obtain ⟨hd, hn, hw, hxc⟩ := q_cert hat
  obtain rfl : n = 1 := by simpa [q_ln] using hn
  unfold q_alen at h
  split at h
  · rename_i u S2
    cases h
    intro H locs cells slots ls hL hP hS hc hs
    exact va_tlen hx hb (q_xt_T hE u) hS rfl hd (k H locs cells slots ls hL hP hS hc hs)
  · cases h
theorem q_t_mmax (C : q_Cx p R s m args meth c D cI cZ cD base T X M N0 S0 Nf Sf) {x : Nat} (hg : g = 149) (hat : q_at M pc = some (.invokestatic x, n, g, pl)) (h : q_mm M (pc + n) L S w (fun x y => if x < y then y else x) = some (.inr (.inl σ'))) (hcb : w.1.length ≤ Nf ∧ q_sl w.1 ≤ Sf) (k : q_G p l e R s m args below meth c Q D cI cZ cD base T N0 S0 σ') : q_G p l e R s m args below meth c Q D cI cZ cD base T N0 S0 (M, pc, L, S, w) := by
  obtain ⟨hx, hb, hml, hown, hts, hN, hin, hK, hE, hsz, hRf, hRl, hRc, hRs⟩ := C
  obtain ⟨hd, hn, hw, hxc⟩ := q_cert hat
  obtain rfl : n = 3 := by simpa [q_ln] using hn
  subst hg
  obtain ⟨h1, h2⟩ : 1 ≤ q_fr M ∧ 21 ≤ q_lo M := by simpa [q_xc] using hxc
  have hwd : ∀ w0 ∈ ([.methodLink (q_own M) x Lib.Math.max.name, .static Lib.Math.max.name, .initialized "java/lang/Math", .code Lib.Math.max.name Lib.Math.max.code 2 (some .int)] : List Jvm.Cond), w0 ∈ lw_tbl := fun w0 h0 => hw w0 h0
  unfold q_mm at h
  split at h
  · rename_i y v S2
    split at h
    · rename_i hlen
      cases h
      intro H locs cells slots ls hL hP hS hc hs
      have hc' : cells + N0 = w.1.length := hc
      have hs' : slots + S0 = q_sl w.1 := hs
      have hcat : ((S2.map (q_rl base T)).map fun v => v.category).sum ≤ 8 := q_cat8 hlen
      exact va_mmax hx hb (by rw [hml]; exact hL.2.1.symm) hown (hts _ (q_in_g (hwd _ (by simp)) rfl)) (hts _ (q_in_g (hwd _ (by simp)) rfl)) (hts _ (q_in_g (hwd _ (by simp)) rfl)) (hts _ (q_in_g (hwd _ (by simp)) rfl)) (by rw [hRf]; exact h1) (by rw [hRl]; omega) (by omega) (by omega) hd (k H locs cells slots ls hL hP hS hc hs)
    · cases h
  · cases h
theorem q_t_mmin (C : q_Cx p R s m args meth c D cI cZ cD base T X M N0 S0 Nf Sf) {x : Nat} (hg : g = 150) (hat : q_at M pc = some (.invokestatic x, n, g, pl)) (h : q_mm M (pc + n) L S w (fun x y => if y < x then y else x) = some (.inr (.inl σ'))) (hcb : w.1.length ≤ Nf ∧ q_sl w.1 ≤ Sf) (k : q_G p l e R s m args below meth c Q D cI cZ cD base T N0 S0 σ') : q_G p l e R s m args below meth c Q D cI cZ cD base T N0 S0 (M, pc, L, S, w) := by
  obtain ⟨hx, hb, hml, hown, hts, hN, hin, hK, hE, hsz, hRf, hRl, hRc, hRs⟩ := C
  obtain ⟨hd, hn, hw, hxc⟩ := q_cert hat
  obtain rfl : n = 3 := by simpa [q_ln] using hn
  subst hg
  obtain ⟨h1, h2⟩ : 1 ≤ q_fr M ∧ 21 ≤ q_lo M := by simpa [q_xc] using hxc
  have hwd : ∀ w0 ∈ ([.methodLink (q_own M) x Lib.Math.min.name, .static Lib.Math.min.name, .initialized "java/lang/Math", .code Lib.Math.min.name Lib.Math.min.code 2 (some .int)] : List Jvm.Cond), w0 ∈ lw_tbl := fun w0 h0 => hw w0 h0
  unfold q_mm at h
  split at h
  · rename_i y v S2
    split at h
    · rename_i hlen
      cases h
      intro H locs cells slots ls hL hP hS hc hs
      have hc' : cells + N0 = w.1.length := hc
      have hs' : slots + S0 = q_sl w.1 := hs
      have hcat : ((S2.map (q_rl base T)).map fun v => v.category).sum ≤ 8 := q_cat8 hlen
      exact va_mmin hx hb (by rw [hml]; exact hL.2.1.symm) hown (hts _ (q_in_g (hwd _ (by simp)) rfl)) (hts _ (q_in_g (hwd _ (by simp)) rfl)) (hts _ (q_in_g (hwd _ (by simp)) rfl)) (hts _ (q_in_g (hwd _ (by simp)) rfl)) (by rw [hRf]; exact h1) (by rw [hRl]; omega) (by omega) (by omega) hd (k H locs cells slots ls hL hP hS hc hs)
    · cases h
  · cases h
theorem q_t_tableswitch (C : q_Cx p R s m args meth c D cI cZ cD base T X M N0 S0 Nf Sf) {d lo hi : Int} {os : Array Int} (hat : q_at M pc = some (.tableswitch d lo hi os, n, g, pl)) (h : q_sw M L S w lo hi pl g = some (.inr (.inl σ'))) (k : q_G p l e R s m args below meth c Q D cI cZ cD base T N0 S0 σ') : q_G p l e R s m args below meth c Q D cI cZ cD base T N0 S0 (M, pc, L, S, w) := by
  obtain ⟨hx, hb, hml, hown, hts, hN, hin, hK, hE, hsz, hRf, hRl, hRc, hRs⟩ := C
  obtain ⟨hd, hn, hw, hxc⟩ := q_cert hat
  obtain ⟨ht, hts2⟩ : (pc : Int) + d = (g : Int) ∧ pl.map Int.ofNat = os.toList.map (fun o => (pc : Int) + o) := by simpa [q_xc] using hxc
  unfold q_sw at h
  split at h
  · rename_i x S2
    split at h
    · rename_i hout
      cases h
      intro H locs cells slots ls hL hP hS hc hs
      exact lv_tableOut hx hb hd hout ht (k H locs cells slots ls hL hP hS hc hs)
    · rename_i hout
      split at h
      · rename_i t0 ht0
        cases h
        intro H locs cells slots ls hL hP hS hc hs
        have h1 : (pl.map Int.ofNat)[(x.toInt - lo).toNat]? = some (t0 : Int) := by rw [List.getElem?_map, ht0]; rfl
        rw [hts2, List.getElem?_map] at h1
        cases ho : os.toList[(x.toInt - lo).toNat]? with
        | none => rw [ho] at h1; cases h1
        | some off =>
          rw [ho] at h1
          exact lv_tableIn hx hb hd (fun z => hout (Or.inl z)) (fun z => hout (Or.inr z)) (off := off) (by rw [← Array.getElem?_toList]; exact ho) (Option.some.inj h1) (k H locs cells slots ls hL hP hS hc hs)
      · cases h
  · cases h
theorem q_lsw_ok {pc g d : Int} {x : Int32} (hg : pc + d = g) : ∀ (ps : List (Int × Int)) (ts : List Nat) (g0 : Nat), g = (g0 : Int) → ts.map Int.ofNat = ps.map (fun o => pc + o.2) → pc + Op.lookupswitch.offset ps d x.toInt = ((q_lsw ps ts g0 x : Nat) : Int)
  | [], ts, g0, h0, h => by
    unfold q_lsw
    rw [← h0, ← hg]
    rfl
  | (k, o) :: ps, [], g0, h0, h => by cases h
  | (k, o) :: ps, t :: ts, g0, h0, h => by
    rw [List.map_cons, List.map_cons] at h
    injection h with h1 h2
    rw [Op.lookupswitch.offset_cons]
    unfold q_lsw
    by_cases hk : x.toInt = k
    · rw [if_pos hk]
      first | rw [if_pos hk] | rw [if_pos hk.symm]
      exact h1.symm
    · rw [if_neg hk]
      first | rw [if_neg hk] | rw [if_neg (Ne.symm hk)]
      exact q_lsw_ok hg ps ts g0 h0 h2
theorem q_t_lookupswitch (C : q_Cx p R s m args meth c D cI cZ cD base T X M N0 S0 Nf Sf) {d : Int} {ps : Array (Int × Int)} (hat : q_at M pc = some (.lookupswitch d ps, n, g, pl)) (h : (match S with | .int x :: S => q_go M (q_lsw ps.toList pl g x) L S w | _ => none) = some (.inr (.inl σ'))) (k : q_G p l e R s m args below meth c Q D cI cZ cD base T N0 S0 σ') : q_G p l e R s m args below meth c Q D cI cZ cD base T N0 S0 (M, pc, L, S, w) := by
  obtain ⟨hx, hb, hml, hown, hts, hN, hin, hK, hE, hsz, hRf, hRl, hRc, hRs⟩ := C
  obtain ⟨hd, hn, hw, hxc⟩ := q_cert hat
  unfold q_xc at hxc
  simp only [Bool.and_eq_true, decide_eq_true_eq] at hxc
  obtain ⟨⟨ht, hts2⟩, hp⟩ := hxc
  split at h
  · rename_i x S2
    cases h
    intro H locs cells slots ls hL hP hS hc hs
    exact lv_lookup hx hb hd hp rfl (q_lsw_ok ht ps.toList pl g rfl hts2) (k H locs cells slots ls hL hP hS hc hs)
  · cases h
end QT
