theorem q_take_rev {S : List Value} {n : Nat} {a : Nat} (hn : n ≤ S.length) (h0 : 0 < n) (ha : S[n - 1]? = some (.ref a)) : ∃ As : List Value, (S.take n).reverse = .ref a :: As ∧ As.length + 1 = n := by
  have hl : (S.take n).reverse.length = n := by simp; omega
  cases hr : (S.take n).reverse with
  | nil => rw [hr] at hl; simp at hl; omega
  | cons v As =>
    refine ⟨As, ?_, by rw [hr] at hl; simpa using hl⟩
    have h1 : (S.take n).reverse[0]? = some v := by rw [hr]; rfl
    rw [List.getElem?_reverse (by simp; omega)] at h1
    have h2 : (S.take n).length - 1 - 0 = n - 1 := by simp; omega
    rw [h2, List.getElem?_take_of_lt (by omega), ha] at h1
    rw [← Option.some.inj h1]
theorem q_len_ge {D : va_G} {base : Nat} {cI cZ cD : ClassId} {w : q_M} {H : Heap} (hP : va_P D vwCl (q_ws base cI cZ cD w) H) (hb : base ≤ H.size) : base + w.1.length ≤ H.size := by
  by_cases h : w.1.length = 0
  · omega
  · have h1 := (hP _ _ (q_ws_at (base := base) (cI := cI) (cZ := cZ) (cD := cD) (w := w) (a := w.1.length - 1) (by omega))).lt
    have h2 : base + (w.1.length - 1) < H.size := h1
    omega
section QV
variable {p : Program} {l : Launch} {e : Env} {R : Room} {s : State} {m : MethodId} {args : Array Value} {below : List Frame} {meth : Method} {c : Code} {Q : State → Prop}
variable {D : va_G} {cI cZ cD : ClassId} {base : Nat} {T : Nat → Nat} {X : Nat × (Nat → Int32)} {M N0 S0 Nf Sf : Nat}
variable {pc n g : Nat} {pl : List Nat} {L S : List Value} {w : q_M} {σ' : q_S}
/-- behind a call -/
theorem q_behind {H : Heap} {locs : List Loc} {cells slots mc ms rt : Nat} {ls : Array Slot} {st0 rest : List Value} {a : Array Value} {r : Option Value} {w1 : q_M} (hrun : va_Run p l e R s m args below meth c H locs cells slots mc ms (F0 m pc ls st0) rest (q_Qc D cI cZ cD base rt r w1 a) (q_A base)) (hS : va_S (q_A base) s.heap H locs)
    (kk : ∀ (H1 : Heap) (locs1 : List Loc), va_P D vwCl (q_ws base cI cZ cD w1) H1 → va_S (q_A base) s.heap H1 locs1 → W p l e R s m args below meth c H1 locs1 (cells + mc) (slots + ms) Q (F0 m (pc + 3) ls ((r.toList.map (q_rl base T)) ++ rest))) : W p l e R s m args below meth c H locs cells slots Q (F0 m pc ls st0) := by
  by_cases h0 : rt = 0
  · rw [show q_Qc D cI cZ cD base rt r w1 = va_Qv (fun (_ : Unit) => r = none) (fun _ t => va_P D vwCl (q_ws base cI cZ cD w1) t.heap) (q_A base) from by unfold q_Qc; rw [if_pos h0]] at hrun
    refine va_callv hrun hS (fun _ _ h => h) (fun _ h => h) (fun u t H1 locs1 ht hvm hw hB hz1 hk1 hS1 => ?_)
    rw [ht] at hB
    have h1 := kk H1 locs1 hB hS1
    rw [hw] at h1
    exact h1
  · by_cases h3 : rt = 3
    · rw [show q_Qc D cI cZ cD base rt r w1 = va_Ql (fun x (_ : Unit) => r = some (.long x)) (fun _ t => va_P D vwCl (q_ws base cI cZ cD w1) t.heap) (q_A base) from by unfold q_Qc; rw [if_neg h0, if_pos h3]] at hrun
      refine va_calll hrun hS (fun _ _ h => h) (fun _ h => h) (fun x u t H1 locs1 ht hvm hw hB hz1 hk1 hS1 => ?_)
      rw [ht] at hB
      have h1 := kk H1 locs1 hB hS1
      rw [hw] at h1
      exact h1
    · rw [show q_Qc D cI cZ cD base rt r w1 = va_Qi (fun x (_ : Unit) => r = some (.int x)) (fun _ t => va_P D vwCl (q_ws base cI cZ cD w1) t.heap) (q_A base) from by unfold q_Qc; rw [if_neg h0, if_neg h3]] at hrun
      refine va_calli hrun hS (fun _ _ h => h) (fun _ h => h) (fun x u t H1 locs1 ht hvm hw hB hz1 hk1 hS1 => ?_)
      rw [ht] at hB
      have h1 := kk H1 locs1 hB hS1
      rw [hw] at h1
      exact h1
/-- a callee's start, out of the caller's state -/
theorem q_pre (C : q_Cx p R s m args meth c D cI cZ cD base T X M N0 S0 Nf Sf) {H : Heap} {locs : List Loc} {As : List Value} (hP : va_P D vwCl (q_ws base cI cZ cD w) H) (hS : va_S (q_A base) s.heap H locs) (hsz : H.size = base + w.1.length) : ∀ U : State, U.heap = H → s.WarmedH U.vm → q_Pc D cI cZ cD base T X As w (As.map (q_rl base T)).toArray U := by
  intro U hU hW
  obtain ⟨hx, hb, hml, hown, hts, hN, hin, hK, hE, hsz0, hRf, hRl, hRc, hRs⟩ := C
  exact ⟨rfl, by rw [hU]; exact hsz, by rw [hU]; exact hP, va_K.moved hW.alike hK, hN.warm hW, q_Ext.moved hW.alike (fun a h1 h2 => by rw [hU]; exact hS.2.1 a h1 h2) hE⟩
theorem q_t_invokestatic (C : q_Cx p R s m args meth c D cI cZ cD base T X M N0 S0 Nf Sf) {x : Nat} (hat : q_at M pc = some (.invokestatic x, n, g, pl)) (hg : ¬ (g = 149 ∨ g = 150)) {r : Option Value} {w1 : q_M} (hn4 : q_na g ≤ S.length ∧ (S.drop (q_na g)).length ≤ 4) (hM : q_Mt l D cI cZ cD base T X g (S.take (q_na g)).reverse w r w1) (hgrow : w.1 <+: w1.1) (hf : w1.1.length ≤ Nf ∧ q_sl w1.1 ≤ Sf) (k : q_G p l e R s m args below meth c Q D cI cZ cD base T N0 S0 (M, pc + n, L, r.toList ++ S.drop (q_na g), w1)) : q_G p l e R s m args below meth c Q D cI cZ cD base T N0 S0 (M, pc, L, S, w) := by
  obtain ⟨hx, hb, hml, hown, hts, hN, hin, hK, hE, hsz, hRf, hRl, hRc, hRs⟩ := id C
  obtain ⟨hd, hn, hw, hxc⟩ := q_cert hat
  obtain rfl : n = 3 := by simpa [q_ln] using hn
  obtain ⟨hcl, hna⟩ : q_cl M g = true ∧ q_na g = q_np g := by simpa [q_xc, hg] using hxc
  obtain ⟨⟨hy, hfr⟩, hlo⟩ : (g < 149 ∧ q_fr g + 1 ≤ q_fr M) ∧ 8 + (q_ml g + 11) + q_lo g ≤ q_lo M := by simpa [q_cl] using hcl
  have hroom : q_fr g + 1 ≤ q_fr M ∧ 8 + (q_ml g + 11) + q_lo g ≤ q_lo M := ⟨hfr, hlo⟩
  obtain ⟨hfd, hpn, hcls⟩ := q_facts hy
  have hwd : ∀ w0 ∈ ([.methodLink (q_own M) x (q_y g), .static (q_y g), .initialized (q_own g)] : List Jvm.Cond), w0 ∈ lw_tbl := fun w0 h0 => hw w0 (by
    have h149 : ¬ g = 149 := fun z => hg (Or.inl z)
    have h150 : ¬ g = 150 := fun z => hg (Or.inr z)
    simpa [q_wd, q_kd, q_wk, h149, h150, q_own] using h0)
  obtain ⟨hf1, hf2⟩ := hf
  have hg1 := q_sl_le hgrow
  intro H locs cells slots ls hL hP hS hc hs
  have hc' : cells + N0 = w.1.length := hc
  have hs' : slots + S0 = q_sl w.1 := hs
  refine q_size (fun hsz1 => ?_)
  have hHs : H.size = base + w.1.length := Nat.le_antisymm (by omega) (q_len_ge hP (by have := hS.1; omega))
  have hR : q_fr g + 1 ≤ R.frames ∧ 8 + (q_ml g + 11) + q_lo g ≤ R.locals := by rw [hRf, hRl]; exact hroom
  have hmc : cells + (w1.1.length - w.1.length) ≤ R.cells ∧ slots + (q_sl w1.1 - q_sl w.1) ≤ R.slots := by omega
  have hst : S.map (q_rl base T) = (((S.take (q_na g)).reverse).map (q_rl base T)).reverse ++ (S.drop (q_na g)).map (q_rl base T) := by
    rw [← List.map_reverse, List.reverse_reverse, ← List.map_append, List.take_append_drop]
  refine q_behind (T := T) (va_runS (As := ((S.take (q_na g)).reverse).map (q_rl base T)) (rest := (S.drop (q_na g)).map (q_rl base T)) ⟨hx, hb, hml, hown, hts⟩ hM (va_cwS (q_np g) hts (q_goodw (fun w0 h0 => ?_)) (bytes := q_b g) (maxL := q_ml g) (ret := q_ret g) rfl rfl rfl hfd hR) ⟨q_Pc_blind, q_pre C hP hS hHs⟩ rfl (by simp; omega) hL.2.1 hst (lv_room (q_cat8 hn4.2)) hd hmc) hS (fun H1 locs1 hP1 hS1 => ?_)
  · rw [va_wsS] at h0
    rcases List.mem_append.mp h0 with h0 | h0
    · rw [hcls] at h0
      rcases List.mem_cons.mp h0 with rfl | h0
      · exact q_in_g (hwd _ (by simp)) rfl
      · rcases List.mem_cons.mp h0 with rfl | h0
        · exact q_in_g (hwd _ (by simp)) rfl
        · rcases List.mem_cons.mp h0 with rfl | h0
          · exact q_in_g (hwd _ (by simp)) rfl
          · cases h0
    · exact (q_Wm_good hy _ h0).1
  have h9 := k H1 locs1 (cells + (w1.1.length - w.1.length)) (slots + (q_sl w1.1 - q_sl w.1)) ls hL hP1 hS1 (by show _ = w1.1.length; omega) (by show _ = q_sl w1.1; omega)
  have h10 : (r.toList ++ S.drop (q_na g)).map (q_rl base T) = (r.toList.map (q_rl base T)) ++ (S.drop (q_na g)).map (q_rl base T) := List.map_append
  dsimp only at h9
  rw [h10] at h9
  exact h9
theorem q_t_invokevirtual (C : q_Cx p R s m args meth c D cI cZ cD base T X M N0 S0 Nf Sf) {x a : Nat} (hat : q_at M pc = some (.invokevirtual x, n, g, pl)) (ha : S[q_na g - 1]? = some (.ref a)) (hcl0 : (w.1[a]?).map Prod.fst = some (q_ci g)) (hci : q_ci g < 9) {r : Option Value} {w1 : q_M} (hn4 : q_na g ≤ S.length ∧ (S.drop (q_na g)).length ≤ 4) (hM : q_Mt l D cI cZ cD base T X g (S.take (q_na g)).reverse w r w1) (hgrow : w.1 <+: w1.1) (hf : w1.1.length ≤ Nf ∧ q_sl w1.1 ≤ Sf) (k : q_G p l e R s m args below meth c Q D cI cZ cD base T N0 S0 (M, pc + n, L, r.toList ++ S.drop (q_na g), w1)) : q_G p l e R s m args below meth c Q D cI cZ cD base T N0 S0 (M, pc, L, S, w) := by
  obtain ⟨hx, hb, hml, hown, hts, hN, hin, hK, hE, hsz, hRf, hRl, hRc, hRs⟩ := id C
  obtain ⟨hd, hn, hw, hxc⟩ := q_cert hat
  obtain rfl : n = 3 := by simpa [q_ln] using hn
  obtain ⟨hcl, hna⟩ : q_cl M g = true ∧ q_na g = q_np g + 1 := by simpa [q_xc] using hxc
  obtain ⟨⟨hy, hfr⟩, hlo⟩ : (g < 149 ∧ q_fr g + 1 ≤ q_fr M) ∧ 8 + (q_ml g + 11) + q_lo g ≤ q_lo M := by simpa [q_cl] using hcl
  have hroom : q_fr g + 1 ≤ q_fr M ∧ 8 + (q_ml g + 11) + q_lo g ≤ q_lo M := ⟨hfr, hlo⟩
  obtain ⟨hfd, hpn, hcls⟩ := q_facts hy
  have hwd : ∀ w0 ∈ ([.methodLink (q_own M) x (q_y g), .instanceMethod (q_y g), .selects (q_own g) (q_y g) (q_y g), .initialized (q_own g)] : List Jvm.Cond), w0 ∈ lw_tbl := fun w0 h0 => hw w0 h0
  obtain ⟨As, hAs, hAl⟩ := q_take_rev hn4.1 (by omega) ha
  obtain ⟨n0, hn0⟩ := q_fst_of hcl0
  obtain ⟨hf1, hf2⟩ := hf
  have hg1 := q_sl_le hgrow
  intro H locs cells slots ls hL hP hS hc hs
  have hc' : cells + N0 = w.1.length := hc
  have hs' : slots + S0 = q_sl w.1 := hs
  refine q_size (fun hsz1 => ?_)
  have hHs : H.size = base + w.1.length := Nat.le_antisymm (by omega) (q_len_ge hP (by have := hS.1; omega))
  have hR : q_fr g + 1 ≤ R.frames ∧ 8 + (q_ml g + 11) + q_lo g ≤ R.locals := by rw [hRf, hRl]; exact hroom
  have hmc : cells + (w1.1.length - w.1.length) ≤ R.cells ∧ slots + (q_sl w1.1 - q_sl w.1) ≤ R.slots := by omega
  have hst : S.map (q_rl base T) = (As.map (q_rl base T)).reverse ++ .ref (base + a) :: (S.drop (q_na g)).map (q_rl base T) := by
    have h1 : S.take (q_na g) = As.reverse ++ [.ref a] := by rw [← List.reverse_reverse (S.take (q_na g)), hAs]; simp
    have h2 : S = (As.reverse ++ [Value.ref a]) ++ S.drop (q_na g) := by rw [← h1, List.take_append_drop]
    calc S.map (q_rl base T) = ((As.reverse ++ [Value.ref a]) ++ S.drop (q_na g)).map (q_rl base T) := by rw [← h2]
      _ = _ := by simp [q_rl]
  rw [hAs] at hM
  refine q_behind (T := T) (va_runV (C := q_own g) (b := base + a) (As := As.map (q_rl base T)) (rest := (S.drop (q_na g)).map (q_rl base T)) ⟨hx, hb, hml, hown, hts⟩ hM (cwV (q_np g) hts (q_goodw (fun w0 h0 => ?_)) (bytes := q_b g) (maxL := q_ml g) (ret := q_ret g) rfl rfl rfl ⟨hcls, hfd⟩ hR) ⟨q_Pc_blind, va_recv (ci := q_ci g) (q0 := a) hK hP (q_vw hci) (by rw [q_ws_at (q_lt_of hn0), q_cell_obj hn0 hci]), q_pre C (As := .ref a :: As) hP hS hHs⟩ rfl (by simp; omega) hL.2.1 hst (lv_room (q_cat8 hn4.2)) hd hmc) hS (fun H1 locs1 hP1 hS1 => ?_)
  · rw [wsV] at h0
    rcases List.mem_append.mp h0 with h0 | h0
    · rcases List.mem_cons.mp h0 with rfl | h0
      · exact q_in_g (hwd _ (by simp)) rfl
      · rcases List.mem_cons.mp h0 with rfl | h0
        · exact q_in_g (hwd _ (by simp)) rfl
        · rcases List.mem_cons.mp h0 with rfl | h0
          · exact q_in_g (hwd _ (by simp)) rfl
          · rcases List.mem_cons.mp h0 with rfl | h0
            · exact q_in_g (hwd _ (by simp)) rfl
            · cases h0
    · exact (q_Wm_good hy _ h0).1
  have h9 := k H1 locs1 (cells + (w1.1.length - w.1.length)) (slots + (q_sl w1.1 - q_sl w.1)) ls hL hP1 hS1 (by show _ = w1.1.length; omega) (by show _ = q_sl w1.1; omega)
  have h10 : (r.toList ++ S.drop (q_na g)).map (q_rl base T) = (r.toList.map (q_rl base T)) ++ (S.drop (q_na g)).map (q_rl base T) := List.map_append
  dsimp only at h9
  rw [h10] at h9
  exact h9
theorem q_t_invokespecial (C : q_Cx p R s m args meth c D cI cZ cD base T X M N0 S0 Nf Sf) {x a : Nat} (hat : q_at M pc = some (.invokespecial x, n, g, pl)) (hg : ¬ g = 999) (ha : S[q_na (g % 200) - 1]? = some (.ref a)) {r : Option Value} {w1 : q_M} (hn4 : q_na (g % 200) ≤ S.length ∧ (S.drop (q_na (g % 200))).length ≤ 4) (hM : q_Mt l D cI cZ cD base T X (g % 200) (S.take (q_na (g % 200))).reverse w r w1) (hgrow : w.1 <+: w1.1) (hf : w1.1.length ≤ Nf ∧ q_sl w1.1 ≤ Sf) (k : q_G p l e R s m args below meth c Q D cI cZ cD base T N0 S0 (M, pc + n, L, r.toList ++ S.drop (q_na (g % 200)), w1)) : q_G p l e R s m args below meth c Q D cI cZ cD base T N0 S0 (M, pc, L, S, w) := by
  obtain ⟨hx, hb, hml, hown, hts, hN, hin, hK, hE, hsz, hRf, hRl, hRc, hRs⟩ := id C
  obtain ⟨hd, hn, hw, hxc⟩ := q_cert hat
  obtain rfl : n = 3 := by simpa [q_ln] using hn
  obtain ⟨⟨⟨hcl, hna⟩, hini⟩, hrt⟩ : ((q_cl M (g % 200) = true ∧ q_na (g % 200) = q_np (g % 200) + 1) ∧ q_ini (g % 200) = true) ∧ q_rt (g % 200) = 0 := by simpa [q_xc, hg] using hxc
  obtain ⟨⟨hy, hfr⟩, hlo⟩ : ((g % 200) < 149 ∧ q_fr (g % 200) + 1 ≤ q_fr M) ∧ 8 + (q_ml (g % 200) + 11) + q_lo (g % 200) ≤ q_lo M := by simpa [q_cl] using hcl
  have hroom : q_fr (g % 200) + 1 ≤ q_fr M ∧ 8 + (q_ml (g % 200) + 11) + q_lo (g % 200) ≤ q_lo M := ⟨hfr, hlo⟩
  obtain ⟨hfd, hpn, hcls⟩ := q_facts hy
  have hret : q_ret (g % 200) = none := by unfold q_ret; rw [if_pos hrt]
  have hnm : (q_y (g % 200)).name = "<init>" := of_decide_eq_true hini
  obtain ⟨As, hAs, hAl⟩ := q_take_rev hn4.1 (by omega) ha
  have hWm : q_Wm (g % 200) = .code (q_y (g % 200)) (q_b (g % 200)) (q_ml (g % 200)) none :: lw_g := by unfold q_Wm; rw [hret]
  obtain ⟨hf1, hf2⟩ := hf
  have hg1 := q_sl_le hgrow
  intro H locs cells slots ls hL hP hS hc hs
  have hc' : cells + N0 = w.1.length := hc
  have hs' : slots + S0 = q_sl w.1 := hs
  refine q_size (fun hsz1 => ?_)
  have hHs : H.size = base + w.1.length := Nat.le_antisymm (by omega) (q_len_ge hP (by have := hS.1; omega))
  have hR : q_fr (g % 200) + 1 ≤ R.frames ∧ 8 + (q_ml (g % 200) + 11) + q_lo (g % 200) ≤ R.locals := by rw [hRf, hRl]; exact hroom
  have hmc : cells + (w1.1.length - w.1.length) ≤ R.cells ∧ slots + (q_sl w1.1 - q_sl w.1) ≤ R.slots := by omega
  have hst : S.map (q_rl base T) = (As.map (q_rl base T)).reverse ++ .ref (base + a) :: (S.drop (q_na (g % 200))).map (q_rl base T) := by
    have h1 : S.take (q_na (g % 200)) = As.reverse ++ [.ref a] := by rw [← List.reverse_reverse (S.take (q_na (g % 200))), hAs]; simp
    have h2 : S = (As.reverse ++ [Value.ref a]) ++ S.drop (q_na (g % 200)) := by rw [← h1, List.take_append_drop]
    calc S.map (q_rl base T) = ((As.reverse ++ [Value.ref a]) ++ S.drop (q_na (g % 200))).map (q_rl base T) := by rw [← h2]
      _ = _ := by simp [q_rl]
  rw [hAs] at hM
  have hrun : va_Run p l e R s m args below meth c H locs cells slots (w1.1.length - w.1.length) (q_sl w1.1 - q_sl w.1) (F0 m pc ls (S.map (q_rl base T))) ((S.drop (q_na (g % 200))).map (q_rl base T)) (q_Qc D cI cZ cD base (q_rt (g % 200)) r w1 (Value.ref (base + a) :: As.map (q_rl base T)).toArray) (q_A base) := by
    by_cases hnest : g < 200
    · have hwd : ∀ w0 ∈ ([.methodLink (q_own M) x (q_y (g % 200)), .instanceMethod (q_y (g % 200)), .initialized (q_own (g % 200))] : List Jvm.Cond), w0 ∈ lw_tbl := fun w0 h0 => hw w0 (by simpa [q_wd, q_kd, q_wk, hg, hnest, q_own] using h0)
      exact va_runI (b := base + a) (As := As.map (q_rl base T)) (rest := (S.drop (q_na (g % 200))).map (q_rl base T)) ⟨hx, hb, hml, hown, hts⟩ hM (cwI (q_np (g % 200)) hts (q_Wm_good hy) (bytes := q_b (g % 200)) (maxL := q_ml (g % 200)) hWm rfl rfl (by rw [hcls]; exact hts _ (q_in_g (hwd _ (by simp)) rfl)) (hts _ (q_in_g (hwd _ (by simp)) rfl)) (hts _ (q_in_g (hwd _ (by simp)) rfl)) hnm hfd hR) ⟨q_Pc_blind, q_pre C (As := .ref a :: As) hP hS hHs⟩ rfl (by simp; omega) hL.2.1 hst (lv_room (q_cat8 hn4.2)) hd hmc
    · have hwd : ∀ w0 ∈ ([.methodLinkNest (q_own M) x (q_y (g % 200)) "QuietPairs", .instanceMethod (q_y (g % 200)), .initialized (q_own (g % 200))] : List Jvm.Cond), w0 ∈ lw_tbl := fun w0 h0 => hw w0 (by simpa [q_wd, q_kd, q_wk, hg, hnest, q_own] using h0)
      exact va_runIN (b := base + a) (As := As.map (q_rl base T)) (rest := (S.drop (q_na (g % 200))).map (q_rl base T)) ⟨hx, hb, hml, hown, hts⟩ hM ⟨va_cnB (q_np (g % 200)) hts (q_Wm_good hy) (bytes := q_b (g % 200)) (maxL := q_ml (g % 200)) hWm rfl rfl (hN.2 (q_own M) x (q_y (g % 200)) "QuietPairs" (hwd _ List.mem_cons_self)) (by rw [hcls]; exact hts _ (q_in_g (hwd _ (by simp)) rfl)) hfd hR, hnm, hts _ (q_in_g (hwd _ (by simp)) rfl)⟩ ⟨q_Pc_blind, q_pre C (As := .ref a :: As) hP hS hHs⟩ rfl (by simp; omega) hL.2.1 hst (lv_room (q_cat8 hn4.2)) hd hmc
  refine q_behind (T := T) hrun hS (fun H1 locs1 hP1 hS1 => ?_)
  have h9 := k H1 locs1 (cells + (w1.1.length - w.1.length)) (slots + (q_sl w1.1 - q_sl w.1)) ls hL hP1 hS1 (by show _ = w1.1.length; omega) (by show _ = q_sl w1.1; omega)
  have h10 : (r.toList ++ S.drop (q_na (g % 200))).map (q_rl base T) = (r.toList.map (q_rl base T)) ++ (S.drop (q_na (g % 200))).map (q_rl base T) := List.map_append
  dsimp only at h9
  rw [h10] at h9
  exact h9
end QV
