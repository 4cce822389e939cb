/-! ===== the machine follows the pure machine ===== -/
theorem q_sl1 {vs : List Value} (h : ∀ v ∈ vs, v.category = 1) : (lg_sl vs).length = vs.length := by
  induction vs with
  | nil => rfl
  | cons v vs ih =>
    have h1 := h v List.mem_cons_self
    have h2 := ih (fun v hv => h v (List.mem_cons_of_mem _ hv))
    unfold lg_sl at h2 ⊢
    rw [List.flatMap_cons, if_neg (by omega), List.length_append, h2]
    simp; omega
theorem q_lvargs {vs : List Value} (h : ∀ v ∈ vs, v.category = 1) : ∀ (i k : Nat) (v : Value), vs[k]? = some v → (i + k, v) ∈ lv_args i vs := by
  induction vs with
  | nil => intro i k v hk; cases hk
  | cons u vs ih =>
    intro i k v hk
    have h1 := h u List.mem_cons_self
    cases k with
    | zero =>
      cases hk
      exact List.mem_cons_self
    | succ k =>
      rw [List.getElem?_cons_succ] at hk
      have h2 := ih (fun v hv => h v (List.mem_cons_of_mem _ hv)) (i + 1) k v hk
      unfold lv_args
      rw [if_neg (by omega), show i + (k + 1) = i + 1 + k by omega]
      exact List.mem_cons_of_mem _ h2
theorem q_entry {base : Nat} {T : Nat → Nat} {As : List Value} {M : Nat} (hl : As.length ≤ q_ml M) (hc : As.all (fun v => v.category == 1) = true) : q_Lo base T M (As ++ List.replicate (q_ml M - As.length) .null) ((lg_sl (As.map (q_rl base T)) ++ List.replicate (q_ml M - (lg_sl (As.map (q_rl base T))).length) Slot.unset).toArray) := by
  have hc1 : ∀ v ∈ As.map (q_rl base T), v.category = 1 := by
    intro v hv
    obtain ⟨u, hu, rfl⟩ := List.mem_map.mp hv
    rw [q_rl_cat]
    exact eq_of_beq (List.all_eq_true.mp hc u hu)
  have hlen : (lg_sl (As.map (q_rl base T))).length = As.length := by rw [q_sl1 hc1, List.length_map]
  have h := lv_entry (As.map (q_rl base T)) (n := q_ml M) (by omega)
  refine ⟨by simp; omega, h.1, h.2.1, fun k v hk hv => ?_, fun k v hk hv => ?_⟩
  rotate_left
  · rcases List.mem_append.mp (List.mem_of_getElem? hk) with h2 | h2
    · have := eq_of_beq (List.all_eq_true.mp hc v h2)
      omega
    · rw [(List.mem_replicate.mp h2).2] at hv
      simp [Value.category] at hv
  by_cases hkl : k < As.length
  · rw [List.getElem?_append_left hkl] at hk
    have h1 := q_lvargs hc1 0 k (q_rl base T v) (by rw [List.getElem?_map, hk]; rfl)
    rw [Nat.zero_add] at h1
    exact h.2.2 _ h1
  · rw [List.getElem?_append_right (by omega)] at hk
    have h2 := List.mem_of_getElem? hk
    exact absurd (List.mem_replicate.mp h2).2 hv
theorem q_ci9 {g : Nat} (h : g < 149) (hn : q_na g = q_np g + 1) : q_ci g < 9 := by
  have h1 : (List.range 149).all (fun g => decide (q_na g = q_np g + 1 → q_ci g < 9)) = true := by decide +kernel
  exact of_decide_eq_true (List.all_eq_true.mp h1 g (List.mem_range.mpr h)) hn
set_option maxHeartbeats 4000000 in
theorem q_met {l : Launch} {D : va_G} {cI cZ cD : ClassId} {base : Nat} {T : Nat → Nat} {X : Nat × (Nat → Int32)} {n : Nat}
    (ih : ∀ {p : Program} {e : Env} {R : Room} {s : State} {m : MethodId} {args : Array Value} {below : List Frame} {meth : Method} {c : Code} {Q : State → Prop} {N0 S0 Nf Sf : Nat} (σ : q_S) (r : Option Value) (w' : q_M), q_Cx p R s m args meth c D cI cZ cD base T X σ.1 N0 S0 Nf Sf → q_run X n σ = some (r, w') → w'.1.length ≤ Nf → q_sl w'.1 ≤ Sf → q_HR p l e R s m args below meth c Q D cI cZ cD base T σ.1 N0 S0 r w' → q_G p l e R s m args below meth c Q D cI cZ cD base T N0 S0 σ)
    {y : Nat} {As : List Value} {w : q_M} {r : Option Value} {w1 : q_M} (hy : y < 149) (hAl : As.length = q_na y) (hAm : q_na y ≤ q_ml y) (hcat : As.all (fun v => v.category == 1) = true) (hrun : q_run X n (y, 0, As ++ List.replicate (q_ml y - q_na y) .null, [], w) = some (r, w1)) : q_Mt l D cI cZ cD base T X y As w r w1 := by
  obtain ⟨hfd, hpn, hcls⟩ := q_facts hy
  have hg : w.1.length ≤ w1.1.length ∧ q_sl w.1 ≤ q_sl w1.1 := q_sl_le (q_run_grow hrun)
  refine Met.ofW (cc := q_b y) (maxL := q_ml y) (ret := q_ret y) hpn rfl ?_
  intro p e s m args below meth c s₁ B hml hv
  obtain ⟨rfl, hsz, hP, hK, hN, hE⟩ := hv
  have hx := B.exec
  have hb := B.bytes
  have hr := B.returns
  have hlocks := B.notSynchronized
  have hts := atoms_spec (ws := q_Wm y) B.pre
  have hown : s.vm.findClass (q_y y).cls = some m.cls := findClass_of_methodNamed B.named
  have hnm : meth.name = (q_y y).name := (name_of_methodNamed B.named B.method).1
  rw [lg_entry_eq]
  have hLo := q_entry (base := base) (T := T) (As := As) (M := y) (by omega) hcat
  rw [hAl] at hLo
  generalize (lg_sl (As.map (q_rl base T)) ++ List.replicate (q_ml y - (lg_sl (As.map (q_rl base T))).length) Slot.unset).toArray = ls at hLo ⊢
  have C : q_Cx p (headSpec (q_Wm y) { frames := q_fr y, cells := w1.1.length - w.1.length, slots := q_sl w1.1 - q_sl w.1, locals := q_lo y }).room s m (As.map (q_rl base T)).toArray meth c D cI cZ cD base T X y w.1.length (q_sl w.1) w1.1.length (q_sl w1.1) := by
    refine ⟨hx, hb, hml, by rw [← hcls]; exact hown, fun w0 h0 => hts w0 (List.mem_cons_of_mem _ h0), hN, fun h => by rw [hnm]; exact of_decide_eq_true h, hK, hE, hsz, rfl, rfl, ?_, ?_⟩
    · show (w1.1.length - w.1.length) + w.1.length = _
      omega
    · show (q_sl w1.1 - q_sl w.1) + q_sl w.1 = _
      omega
  refine ih (y, 0, As ++ List.replicate (q_ml y - q_na y) .null, [], w) r w1 C hrun (Nat.le_refl _) (Nat.le_refl _) ?_ s.heap [] 0 0 ls hLo hP va_S.rf (Nat.zero_add _) (Nat.zero_add _)
  intro pc i H locs cells slots ls2 hd hcase hP2 hS2 hc2 hs2
  obtain rfl : cells = w1.1.length - w.1.length := by omega
  obtain rfl : slots = q_sl w1.1 - q_sl w.1 := by omega
  have hcase : ((q_rt y = 0 ∧ i = .return_ ∧ r = none) ∨ (i = .ireturn ∧ ∃ x : Int32, r = some (.int x) ∧ (q_rt y = 1 ∨ (q_rt y = 2 ∧ (x = 0 ∨ x = 1)))) ∨ (q_rt y = 3 ∧ i = .lreturn ∧ ∃ x : Int64, r = some (.long x))) := hcase
  rcases hcase with ⟨h0, rfl, rfl⟩ | ⟨rfl, x, rfl, hrt⟩ | ⟨h3, rfl, x, rfl⟩
  · refine W.vret hx hb (by rw [hr]; unfold q_ret; rw [if_pos h0]) (fun t ht hW => ?_) (fun q hq => hS2.2.2 q hq) hd hlocks
    unfold q_Qc
    rw [if_pos h0]
    exact ⟨⟨(), rfl, rfl, by show va_P D vwCl (q_ws base cI cZ cD w1) t.heap; rw [ht]; exact hP2⟩, hS2.F ht⟩
  · rcases hrt with h1 | ⟨h2, hx01⟩
    · refine W.iret hx hb (by rw [hr]; unfold q_ret; rw [if_neg (by omega), if_pos h1]) (fun t ht hW => ?_) (fun q hq => hS2.2.2 q hq) hd hlocks
      unfold q_Qc
      rw [if_neg (show ¬ q_rt y = 0 by omega), if_neg (by omega)]
      exact ⟨⟨x, (), rfl, rfl, by show va_P D vwCl (q_ws base cI cZ cD w1) t.heap; rw [ht]; exact hP2⟩, hS2.F ht⟩
    · refine W.zret (ty := .boolean) hx hb (by rw [hr]; unfold q_ret; rw [if_neg (by omega), if_neg (by omega), if_pos h2]) (by rcases hx01 with rfl | rfl <;> rfl) (fun t ht hW => ?_) (fun q hq => hS2.2.2 q hq) hd hlocks
      unfold q_Qc
      rw [if_neg (show ¬ q_rt y = 0 by omega), if_neg (by omega)]
      exact ⟨⟨x, (), rfl, rfl, by show va_P D vwCl (q_ws base cI cZ cD w1) t.heap; rw [ht]; exact hP2⟩, hS2.F ht⟩
  · refine W.lret hx hb (by rw [hr]; unfold q_ret; rw [if_neg (by omega), if_neg (by omega), if_neg (by omega)]) (fun t ht hW => ?_) (fun q hq => hS2.2.2 q hq) hd hlocks
    unfold q_Qc
    rw [if_neg (show ¬ q_rt y = 0 by omega), if_pos h3]
    exact ⟨⟨x, (), rfl, rfl, by show va_P D vwCl (q_ws base cI cZ cD w1) t.heap; rw [ht]; exact hP2⟩, hS2.F ht⟩
set_option maxHeartbeats 4000000 in
theorem q_main (l : Launch) {D : va_G} {cI cZ cD : ClassId} {base : Nat} {T : Nat → Nat} {X : Nat × (Nat → Int32)} (n : Nat) :
    ∀ {p : Program} {e : Env} {R : Room} {s : State} {m : MethodId} {args : Array Value} {below : List Frame} {meth : Method} {c : Code} {Q : State → Prop} {N0 S0 Nf Sf : Nat} (σ : q_S) (r : Option Value) (w' : q_M), q_Cx p R s m args meth c D cI cZ cD base T X σ.1 N0 S0 Nf Sf → q_run X n σ = some (r, w') → w'.1.length ≤ Nf → q_sl w'.1 ≤ Sf → q_HR p l e R s m args below meth c Q D cI cZ cD base T σ.1 N0 S0 r w' → q_G p l e R s m args below meth c Q D cI cZ cD base T N0 S0 σ := by
  induction n with
  | zero => intro p e R s m args below meth c Q N0 S0 Nf Sf σ r w' C h; cases h
  | succ n ih =>
    intro p e R s m args below meth c Q N0 S0 Nf Sf σ r w' C h hNf hSf HR
    obtain ⟨M, pc, L, S, w⟩ := σ
    rw [q_run_s] at h
    cases hn : q_nxt X (M, pc, L, S, w) with
    | none => rw [hn] at h; cases h
    | some d =>
      rw [hn] at h
      have hn' := hn
      unfold q_nxt at hn'
      split at hn'
      · cases hn'
      · rename_i i n0 g pl hat
        dsimp only at hat hn'
        rcases d with d | d | d
        · cases h
          exact q_step_ret C hat hn' HR
        · have hway : d.1 = M := q_ins_way hn'
          have hg1 : w.1 <+: d.2.2.2.2.1 := q_ins_grow hn'
          have hg2 := q_run_grow h
          have hb2 := q_sl_le hg2
          have hb1 := q_sl_le hg1
          dsimp only at hb2 hb1
          have k := ih d r w' (by rw [hway]; exact C) h hNf hSf (by rw [hway]; exact HR)
          exact q_step_go C hat hn' ⟨by omega, by omega⟩ ⟨by omega, by omega⟩ k
        · obtain ⟨σc, M', pc', L', S'⟩ := d
          dsimp only at h
          cases hc : q_run X n σc with
          | none => rw [hc] at h; cases h
          | some rw1 =>
            obtain ⟨r1, w1⟩ := rw1
            rw [hc] at h
            dsimp only at h
            have hg2 := q_sl_le (q_run_grow h)
            dsimp only at hg2
            have fin : ∀ y : Nat, y < 149 → q_call M (pc + n0) L S w y (q_na y) (q_ml y) = some (.inr (.inr (σc, M', pc', L', S'))) → (q_na y ≤ S.length ∧ (S.drop (q_na y)).length ≤ 4) ∧ q_Mt l D cI cZ cD base T X y (S.take (q_na y)).reverse w r1 w1 ∧ w.1 <+: w1.1 ∧ (w1.1.length ≤ Nf ∧ q_sl w1.1 ≤ Sf) ∧ q_G p l e R s m args below meth c Q D cI cZ cD base T N0 S0 (M, pc + n0, L, r1.toList ++ S.drop (q_na y), w1) := by
              intro y hy hcall
              obtain ⟨hd, h1, h2, h3, h4⟩ := q_call_of hcall
              injection hd with hd1 hd2
              injection hd2 with hd2 hd3
              injection hd3 with hd3 hd4
              injection hd4 with hd4 hd5
              subst hd1 hd2 hd3 hd4 hd5
              refine ⟨⟨h1, h2⟩, q_met ih hy (by simp; omega) h3 (by rw [List.all_reverse]; exact h4) hc, q_run_grow hc, ⟨by omega, by omega⟩, ih _ r w' C h hNf hSf HR⟩
            rcases q_call_no hn' with ⟨x, a, rfl, ha, hcl, hcall⟩ | ⟨x, rfl, hg, hcall⟩ | ⟨x, a, rfl, hg, ha, hcall⟩
            · obtain ⟨hd, hnn, hw, hxc⟩ := q_cert hat
              obtain ⟨hcl9, hna⟩ : q_cl M g = true ∧ q_na g = q_np g + 1 := by simpa [q_xc] using hxc
              obtain ⟨⟨hy, hfr⟩, hlo⟩ : (g < 149 ∧ q_fr g + 1 ≤ q_fr M) ∧ 8 + (q_ml g + 11) + q_lo g ≤ q_lo M := by simpa [q_cl] using hcl9
              obtain ⟨f1, f2, f3, f4, f5⟩ := fin g hy hcall
              exact q_t_invokevirtual C hat ha hcl (q_ci9 hy hna) f1 f2 f3 f4 f5
            · obtain ⟨hd, hnn, hw, hxc⟩ := q_cert hat
              obtain ⟨hcl9, hna⟩ : q_cl M g = true ∧ q_na g = q_np g := by simpa [q_xc, hg] using hxc
              obtain ⟨⟨hy, hfr⟩, hlo⟩ : (g < 149 ∧ q_fr g + 1 ≤ q_fr M) ∧ 8 + (q_ml g + 11) + q_lo g ≤ q_lo M := by simpa [q_cl] using hcl9
              obtain ⟨f1, f2, f3, f4, f5⟩ := fin g hy hcall
              exact q_t_invokestatic C hat hg f1 f2 f3 f4 f5
            · obtain ⟨hd, hnn, hw, hxc⟩ := q_cert hat
              obtain ⟨⟨⟨hcl9, hna⟩, hini⟩, hrt⟩ : ((q_cl M (g % 200) = true ∧ q_na (g % 200) = q_np (g % 200) + 1) ∧ q_ini (g % 200) = true) ∧ q_rt (g % 200) = 0 := by simpa [q_xc, hg] using hxc
              obtain ⟨⟨hy, hfr⟩, hlo⟩ : ((g % 200) < 149 ∧ q_fr (g % 200) + 1 ≤ q_fr M) ∧ 8 + (q_ml (g % 200) + 11) + q_lo (g % 200) ≤ q_lo M := by simpa [q_cl] using hcl9
              obtain ⟨f1, f2, f3, f4, f5⟩ := fin (g % 200) hy hcall
              exact q_t_invokespecial C hat hg ha f1 f2 f3 f4 f5
