/-! ===== the law from its start to its end ===== -/
section S83
variable {X : Nat × (Nat → Int32)}
theorem l_0 {L S : List Value} {w : q_M} : q_ex X (151, 0, L, S, w) = q_ex X (151, 3, L, .ref w.1.length :: S, q_nw w 7 0) := g_go (i := .new 7) (n := 3) (g := 7) (pl := []) rfl rfl
theorem l_4 {L : List Value} {w : q_M} {a : Nat} : q_ex X (151, 4, L, [.ref a, .ref a], w) = (q_ex X (50, 0, [.ref a, .null], [], w)).bind (fun r => q_ex X (151, 7, L, r.1.toList ++ [.ref a], r.2)) := g_call (i := .invokespecial 9) (n := 3) (g := 50) (pl := []) rfl rfl
theorem l_8 {L S : List Value} {w : q_M} : q_ex X (151, 8, L, S, w) = q_ex X (151, 11, L, .ref w.1.length :: S, q_nw w 8 0) := g_go (i := .new 10) (n := 3) (g := 8) (pl := []) rfl rfl
theorem l_12 {L : List Value} {w : q_M} {a : Nat} : q_ex X (151, 12, L, [.ref a, .ref a], w) = (q_ex X (84, 0, [.ref a], [], w)).bind (fun r => q_ex X (151, 15, L, r.1.toList ++ [.ref a], r.2)) := g_call (i := .invokespecial 12) (n := 3) (g := 84) (pl := []) rfl rfl
theorem law_all (hX : X.1 ≤ 3584) : ∃ t u F J, q_ex X q_l0 = some (some (.int (nI 1)), q_w t u F J) := by
  obtain ⟨w1, F, J, hl, c1, c2, hR⟩ := q_init (X := X)
  obtain ⟨t', u', F', J', e⟩ := law_loop hX (X.1 + 1) 0 3 8 F J (by omega) (by omega) hR
  refine ⟨t', u', F', J', ?_⟩
  have h0 : q_ex X q_l0 = q_ex X (151, 8, [.float 2, .ref 0, .null, .null], [], w1) := by
    have hz : q_w0.1.length = 0 := rfl
    unfold q_l0
    rw [l_0, hz, e151_3, l_4, c1, Option.bind_some]
    simp only [Option.bind_some, Option.toList_some, Option.toList_none, List.cons_append, List.nil_append]
    rw [e151_7]
  rw [h0, l_8, hl, e151_11, l_12, c2, Option.bind_some]
  simp only [Option.bind_some, Option.toList_some, Option.toList_none, List.cons_append, List.nil_append]
  rw [e151_15, e151_16, e151_17]
  exact e
end S83
theorem k_sl : q_sl k_st ≤ 7302250 := by decide +kernel
theorem whole_start {p : Program} {e : Env} {s : State} {m : MethodId} {below : List Frame} {meth : Method} {c : Code} (l : Launch) (hflags : l.flags = flags0) {b L : Nat} {xs : Nat → Int32} (hL : L ≤ 3584) (C0 : lw_At p s m meth c b L xs) : W p l e room_1 s m #[Value.ref b] below meth c s.heap [] 0 0 (lw_Z below #[Value.ref b] s) (entryFrame m ([Value.ref b] : List Value).toArray 4) := by
  obtain ⟨t, u, F, J, h⟩ := law_all (X := (L, xs)) hL
  obtain ⟨n, hn⟩ := q_ex_iff.mp h
  refine q_start l C0 (n := n) (w' := q_w t u F J) hn ?_ ?_
  · show k_st.length ≤ 600000
    rw [k_len]; omega
  · exact k_sl
