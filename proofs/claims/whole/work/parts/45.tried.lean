/-! ===== bitCount; QuietPairs$Tried ===== -/
section S44
variable {X : Nat × (Nat → Int32)} {t u : Nat} {F : Nat → Nat → Int32} {J : Nat → Int64} {w : q_M}
theorem s148 {x : Nat} (h : x < 65536) : q_ex X (148, 0, [.int (nI x)], [], w) = some (some (.int (nI (pcS x 16))), w) := by
  rw [← pcA_eq h]
  have h1 : (x / 2 ^ 1 &&& 1431655765) ≤ x := Nat.le_trans Nat.and_le_left (Nat.div_le_self _ _)
  have h2 : x - (x / 2 ^ 1 &&& 1431655765) < 65536 := by omega
  have h3 : ((x - (x / 2 ^ 1 &&& 1431655765)) &&& 858993459) ≤ x - (x / 2 ^ 1 &&& 1431655765) := Nat.and_le_left
  have h4 : ((x - (x / 2 ^ 1 &&& 1431655765)) / 2 ^ 2 &&& 858993459) ≤ (x - (x / 2 ^ 1 &&& 1431655765)) := Nat.le_trans Nat.and_le_left (Nat.div_le_self _ _)
  have h5 : (((x - (x / 2 ^ 1 &&& 1431655765)) &&& 858993459) + ((x - (x / 2 ^ 1 &&& 1431655765)) / 2 ^ 2 &&& 858993459) + (((x - (x / 2 ^ 1 &&& 1431655765)) &&& 858993459) + ((x - (x / 2 ^ 1 &&& 1431655765)) / 2 ^ 2 &&& 858993459)) / 2 ^ 4 &&& 252645135) ≤ 252645135 := Nat.and_le_right
  simp (disch := (first | omega | assumption | rfl | (simp (disch := assumption) only [l9_2, l9_4, l9_5, l9_6, l9_7, l9_9, l9_10, l9_11, l9_12, l9_14, l9_15, l9_16, l9_17, l9_51, l9_52, l9_53, l9_55, l9_56, l9_58, l9_61, l9_73, l9_74, l9_75, l9_76, l9_77, l9_79, l9_80, l9_81, l9_82, l9_83, l9_84, l9_85, l10_59, l10_78, l9_D1, l9_D2, l9_D3, l9_D4, l9_T1, l9_T2, l9_T3, l9_T4]; omega) | decide)) only [e148_0, e148_1, e148_2, e148_3, e148_4, e148_7, e148_8, e148_9, e148_10, e148_11, e148_14, e148_15, e148_16, e148_17, e148_18, e148_21, e148_22, e148_23, e148_24, e148_25, e148_26, e148_27, e148_28, e148_29, e148_32, e148_33, e148_34, e148_35, e148_36, e148_38, e148_39, e148_40, e148_41, e148_42, e148_43, e148_45, e148_46, e148_47, e148_48, e148_49, e148_51, e148_52, n_and, n_ushr, n_sub, nI_add]
  rfl
end S44
