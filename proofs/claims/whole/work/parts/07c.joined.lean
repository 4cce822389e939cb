theorem q_all_in {f : Nat → Bool} {a n M : Nat} (h : (List.range' a n).all f = true) (h1 : a ≤ M) (h2 : M < a + n) : f M = true := List.all_eq_true.mp h M (by rw [List.mem_range'_1]; exact ⟨h1, h2⟩)
theorem q_cd {M : Nat} (h : M < 149) : q_chd M = true := by
  by_cases h0 : M < 40
  · exact q_all_in q_cd_0 (by omega) (by omega)
  by_cases h40 : M < 80
  · exact q_all_in q_cd_40 (by omega) (by omega)
  by_cases h80 : M < 120
  · exact q_all_in q_cd_80 (by omega) (by omega)
  by_cases h120 : M < 160
  · exact q_all_in q_cd_120 (by omega) (by omega)
  exact absurd h (by omega)
theorem q_cw {M : Nat} (h : M < 149) : q_chw M = true := by
  by_cases h0 : M < 20
  · exact q_all_in q_cw_0 (by omega) (by omega)
  by_cases h20 : M < 40
  · exact q_all_in q_cw_20 (by omega) (by omega)
  by_cases h40 : M < 60
  · exact q_all_in q_cw_40 (by omega) (by omega)
  by_cases h60 : M < 80
  · exact q_all_in q_cw_60 (by omega) (by omega)
  by_cases h80 : M < 100
  · exact q_all_in q_cw_80 (by omega) (by omega)
  by_cases h100 : M < 120
  · exact q_all_in q_cw_100 (by omega) (by omega)
  by_cases h120 : M < 140
  · exact q_all_in q_cw_120 (by omega) (by omega)
  by_cases h140 : M < 160
  · exact q_all_in q_cw_140 (by omega) (by omega)
  exact absurd h (by omega)
theorem q_chk_app {M a n k : Nat} (h1 : q_chk M a n = true) (h2 : q_chk M (a + n) k = true) : q_chk M a (n + k) = true := by
  unfold q_chk at *
  rw [List.all_eq_true] at *
  intro e he
  rw [List.take_add, List.drop_drop] at he
  rcases List.mem_append.mp he with h | h
  · exact h1 e h
  · exact h2 e h
theorem q_chk_all {M n : Nat} (h : q_chk M 0 n = true) (hn : (q_code M).length ≤ n) : (q_code M).all (q_chk1 M) = true := by
  unfold q_chk at h
  rwa [List.drop_zero, List.take_of_length_le hn] at h
set_option maxRecDepth 100000 in
theorem q_a0 : (q_code 0).all (q_chk1 0) = true := q_chk_all (n := 19) q_c0_0 (Nat.le_of_ble_eq_true rfl)
set_option maxRecDepth 100000 in
theorem q_a1 : (q_code 1).all (q_chk1 1) = true := q_chk_all (n := 46) q_c1_0 (Nat.le_of_ble_eq_true rfl)
set_option maxRecDepth 100000 in
theorem q_a2 : (q_code 2).all (q_chk1 2) = true := q_chk_all (n := 58) q_c2_0 (Nat.le_of_ble_eq_true rfl)
set_option maxRecDepth 100000 in
theorem q_a3 : (q_code 3).all (q_chk1 3) = true := q_chk_all (n := 13) q_c3_0 (Nat.le_of_ble_eq_true rfl)
set_option maxRecDepth 100000 in
theorem q_a4 : (q_code 4).all (q_chk1 4) = true := q_chk_all (n := 12) q_c4_0 (Nat.le_of_ble_eq_true rfl)
set_option maxRecDepth 100000 in
theorem q_a5 : (q_code 5).all (q_chk1 5) = true := q_chk_all (n := 36) q_c5_0 (Nat.le_of_ble_eq_true rfl)
set_option maxRecDepth 100000 in
theorem q_a6 : (q_code 6).all (q_chk1 6) = true := q_chk_all (n := 21) q_c6_0 (Nat.le_of_ble_eq_true rfl)
set_option maxRecDepth 100000 in
theorem q_a7 : (q_code 7).all (q_chk1 7) = true := q_chk_all (n := 30) q_c7_0 (Nat.le_of_ble_eq_true rfl)
set_option maxRecDepth 100000 in
theorem q_a8 : (q_code 8).all (q_chk1 8) = true := q_chk_all (n := 25) q_c8_0 (Nat.le_of_ble_eq_true rfl)
set_option maxRecDepth 100000 in
theorem q_a9 : (q_code 9).all (q_chk1 9) = true := q_chk_all (n := 11) q_c9_0 (Nat.le_of_ble_eq_true rfl)
set_option maxRecDepth 100000 in
theorem q_a10 : (q_code 10).all (q_chk1 10) = true := q_chk_all (n := 55) q_c10_0 (Nat.le_of_ble_eq_true rfl)
set_option maxRecDepth 100000 in
theorem q_a11 : (q_code 11).all (q_chk1 11) = true := q_chk_all (n := 21) q_c11_0 (Nat.le_of_ble_eq_true rfl)
set_option maxRecDepth 100000 in
theorem q_a12 : (q_code 12).all (q_chk1 12) = true := q_chk_all (n := 66) q_c12_0 (Nat.le_of_ble_eq_true rfl)
set_option maxRecDepth 100000 in
theorem q_a13 : (q_code 13).all (q_chk1 13) = true := q_chk_all (n := 34) q_c13_0 (Nat.le_of_ble_eq_true rfl)
set_option maxRecDepth 100000 in
theorem q_a14 : (q_code 14).all (q_chk1 14) = true := q_chk_all (n := 14) q_c14_0 (Nat.le_of_ble_eq_true rfl)
set_option maxRecDepth 100000 in
theorem q_a15 : (q_code 15).all (q_chk1 15) = true := q_chk_all (n := 21) q_c15_0 (Nat.le_of_ble_eq_true rfl)
set_option maxRecDepth 100000 in
theorem q_a16 : (q_code 16).all (q_chk1 16) = true := q_chk_all (n := 33) q_c16_0 (Nat.le_of_ble_eq_true rfl)
set_option maxRecDepth 100000 in
theorem q_a17 : (q_code 17).all (q_chk1 17) = true := q_chk_all (n := 15) q_c17_0 (Nat.le_of_ble_eq_true rfl)
set_option maxRecDepth 100000 in
theorem q_a18 : (q_code 18).all (q_chk1 18) = true := q_chk_all (n := 22) q_c18_0 (Nat.le_of_ble_eq_true rfl)
set_option maxRecDepth 100000 in
theorem q_a19 : (q_code 19).all (q_chk1 19) = true := q_chk_all (n := 20) q_c19_0 (Nat.le_of_ble_eq_true rfl)
set_option maxRecDepth 100000 in
theorem q_a20 : (q_code 20).all (q_chk1 20) = true := q_chk_all (n := 15) q_c20_0 (Nat.le_of_ble_eq_true rfl)
set_option maxRecDepth 100000 in
theorem q_a21 : (q_code 21).all (q_chk1 21) = true := q_chk_all (n := 28) q_c21_0 (Nat.le_of_ble_eq_true rfl)
set_option maxRecDepth 100000 in
theorem q_a22 : (q_code 22).all (q_chk1 22) = true := q_chk_all (n := 54) q_c22_0 (Nat.le_of_ble_eq_true rfl)
set_option maxRecDepth 100000 in
theorem q_a23 : (q_code 23).all (q_chk1 23) = true := q_chk_all (n := 67) q_c23_0 (Nat.le_of_ble_eq_true rfl)
set_option maxRecDepth 100000 in
theorem q_a24 : (q_code 24).all (q_chk1 24) = true := q_chk_all (n := 67) q_c24_0 (Nat.le_of_ble_eq_true rfl)
set_option maxRecDepth 100000 in
theorem q_a25 : (q_code 25).all (q_chk1 25) = true := q_chk_all (n := 87) (q_chk_app (M := 25) (a := 0) (n := 70) (k := 17) q_c25_0 q_c25_70) (Nat.le_of_ble_eq_true rfl)
set_option maxRecDepth 100000 in
theorem q_a26 : (q_code 26).all (q_chk1 26) = true := q_chk_all (n := 82) (q_chk_app (M := 26) (a := 0) (n := 70) (k := 12) q_c26_0 q_c26_70) (Nat.le_of_ble_eq_true rfl)
set_option maxRecDepth 100000 in
theorem q_a27 : (q_code 27).all (q_chk1 27) = true := q_chk_all (n := 61) q_c27_0 (Nat.le_of_ble_eq_true rfl)
set_option maxRecDepth 100000 in
theorem q_a28 : (q_code 28).all (q_chk1 28) = true := q_chk_all (n := 46) q_c28_0 (Nat.le_of_ble_eq_true rfl)
set_option maxRecDepth 100000 in
theorem q_a29 : (q_code 29).all (q_chk1 29) = true := q_chk_all (n := 7) q_c29_0 (Nat.le_of_ble_eq_true rfl)
set_option maxRecDepth 100000 in
theorem q_a30 : (q_code 30).all (q_chk1 30) = true := q_chk_all (n := 20) q_c30_0 (Nat.le_of_ble_eq_true rfl)
set_option maxRecDepth 100000 in
theorem q_a31 : (q_code 31).all (q_chk1 31) = true := q_chk_all (n := 8) q_c31_0 (Nat.le_of_ble_eq_true rfl)
set_option maxRecDepth 100000 in
theorem q_a32 : (q_code 32).all (q_chk1 32) = true := q_chk_all (n := 43) q_c32_0 (Nat.le_of_ble_eq_true rfl)
set_option maxRecDepth 100000 in
theorem q_a33 : (q_code 33).all (q_chk1 33) = true := q_chk_all (n := 20) q_c33_0 (Nat.le_of_ble_eq_true rfl)
set_option maxRecDepth 100000 in
theorem q_a34 : (q_code 34).all (q_chk1 34) = true := q_chk_all (n := 63) q_c34_0 (Nat.le_of_ble_eq_true rfl)
set_option maxRecDepth 100000 in
theorem q_a35 : (q_code 35).all (q_chk1 35) = true := q_chk_all (n := 36) q_c35_0 (Nat.le_of_ble_eq_true rfl)
set_option maxRecDepth 100000 in
theorem q_a36 : (q_code 36).all (q_chk1 36) = true := q_chk_all (n := 31) q_c36_0 (Nat.le_of_ble_eq_true rfl)
set_option maxRecDepth 100000 in
theorem q_a37 : (q_code 37).all (q_chk1 37) = true := q_chk_all (n := 31) q_c37_0 (Nat.le_of_ble_eq_true rfl)
set_option maxRecDepth 100000 in
theorem q_a38 : (q_code 38).all (q_chk1 38) = true := q_chk_all (n := 21) q_c38_0 (Nat.le_of_ble_eq_true rfl)
set_option maxRecDepth 100000 in
theorem q_a39 : (q_code 39).all (q_chk1 39) = true := q_chk_all (n := 13) q_c39_0 (Nat.le_of_ble_eq_true rfl)
set_option maxRecDepth 100000 in
theorem q_a40 : (q_code 40).all (q_chk1 40) = true := q_chk_all (n := 30) q_c40_0 (Nat.le_of_ble_eq_true rfl)
set_option maxRecDepth 100000 in
theorem q_a41 : (q_code 41).all (q_chk1 41) = true := q_chk_all (n := 73) (q_chk_app (M := 41) (a := 0) (n := 70) (k := 3) q_c41_0 q_c41_70) (Nat.le_of_ble_eq_true rfl)
set_option maxRecDepth 100000 in
theorem q_a42 : (q_code 42).all (q_chk1 42) = true := q_chk_all (n := 34) q_c42_0 (Nat.le_of_ble_eq_true rfl)
set_option maxRecDepth 100000 in
theorem q_a43 : (q_code 43).all (q_chk1 43) = true := q_chk_all (n := 19) q_c43_0 (Nat.le_of_ble_eq_true rfl)
set_option maxRecDepth 100000 in
theorem q_a44 : (q_code 44).all (q_chk1 44) = true := q_chk_all (n := 54) q_c44_0 (Nat.le_of_ble_eq_true rfl)
set_option maxRecDepth 100000 in
theorem q_a45 : (q_code 45).all (q_chk1 45) = true := q_chk_all (n := 11) q_c45_0 (Nat.le_of_ble_eq_true rfl)
set_option maxRecDepth 100000 in
theorem q_a46 : (q_code 46).all (q_chk1 46) = true := q_chk_all (n := 35) q_c46_0 (Nat.le_of_ble_eq_true rfl)
set_option maxRecDepth 100000 in
theorem q_a47 : (q_code 47).all (q_chk1 47) = true := q_chk_all (n := 56) q_c47_0 (Nat.le_of_ble_eq_true rfl)
set_option maxRecDepth 100000 in
theorem q_a48 : (q_code 48).all (q_chk1 48) = true := q_chk_all (n := 18) q_c48_0 (Nat.le_of_ble_eq_true rfl)
set_option maxRecDepth 100000 in
theorem q_a49 : (q_code 49).all (q_chk1 49) = true := q_chk_all (n := 70) q_c49_0 (Nat.le_of_ble_eq_true rfl)
set_option maxRecDepth 100000 in
theorem q_a50 : (q_code 50).all (q_chk1 50) = true := q_chk_all (n := 74) (q_chk_app (M := 50) (a := 0) (n := 70) (k := 4) q_c50_0 q_c50_70) (Nat.le_of_ble_eq_true rfl)
set_option maxRecDepth 100000 in
theorem q_a51 : (q_code 51).all (q_chk1 51) = true := q_chk_all (n := 18) q_c51_0 (Nat.le_of_ble_eq_true rfl)
set_option maxRecDepth 100000 in
theorem q_a52 : (q_code 52).all (q_chk1 52) = true := q_chk_all (n := 4) q_c52_0 (Nat.le_of_ble_eq_true rfl)
set_option maxRecDepth 100000 in
theorem q_a53 : (q_code 53).all (q_chk1 53) = true := q_chk_all (n := 46) q_c53_0 (Nat.le_of_ble_eq_true rfl)
set_option maxRecDepth 100000 in
theorem q_a54 : (q_code 54).all (q_chk1 54) = true := q_chk_all (n := 31) q_c54_0 (Nat.le_of_ble_eq_true rfl)
set_option maxRecDepth 100000 in
theorem q_a55 : (q_code 55).all (q_chk1 55) = true := q_chk_all (n := 50) q_c55_0 (Nat.le_of_ble_eq_true rfl)
set_option maxRecDepth 100000 in
theorem q_a56 : (q_code 56).all (q_chk1 56) = true := q_chk_all (n := 48) q_c56_0 (Nat.le_of_ble_eq_true rfl)
set_option maxRecDepth 100000 in
theorem q_a57 : (q_code 57).all (q_chk1 57) = true := q_chk_all (n := 46) q_c57_0 (Nat.le_of_ble_eq_true rfl)
set_option maxRecDepth 100000 in
theorem q_a58 : (q_code 58).all (q_chk1 58) = true := q_chk_all (n := 17) q_c58_0 (Nat.le_of_ble_eq_true rfl)
set_option maxRecDepth 100000 in
theorem q_a59 : (q_code 59).all (q_chk1 59) = true := q_chk_all (n := 49) q_c59_0 (Nat.le_of_ble_eq_true rfl)
set_option maxRecDepth 100000 in
theorem q_a60 : (q_code 60).all (q_chk1 60) = true := q_chk_all (n := 15) q_c60_0 (Nat.le_of_ble_eq_true rfl)
set_option maxRecDepth 100000 in
theorem q_a61 : (q_code 61).all (q_chk1 61) = true := q_chk_all (n := 36) q_c61_0 (Nat.le_of_ble_eq_true rfl)
set_option maxRecDepth 100000 in
theorem q_a62 : (q_code 62).all (q_chk1 62) = true := q_chk_all (n := 32) q_c62_0 (Nat.le_of_ble_eq_true rfl)
set_option maxRecDepth 100000 in
theorem q_a63 : (q_code 63).all (q_chk1 63) = true := q_chk_all (n := 46) q_c63_0 (Nat.le_of_ble_eq_true rfl)
set_option maxRecDepth 100000 in
theorem q_a64 : (q_code 64).all (q_chk1 64) = true := q_chk_all (n := 85) (q_chk_app (M := 64) (a := 0) (n := 70) (k := 15) q_c64_0 q_c64_70) (Nat.le_of_ble_eq_true rfl)
set_option maxRecDepth 100000 in
theorem q_a65 : (q_code 65).all (q_chk1 65) = true := q_chk_all (n := 47) q_c65_0 (Nat.le_of_ble_eq_true rfl)
set_option maxRecDepth 100000 in
theorem q_a66 : (q_code 66).all (q_chk1 66) = true := q_chk_all (n := 6) q_c66_0 (Nat.le_of_ble_eq_true rfl)
set_option maxRecDepth 100000 in
theorem q_a67 : (q_code 67).all (q_chk1 67) = true := q_chk_all (n := 30) q_c67_0 (Nat.le_of_ble_eq_true rfl)
set_option maxRecDepth 100000 in
theorem q_a68 : (q_code 68).all (q_chk1 68) = true := q_chk_all (n := 20) q_c68_0 (Nat.le_of_ble_eq_true rfl)
set_option maxRecDepth 100000 in
theorem q_a69 : (q_code 69).all (q_chk1 69) = true := q_chk_all (n := 28) q_c69_0 (Nat.le_of_ble_eq_true rfl)
set_option maxRecDepth 100000 in
theorem q_a70 : (q_code 70).all (q_chk1 70) = true := q_chk_all (n := 10) q_c70_0 (Nat.le_of_ble_eq_true rfl)
set_option maxRecDepth 100000 in
theorem q_a71 : (q_code 71).all (q_chk1 71) = true := q_chk_all (n := 20) q_c71_0 (Nat.le_of_ble_eq_true rfl)
set_option maxRecDepth 100000 in
theorem q_a72 : (q_code 72).all (q_chk1 72) = true := q_chk_all (n := 7) q_c72_0 (Nat.le_of_ble_eq_true rfl)
set_option maxRecDepth 100000 in
theorem q_a73 : (q_code 73).all (q_chk1 73) = true := q_chk_all (n := 27) q_c73_0 (Nat.le_of_ble_eq_true rfl)
set_option maxRecDepth 100000 in
theorem q_a74 : (q_code 74).all (q_chk1 74) = true := q_chk_all (n := 32) q_c74_0 (Nat.le_of_ble_eq_true rfl)
set_option maxRecDepth 100000 in
theorem q_a75 : (q_code 75).all (q_chk1 75) = true := q_chk_all (n := 42) q_c75_0 (Nat.le_of_ble_eq_true rfl)
set_option maxRecDepth 100000 in
theorem q_a76 : (q_code 76).all (q_chk1 76) = true := q_chk_all (n := 9) q_c76_0 (Nat.le_of_ble_eq_true rfl)
set_option maxRecDepth 100000 in
theorem q_a77 : (q_code 77).all (q_chk1 77) = true := q_chk_all (n := 9) q_c77_0 (Nat.le_of_ble_eq_true rfl)
set_option maxRecDepth 100000 in
theorem q_a78 : (q_code 78).all (q_chk1 78) = true := q_chk_all (n := 12) q_c78_0 (Nat.le_of_ble_eq_true rfl)
set_option maxRecDepth 100000 in
theorem q_a79 : (q_code 79).all (q_chk1 79) = true := q_chk_all (n := 23) q_c79_0 (Nat.le_of_ble_eq_true rfl)
set_option maxRecDepth 100000 in
theorem q_a80 : (q_code 80).all (q_chk1 80) = true := q_chk_all (n := 17) q_c80_0 (Nat.le_of_ble_eq_true rfl)
set_option maxRecDepth 100000 in
theorem q_a81 : (q_code 81).all (q_chk1 81) = true := q_chk_all (n := 25) q_c81_0 (Nat.le_of_ble_eq_true rfl)
set_option maxRecDepth 100000 in
theorem q_a82 : (q_code 82).all (q_chk1 82) = true := q_chk_all (n := 26) q_c82_0 (Nat.le_of_ble_eq_true rfl)
set_option maxRecDepth 100000 in
theorem q_a83 : (q_code 83).all (q_chk1 83) = true := q_chk_all (n := 54) q_c83_0 (Nat.le_of_ble_eq_true rfl)
set_option maxRecDepth 100000 in
theorem q_a84 : (q_code 84).all (q_chk1 84) = true := q_chk_all (n := 60) q_c84_0 (Nat.le_of_ble_eq_true rfl)
set_option maxRecDepth 100000 in
theorem q_a85 : (q_code 85).all (q_chk1 85) = true := q_chk_all (n := 10) q_c85_0 (Nat.le_of_ble_eq_true rfl)
set_option maxRecDepth 100000 in
theorem q_a86 : (q_code 86).all (q_chk1 86) = true := q_chk_all (n := 11) q_c86_0 (Nat.le_of_ble_eq_true rfl)
set_option maxRecDepth 100000 in
theorem q_a87 : (q_code 87).all (q_chk1 87) = true := q_chk_all (n := 5) q_c87_0 (Nat.le_of_ble_eq_true rfl)
set_option maxRecDepth 100000 in
theorem q_a88 : (q_code 88).all (q_chk1 88) = true := q_chk_all (n := 14) q_c88_0 (Nat.le_of_ble_eq_true rfl)
set_option maxRecDepth 100000 in
theorem q_a89 : (q_code 89).all (q_chk1 89) = true := q_chk_all (n := 21) q_c89_0 (Nat.le_of_ble_eq_true rfl)
set_option maxRecDepth 100000 in
theorem q_a90 : (q_code 90).all (q_chk1 90) = true := q_chk_all (n := 38) q_c90_0 (Nat.le_of_ble_eq_true rfl)
set_option maxRecDepth 100000 in
theorem q_a91 : (q_code 91).all (q_chk1 91) = true := q_chk_all (n := 59) q_c91_0 (Nat.le_of_ble_eq_true rfl)
set_option maxRecDepth 100000 in
theorem q_a92 : (q_code 92).all (q_chk1 92) = true := q_chk_all (n := 12) q_c92_0 (Nat.le_of_ble_eq_true rfl)
set_option maxRecDepth 100000 in
theorem q_a93 : (q_code 93).all (q_chk1 93) = true := q_chk_all (n := 12) q_c93_0 (Nat.le_of_ble_eq_true rfl)
set_option maxRecDepth 100000 in
theorem q_a94 : (q_code 94).all (q_chk1 94) = true := q_chk_all (n := 17) q_c94_0 (Nat.le_of_ble_eq_true rfl)
set_option maxRecDepth 100000 in
theorem q_a95 : (q_code 95).all (q_chk1 95) = true := q_chk_all (n := 54) q_c95_0 (Nat.le_of_ble_eq_true rfl)
set_option maxRecDepth 100000 in
theorem q_a96 : (q_code 96).all (q_chk1 96) = true := q_chk_all (n := 29) q_c96_0 (Nat.le_of_ble_eq_true rfl)
set_option maxRecDepth 100000 in
theorem q_a97 : (q_code 97).all (q_chk1 97) = true := q_chk_all (n := 34) q_c97_0 (Nat.le_of_ble_eq_true rfl)
set_option maxRecDepth 100000 in
theorem q_a98 : (q_code 98).all (q_chk1 98) = true := q_chk_all (n := 49) q_c98_0 (Nat.le_of_ble_eq_true rfl)
set_option maxRecDepth 100000 in
theorem q_a99 : (q_code 99).all (q_chk1 99) = true := q_chk_all (n := 51) q_c99_0 (Nat.le_of_ble_eq_true rfl)
set_option maxRecDepth 100000 in
theorem q_a100 : (q_code 100).all (q_chk1 100) = true := q_chk_all (n := 47) q_c100_0 (Nat.le_of_ble_eq_true rfl)
set_option maxRecDepth 100000 in
theorem q_a101 : (q_code 101).all (q_chk1 101) = true := q_chk_all (n := 109) (q_chk_app (M := 101) (a := 0) (n := 70) (k := 39) q_c101_0 q_c101_70) (Nat.le_of_ble_eq_true rfl)
set_option maxRecDepth 100000 in
theorem q_a102 : (q_code 102).all (q_chk1 102) = true := q_chk_all (n := 19) q_c102_0 (Nat.le_of_ble_eq_true rfl)
set_option maxRecDepth 100000 in
theorem q_a103 : (q_code 103).all (q_chk1 103) = true := q_chk_all (n := 67) q_c103_0 (Nat.le_of_ble_eq_true rfl)
set_option maxRecDepth 100000 in
theorem q_a104 : (q_code 104).all (q_chk1 104) = true := q_chk_all (n := 78) (q_chk_app (M := 104) (a := 0) (n := 70) (k := 8) q_c104_0 q_c104_70) (Nat.le_of_ble_eq_true rfl)
set_option maxRecDepth 100000 in
theorem q_a105 : (q_code 105).all (q_chk1 105) = true := q_chk_all (n := 18) q_c105_0 (Nat.le_of_ble_eq_true rfl)
set_option maxRecDepth 100000 in
theorem q_a106 : (q_code 106).all (q_chk1 106) = true := q_chk_all (n := 17) q_c106_0 (Nat.le_of_ble_eq_true rfl)
set_option maxRecDepth 100000 in
theorem q_a107 : (q_code 107).all (q_chk1 107) = true := q_chk_all (n := 17) q_c107_0 (Nat.le_of_ble_eq_true rfl)
set_option maxRecDepth 100000 in
theorem q_a108 : (q_code 108).all (q_chk1 108) = true := q_chk_all (n := 27) q_c108_0 (Nat.le_of_ble_eq_true rfl)
set_option maxRecDepth 100000 in
theorem q_a109 : (q_code 109).all (q_chk1 109) = true := q_chk_all (n := 17) q_c109_0 (Nat.le_of_ble_eq_true rfl)
set_option maxRecDepth 100000 in
theorem q_a110 : (q_code 110).all (q_chk1 110) = true := q_chk_all (n := 32) q_c110_0 (Nat.le_of_ble_eq_true rfl)
set_option maxRecDepth 100000 in
theorem q_a111 : (q_code 111).all (q_chk1 111) = true := q_chk_all (n := 19) q_c111_0 (Nat.le_of_ble_eq_true rfl)
set_option maxRecDepth 100000 in
theorem q_a112 : (q_code 112).all (q_chk1 112) = true := q_chk_all (n := 31) q_c112_0 (Nat.le_of_ble_eq_true rfl)
set_option maxRecDepth 100000 in
theorem q_a113 : (q_code 113).all (q_chk1 113) = true := q_chk_all (n := 36) q_c113_0 (Nat.le_of_ble_eq_true rfl)
set_option maxRecDepth 100000 in
theorem q_a114 : (q_code 114).all (q_chk1 114) = true := q_chk_all (n := 34) q_c114_0 (Nat.le_of_ble_eq_true rfl)
set_option maxRecDepth 100000 in
theorem q_a115 : (q_code 115).all (q_chk1 115) = true := q_chk_all (n := 51) q_c115_0 (Nat.le_of_ble_eq_true rfl)
set_option maxRecDepth 100000 in
theorem q_a116 : (q_code 116).all (q_chk1 116) = true := q_chk_all (n := 24) q_c116_0 (Nat.le_of_ble_eq_true rfl)
set_option maxRecDepth 100000 in
theorem q_a117 : (q_code 117).all (q_chk1 117) = true := q_chk_all (n := 43) q_c117_0 (Nat.le_of_ble_eq_true rfl)
set_option maxRecDepth 100000 in
theorem q_a118 : (q_code 118).all (q_chk1 118) = true := q_chk_all (n := 47) q_c118_0 (Nat.le_of_ble_eq_true rfl)
set_option maxRecDepth 100000 in
theorem q_a119 : (q_code 119).all (q_chk1 119) = true := q_chk_all (n := 85) (q_chk_app (M := 119) (a := 0) (n := 70) (k := 15) q_c119_0 q_c119_70) (Nat.le_of_ble_eq_true rfl)
set_option maxRecDepth 100000 in
theorem q_a120 : (q_code 120).all (q_chk1 120) = true := q_chk_all (n := 131) (q_chk_app (M := 120) (a := 0) (n := 70) (k := 61) q_c120_0 q_c120_70) (Nat.le_of_ble_eq_true rfl)
set_option maxRecDepth 100000 in
theorem q_a121 : (q_code 121).all (q_chk1 121) = true := q_chk_all (n := 46) q_c121_0 (Nat.le_of_ble_eq_true rfl)
set_option maxRecDepth 100000 in
theorem q_a122 : (q_code 122).all (q_chk1 122) = true := q_chk_all (n := 45) q_c122_0 (Nat.le_of_ble_eq_true rfl)
set_option maxRecDepth 100000 in
theorem q_a123 : (q_code 123).all (q_chk1 123) = true := q_chk_all (n := 48) q_c123_0 (Nat.le_of_ble_eq_true rfl)
set_option maxRecDepth 100000 in
theorem q_a124 : (q_code 124).all (q_chk1 124) = true := q_chk_all (n := 11) q_c124_0 (Nat.le_of_ble_eq_true rfl)
set_option maxRecDepth 100000 in
theorem q_a125 : (q_code 125).all (q_chk1 125) = true := q_chk_all (n := 62) q_c125_0 (Nat.le_of_ble_eq_true rfl)
set_option maxRecDepth 100000 in
theorem q_a126 : (q_code 126).all (q_chk1 126) = true := q_chk_all (n := 30) q_c126_0 (Nat.le_of_ble_eq_true rfl)
set_option maxRecDepth 100000 in
theorem q_a127 : (q_code 127).all (q_chk1 127) = true := q_chk_all (n := 82) (q_chk_app (M := 127) (a := 0) (n := 70) (k := 12) q_c127_0 q_c127_70) (Nat.le_of_ble_eq_true rfl)
set_option maxRecDepth 100000 in
theorem q_a128 : (q_code 128).all (q_chk1 128) = true := q_chk_all (n := 7) q_c128_0 (Nat.le_of_ble_eq_true rfl)
set_option maxRecDepth 100000 in
theorem q_a129 : (q_code 129).all (q_chk1 129) = true := q_chk_all (n := 31) q_c129_0 (Nat.le_of_ble_eq_true rfl)
set_option maxRecDepth 100000 in
theorem q_a130 : (q_code 130).all (q_chk1 130) = true := q_chk_all (n := 48) q_c130_0 (Nat.le_of_ble_eq_true rfl)
set_option maxRecDepth 100000 in
theorem q_a131 : (q_code 131).all (q_chk1 131) = true := q_chk_all (n := 8) q_c131_0 (Nat.le_of_ble_eq_true rfl)
set_option maxRecDepth 100000 in
theorem q_a132 : (q_code 132).all (q_chk1 132) = true := q_chk_all (n := 51) q_c132_0 (Nat.le_of_ble_eq_true rfl)
set_option maxRecDepth 100000 in
theorem q_a133 : (q_code 133).all (q_chk1 133) = true := q_chk_all (n := 40) q_c133_0 (Nat.le_of_ble_eq_true rfl)
set_option maxRecDepth 100000 in
theorem q_a134 : (q_code 134).all (q_chk1 134) = true := q_chk_all (n := 94) (q_chk_app (M := 134) (a := 0) (n := 70) (k := 24) q_c134_0 q_c134_70) (Nat.le_of_ble_eq_true rfl)
set_option maxRecDepth 100000 in
theorem q_a135 : (q_code 135).all (q_chk1 135) = true := q_chk_all (n := 37) q_c135_0 (Nat.le_of_ble_eq_true rfl)
set_option maxRecDepth 100000 in
theorem q_a136 : (q_code 136).all (q_chk1 136) = true := q_chk_all (n := 42) q_c136_0 (Nat.le_of_ble_eq_true rfl)
set_option maxRecDepth 100000 in
theorem q_a137 : (q_code 137).all (q_chk1 137) = true := q_chk_all (n := 42) q_c137_0 (Nat.le_of_ble_eq_true rfl)
set_option maxRecDepth 100000 in
theorem q_a138 : (q_code 138).all (q_chk1 138) = true := q_chk_all (n := 49) q_c138_0 (Nat.le_of_ble_eq_true rfl)
set_option maxRecDepth 100000 in
theorem q_a139 : (q_code 139).all (q_chk1 139) = true := q_chk_all (n := 28) q_c139_0 (Nat.le_of_ble_eq_true rfl)
set_option maxRecDepth 100000 in
theorem q_a140 : (q_code 140).all (q_chk1 140) = true := q_chk_all (n := 8) q_c140_0 (Nat.le_of_ble_eq_true rfl)
set_option maxRecDepth 100000 in
theorem q_a141 : (q_code 141).all (q_chk1 141) = true := q_chk_all (n := 19) q_c141_0 (Nat.le_of_ble_eq_true rfl)
set_option maxRecDepth 100000 in
theorem q_a142 : (q_code 142).all (q_chk1 142) = true := q_chk_all (n := 140) (q_chk_app (M := 142) (a := 0) (n := 70) (k := 70) q_c142_0 q_c142_70) (Nat.le_of_ble_eq_true rfl)
set_option maxRecDepth 100000 in
theorem q_a143 : (q_code 143).all (q_chk1 143) = true := q_chk_all (n := 18) q_c143_0 (Nat.le_of_ble_eq_true rfl)
set_option maxRecDepth 100000 in
theorem q_a144 : (q_code 144).all (q_chk1 144) = true := q_chk_all (n := 16) q_c144_0 (Nat.le_of_ble_eq_true rfl)
set_option maxRecDepth 100000 in
theorem q_a145 : (q_code 145).all (q_chk1 145) = true := q_chk_all (n := 10) q_c145_0 (Nat.le_of_ble_eq_true rfl)
set_option maxRecDepth 100000 in
theorem q_a146 : (q_code 146).all (q_chk1 146) = true := q_chk_all (n := 138) (q_chk_app (M := 146) (a := 0) (n := 70) (k := 68) q_c146_0 q_c146_70) (Nat.le_of_ble_eq_true rfl)
set_option maxRecDepth 100000 in
theorem q_a147 : (q_code 147).all (q_chk1 147) = true := q_chk_all (n := 55) q_c147_0 (Nat.le_of_ble_eq_true rfl)
set_option maxRecDepth 100000 in
theorem q_a148 : (q_code 148).all (q_chk1 148) = true := q_chk_all (n := 42) q_c148_0 (Nat.le_of_ble_eq_true rfl)
set_option maxRecDepth 100000 in
theorem q_a149 : (q_code 149).all (q_chk1 149) = true := q_chk_all (n := 7) q_c149_0 (Nat.le_of_ble_eq_true rfl)
set_option maxRecDepth 100000 in
theorem q_a150 : (q_code 150).all (q_chk1 150) = true := q_chk_all (n := 7) q_c150_0 (Nat.le_of_ble_eq_true rfl)
set_option maxRecDepth 100000 in
theorem q_a151 : (q_code 151).all (q_chk1 151) = true := q_chk_all (n := 551) (q_chk_app (M := 151) (a := 0) (n := 550) (k := 1) (q_chk_app (M := 151) (a := 0) (n := 500) (k := 50) (q_chk_app (M := 151) (a := 0) (n := 450) (k := 50) (q_chk_app (M := 151) (a := 0) (n := 400) (k := 50) (q_chk_app (M := 151) (a := 0) (n := 350) (k := 50) (q_chk_app (M := 151) (a := 0) (n := 300) (k := 50) (q_chk_app (M := 151) (a := 0) (n := 250) (k := 50) (q_chk_app (M := 151) (a := 0) (n := 200) (k := 50) (q_chk_app (M := 151) (a := 0) (n := 150) (k := 50) (q_chk_app (M := 151) (a := 0) (n := 100) (k := 50) (q_chk_app (M := 151) (a := 0) (n := 50) (k := 50) q_c151_0 q_c151_50) q_c151_100) q_c151_150) q_c151_200) q_c151_250) q_c151_300) q_c151_350) q_c151_400) q_c151_450) q_c151_500) q_c151_550) (Nat.le_of_ble_eq_true rfl)
theorem q_ck {M : Nat} (h : M < 152) : (q_code M).all (q_chk1 M) = true := by
  match M, h with
  | 0, _ => exact q_a0
  | 1, _ => exact q_a1
  | 2, _ => exact q_a2
  | 3, _ => exact q_a3
  | 4, _ => exact q_a4
  | 5, _ => exact q_a5
  | 6, _ => exact q_a6
  | 7, _ => exact q_a7
  | 8, _ => exact q_a8
  | 9, _ => exact q_a9
  | 10, _ => exact q_a10
  | 11, _ => exact q_a11
  | 12, _ => exact q_a12
  | 13, _ => exact q_a13
  | 14, _ => exact q_a14
  | 15, _ => exact q_a15
  | 16, _ => exact q_a16
  | 17, _ => exact q_a17
  | 18, _ => exact q_a18
  | 19, _ => exact q_a19
  | 20, _ => exact q_a20
  | 21, _ => exact q_a21
  | 22, _ => exact q_a22
  | 23, _ => exact q_a23
  | 24, _ => exact q_a24
  | 25, _ => exact q_a25
  | 26, _ => exact q_a26
  | 27, _ => exact q_a27
  | 28, _ => exact q_a28
  | 29, _ => exact q_a29
  | 30, _ => exact q_a30
  | 31, _ => exact q_a31
  | 32, _ => exact q_a32
  | 33, _ => exact q_a33
  | 34, _ => exact q_a34
  | 35, _ => exact q_a35
  | 36, _ => exact q_a36
  | 37, _ => exact q_a37
  | 38, _ => exact q_a38
  | 39, _ => exact q_a39
  | 40, _ => exact q_a40
  | 41, _ => exact q_a41
  | 42, _ => exact q_a42
  | 43, _ => exact q_a43
  | 44, _ => exact q_a44
  | 45, _ => exact q_a45
  | 46, _ => exact q_a46
  | 47, _ => exact q_a47
  | 48, _ => exact q_a48
  | 49, _ => exact q_a49
  | 50, _ => exact q_a50
  | 51, _ => exact q_a51
  | 52, _ => exact q_a52
  | 53, _ => exact q_a53
  | 54, _ => exact q_a54
  | 55, _ => exact q_a55
  | 56, _ => exact q_a56
  | 57, _ => exact q_a57
  | 58, _ => exact q_a58
  | 59, _ => exact q_a59
  | 60, _ => exact q_a60
  | 61, _ => exact q_a61
  | 62, _ => exact q_a62
  | 63, _ => exact q_a63
  | 64, _ => exact q_a64
  | 65, _ => exact q_a65
  | 66, _ => exact q_a66
  | 67, _ => exact q_a67
  | 68, _ => exact q_a68
  | 69, _ => exact q_a69
  | 70, _ => exact q_a70
  | 71, _ => exact q_a71
  | 72, _ => exact q_a72
  | 73, _ => exact q_a73
  | 74, _ => exact q_a74
  | 75, _ => exact q_a75
  | 76, _ => exact q_a76
  | 77, _ => exact q_a77
  | 78, _ => exact q_a78
  | 79, _ => exact q_a79
  | 80, _ => exact q_a80
  | 81, _ => exact q_a81
  | 82, _ => exact q_a82
  | 83, _ => exact q_a83
  | 84, _ => exact q_a84
  | 85, _ => exact q_a85
  | 86, _ => exact q_a86
  | 87, _ => exact q_a87
  | 88, _ => exact q_a88
  | 89, _ => exact q_a89
  | 90, _ => exact q_a90
  | 91, _ => exact q_a91
  | 92, _ => exact q_a92
  | 93, _ => exact q_a93
  | 94, _ => exact q_a94
  | 95, _ => exact q_a95
  | 96, _ => exact q_a96
  | 97, _ => exact q_a97
  | 98, _ => exact q_a98
  | 99, _ => exact q_a99
  | 100, _ => exact q_a100
  | 101, _ => exact q_a101
  | 102, _ => exact q_a102
  | 103, _ => exact q_a103
  | 104, _ => exact q_a104
  | 105, _ => exact q_a105
  | 106, _ => exact q_a106
  | 107, _ => exact q_a107
  | 108, _ => exact q_a108
  | 109, _ => exact q_a109
  | 110, _ => exact q_a110
  | 111, _ => exact q_a111
  | 112, _ => exact q_a112
  | 113, _ => exact q_a113
  | 114, _ => exact q_a114
  | 115, _ => exact q_a115
  | 116, _ => exact q_a116
  | 117, _ => exact q_a117
  | 118, _ => exact q_a118
  | 119, _ => exact q_a119
  | 120, _ => exact q_a120
  | 121, _ => exact q_a121
  | 122, _ => exact q_a122
  | 123, _ => exact q_a123
  | 124, _ => exact q_a124
  | 125, _ => exact q_a125
  | 126, _ => exact q_a126
  | 127, _ => exact q_a127
  | 128, _ => exact q_a128
  | 129, _ => exact q_a129
  | 130, _ => exact q_a130
  | 131, _ => exact q_a131
  | 132, _ => exact q_a132
  | 133, _ => exact q_a133
  | 134, _ => exact q_a134
  | 135, _ => exact q_a135
  | 136, _ => exact q_a136
  | 137, _ => exact q_a137
  | 138, _ => exact q_a138
  | 139, _ => exact q_a139
  | 140, _ => exact q_a140
  | 141, _ => exact q_a141
  | 142, _ => exact q_a142
  | 143, _ => exact q_a143
  | 144, _ => exact q_a144
  | 145, _ => exact q_a145
  | 146, _ => exact q_a146
  | 147, _ => exact q_a147
  | 148, _ => exact q_a148
  | 149, _ => exact q_a149
  | 150, _ => exact q_a150
  | 151, _ => exact q_a151
  | k + 152, h => exact absurd h (by omega)
theorem q_look {α : Type} {l : List (Nat × α)} {k : Nat} {v : α} (h : l.lookup k = some v) : (k, v) ∈ l := by
  induction l with
  | nil => cases h
  | cons a l ih =>
    obtain ⟨a, b⟩ := a
    rw [List.lookup_cons] at h
    by_cases hk : k = a
    · subst hk
      simp at h
      subst h
      exact List.mem_cons_self
    · have : (k == a) = false := by simpa using hk
      rw [this] at h
      exact List.mem_cons_of_mem _ (ih h)
set_option maxRecDepth 100000 in
theorem q_at_lt {M pc : Nat} {e : q_E} (h : q_at M pc = some e) : M < 152 := by
  by_cases hM : M < 152
  · exact hM
  · have hn : q_codes[M]? = none := List.getElem?_eq_none (show q_codes.length ≤ M from Nat.le_trans (Nat.le_of_ble_eq_true rfl) (Nat.not_lt.mp hM))
    unfold q_at q_code at h
    rw [List.getD_eq_getElem?_getD, hn] at h
    cases h
set_option maxRecDepth 100000 in
theorem q_enc_dec {k c x g : Nat} (hk : k < 16) (hc : c < 16) (hx : x < 1024) (hg : g < 4294967296) : q_dec (q_enc k c x g) = q_wk k c x g := by
  unfold q_dec q_enc
  have h1 : (((k * 16 + c) * 1024 + x) * 4294967296 + g) / 4294967296 = (k * 16 + c) * 1024 + x := by omega
  have h2 : (((k * 16 + c) * 1024 + x) * 4294967296 + g) % 4294967296 = g := by omega
  rw [h1, h2]
  have h3 : ((k * 16 + c) * 1024 + x) / 1024 = k * 16 + c := by omega
  have h4 : ((k * 16 + c) * 1024 + x) % 1024 = x := by omega
  rw [h3, h4]
  have h5 : (k * 16 + c) / 16 = k := by omega
  have h6 : (k * 16 + c) % 16 = c := by omega
  rw [h5, h6]
theorem q_lk_words {c n : Nat} (hc : c < 12) (h : n ∈ q_lk c) : ∀ w ∈ q_dec n, w ∈ lw_tbl := by
  have h1 : q_chl c = true := List.all_eq_true.mp q_cl_0 c (List.mem_range.mpr hc)
  unfold q_chl at h1
  have h2 := of_decide_eq_true h1
  intro w hw
  have hm : (q_dec n).map some ∈ (q_lk c).map (fun n => (q_dec n).map some) := List.mem_map.mpr ⟨n, h, rfl⟩
  rw [← h2] at hm
  obtain ⟨ps, -, hps⟩ := List.mem_map.mp hm
  have hw2 : some w ∈ (q_dec n).map some := List.mem_map.mpr ⟨w, hw, rfl⟩
  rw [← hps] at hw2
  obtain ⟨j, -, hj⟩ := List.mem_map.mp hw2
  exact List.mem_of_getElem? hj
def q_wd (M : Nat) (i : Instr) (g : Nat) : List Jvm.Cond := match q_kd i with
  | some (k, x) => q_wk k (q_ci M) x g
  | none => []
theorem q_ci_lt {M : Nat} (h : M < 152) : q_ci M < 12 := by
  have h1 : (List.range 152).all (fun M => decide (q_ci M < 12)) = true := by decide +kernel
  exact of_decide_eq_true (List.all_eq_true.mp h1 M (List.mem_range.mpr h))
theorem q_cert {M pc : Nat} {i : Instr} {n g : Nat} {pl : List Nat} (h : q_at M pc = some (i, n, g, pl)) : decode (q_b M) pc = .ok (i, n) ∧ q_ln i n = true ∧ (∀ w ∈ q_wd M i g, w ∈ lw_tbl) ∧ q_xc M pc i g pl = true := by
  have h1 := List.all_eq_true.mp (q_ck (q_at_lt h)) _ (q_look h)
  unfold q_chk1 at h1
  simp only [Bool.and_eq_true, decide_eq_true_eq] at h1
  obtain ⟨⟨⟨a, b⟩, c⟩, d⟩ := h1
  refine ⟨a, b, ?_, d⟩
  unfold q_wd
  unfold q_lkd at c
  cases hk : q_kd i with
  | none => intro w hw; cases hw
  | some kx =>
    obtain ⟨k, x⟩ := kx
    rw [hk] at c
    simp only [Bool.and_eq_true, decide_eq_true_eq, List.contains_iff_mem] at c
    obtain ⟨⟨⟨c1, c2⟩, c3⟩, c4⟩ := c
    have hc := q_ci_lt (q_at_lt h)
    have h2 := q_lk_words hc c4
    rwa [q_enc_dec c1 (by omega) c2 c3] at h2
/-- the words that a contract hands on -/
def lw_g : List Jvm.Cond := lw_tbl.filter goodWord
theorem q_in_g {w : Jvm.Cond} (h : w ∈ lw_tbl) (hg : goodWord w = true) : w ∈ lw_g := List.mem_filter.mpr ⟨h, hg⟩
theorem q_g_good : GoodIn lw_g lw_g := fun w hw => ⟨hw, good_of_word (List.mem_filter.mp hw).2⟩
