set_option maxRecDepth 100000 in
theorem e151_3 {X : Nat × (Nat → Int32)} {L S : List Value} {w : q_M} {x : Nat} : q_ex X (151, 3, L, .ref x :: S, w) = q_ex X (151, 4, L, .ref x :: .ref x :: S, w) := g_go (i := .dup) (n := 1) (g := 0) (pl := []) rfl rfl
set_option maxRecDepth 100000 in
theorem e151_7 {X : Nat × (Nat → Int32)} {S : List Value} {w : q_M} {a0 a1 a2 a3 : Value} {x : Nat} : q_ex X (151, 7, [a0, a1, a2, a3], .ref x :: S, w) = q_ex X (151, 8, [a0, .ref x, a2, a3], S, w) := g_go (i := (.astore_n 1)) (n := 1) (g := 0) (pl := []) rfl rfl
set_option maxRecDepth 100000 in
theorem e151_11 {X : Nat × (Nat → Int32)} {L S : List Value} {w : q_M} {x : Nat} : q_ex X (151, 11, L, .ref x :: S, w) = q_ex X (151, 12, L, .ref x :: .ref x :: S, w) := g_go (i := .dup) (n := 1) (g := 0) (pl := []) rfl rfl
set_option maxRecDepth 100000 in
theorem e151_15 {X : Nat × (Nat → Int32)} {S : List Value} {w : q_M} {a0 a1 a2 a3 : Value} {x : Nat} : q_ex X (151, 15, [a0, a1, a2, a3], .ref x :: S, w) = q_ex X (151, 16, [a0, a1, .ref x, a3], S, w) := g_go (i := (.astore_n 2)) (n := 1) (g := 0) (pl := []) rfl rfl
set_option maxRecDepth 100000 in
theorem e151_16 {X : Nat × (Nat → Int32)} {L S : List Value} {w : q_M} : q_ex X (151, 16, L, S, w) = q_ex X (151, 17, L, .int (nI 0) :: S, w) := g_go (i := (.iconst 0)) (n := 1) (g := 0) (pl := []) rfl rfl
set_option maxRecDepth 100000 in
theorem e151_17 {X : Nat × (Nat → Int32)} {S : List Value} {w : q_M} {a0 a1 a2 a3 : Value} {x : Int32} : q_ex X (151, 17, [a0, a1, a2, a3], .int x :: S, w) = q_ex X (151, 18, [a0, a1, a2, .int x], S, w) := g_go (i := (.istore_n 3)) (n := 1) (g := 0) (pl := []) rfl rfl
set_option maxRecDepth 100000 in
theorem e151_18 {X : Nat × (Nat → Int32)} {S : List Value} {w : q_M} {a0 a1 a2 : Value} {x : Int32} : q_ex X (151, 18, [a0, a1, a2, .int x], S, w) = q_ex X (151, 19, [a0, a1, a2, .int x], .int x :: S, w) := g_go (i := (.iload_n 3)) (n := 1) (g := 0) (pl := []) rfl rfl
set_option maxRecDepth 100000 in
theorem e151_19 {X : Nat × (Nat → Int32)} {S : List Value} {w : q_M} {a1 a2 a3 : Value} {x : UInt32} : q_ex X (151, 19, [.float x, a1, a2, a3], S, w) = q_ex X (151, 20, [.float x, a1, a2, a3], .float x :: S, w) := g_go (i := (.aload_n 0)) (n := 1) (g := 0) (pl := []) rfl rfl
set_option maxRecDepth 100000 in
theorem e151_20 {X : Nat × (Nat → Int32)} {L S : List Value} {w : q_M} : q_ex X (151, 20, L, .float 2 :: S, w) = q_ex X (151, 21, L, .int (nI X.1) :: S, w) := g_go (i := .arraylength) (n := 1) (g := 0) (pl := []) rfl rfl
set_option maxRecDepth 100000 in
theorem e151_21 {X : Nat × (Nat → Int32)} {L S : List Value} {w : q_M} : q_ex X (151, 21, L, S, w) = q_ex X (151, 23, L, .int (nI 7) :: S, w) := g_go (i := (.bipush 7)) (n := 2) (g := 0) (pl := []) rfl rfl
set_option maxRecDepth 100000 in
theorem e151_23 {X : Nat × (Nat → Int32)} {L S : List Value} {w : q_M} {x y : Int32} : q_ex X (151, 23, L, .int y :: .int x :: S, w) = q_ex X (151, 24, L, .int (x - y) :: S, w) := g_go (i := .isub) (n := 1) (g := 0) (pl := []) rfl rfl
set_option maxRecDepth 100000 in
theorem e151_24 {X : Nat × (Nat → Int32)} {L S : List Value} {w : q_M} {x y : Int32} : q_ex X (151, 24, L, .int y :: .int x :: S, w) = if y < x then q_ex X (151, 831, L, S, w) else q_ex X (151, 27, L, S, w) := g_c2 (i := (.if_icmp .gt 807)) (n := 3) (g := 831) (pl := []) (P := fun x y => y < x) (fun _ _ => inferInstance) rfl rfl
set_option maxRecDepth 100000 in
theorem e151_27 {X : Nat × (Nat → Int32)} {S : List Value} {w : q_M} {a1 a2 a3 : Value} {x : UInt32} : q_ex X (151, 27, [.float x, a1, a2, a3], S, w) = q_ex X (151, 28, [.float x, a1, a2, a3], .float x :: S, w) := g_go (i := (.aload_n 0)) (n := 1) (g := 0) (pl := []) rfl rfl
set_option maxRecDepth 100000 in
theorem e151_28 {X : Nat × (Nat → Int32)} {S : List Value} {w : q_M} {a0 a1 a2 : Value} {x : Int32} : q_ex X (151, 28, [a0, a1, a2, .int x], S, w) = q_ex X (151, 29, [a0, a1, a2, .int x], .int x :: S, w) := g_go (i := (.iload_n 3)) (n := 1) (g := 0) (pl := []) rfl rfl
set_option maxRecDepth 100000 in
theorem e151_29 {X : Nat × (Nat → Int32)} {L S : List Value} {w : q_M} {i : Nat} (hi : i < X.1) (hX : X.1 ≤ 100000) : q_ex X (151, 29, L, .int (nI i) :: .float 2 :: S, w) = q_ex X (151, 30, L, .int (X.2 i) :: S, w) := g_xld (v := 2) (n := 1) (g := 0) (pl := []) rfl hi hX
set_option maxRecDepth 100000 in
theorem e151_30 {X : Nat × (Nat → Int32)} {L S : List Value} {w : q_M} : q_ex X (151, 30, L, S, w) = q_ex X (151, 32, L, .int (nI 31) :: S, w) := g_go (i := (.bipush 31)) (n := 2) (g := 0) (pl := []) rfl rfl
set_option maxRecDepth 100000 in
theorem e151_32 {X : Nat × (Nat → Int32)} {L S : List Value} {w : q_M} {x y : Int32} : q_ex X (151, 32, L, .int y :: .int x :: S, w) = q_ex X (151, 33, L, .int (x &&& y) :: S, w) := g_go (i := .iand) (n := 1) (g := 0) (pl := []) rfl rfl
set_option maxRecDepth 100000 in
theorem e151_33_c0 {X : Nat × (Nat → Int32)} {L S : List Value} {w : q_M} : q_ex X (151, 33, L, .int (nI 0) :: S, w) = q_ex X (151, 148, L, S, w) := g_go (i := (.tableswitch 792 0 24 #[115, 138, 151, 164, 187, 210, 253, 296, 309, 332, 345, 388, 421, 464, 539, 572, 585, 608, 631, 674, 687, 710, 723, 746, 769])) (n := 115) (g := 825) (pl := [148, 171, 184, 197, 220, 243, 286, 329, 342, 365, 378, 421, 454, 497, 572, 605, 618, 641, 664, 707, 720, 743, 756, 779, 802]) rfl rfl
set_option maxRecDepth 100000 in
theorem e151_33_c1 {X : Nat × (Nat → Int32)} {L S : List Value} {w : q_M} : q_ex X (151, 33, L, .int (nI 1) :: S, w) = q_ex X (151, 171, L, S, w) := g_go (i := (.tableswitch 792 0 24 #[115, 138, 151, 164, 187, 210, 253, 296, 309, 332, 345, 388, 421, 464, 539, 572, 585, 608, 631, 674, 687, 710, 723, 746, 769])) (n := 115) (g := 825) (pl := [148, 171, 184, 197, 220, 243, 286, 329, 342, 365, 378, 421, 454, 497, 572, 605, 618, 641, 664, 707, 720, 743, 756, 779, 802]) rfl rfl
set_option maxRecDepth 100000 in
theorem e151_33_c2 {X : Nat × (Nat → Int32)} {L S : List Value} {w : q_M} : q_ex X (151, 33, L, .int (nI 2) :: S, w) = q_ex X (151, 184, L, S, w) := g_go (i := (.tableswitch 792 0 24 #[115, 138, 151, 164, 187, 210, 253, 296, 309, 332, 345, 388, 421, 464, 539, 572, 585, 608, 631, 674, 687, 710, 723, 746, 769])) (n := 115) (g := 825) (pl := [148, 171, 184, 197, 220, 243, 286, 329, 342, 365, 378, 421, 454, 497, 572, 605, 618, 641, 664, 707, 720, 743, 756, 779, 802]) rfl rfl
set_option maxRecDepth 100000 in
theorem e151_33_c3 {X : Nat × (Nat → Int32)} {L S : List Value} {w : q_M} : q_ex X (151, 33, L, .int (nI 3) :: S, w) = q_ex X (151, 197, L, S, w) := g_go (i := (.tableswitch 792 0 24 #[115, 138, 151, 164, 187, 210, 253, 296, 309, 332, 345, 388, 421, 464, 539, 572, 585, 608, 631, 674, 687, 710, 723, 746, 769])) (n := 115) (g := 825) (pl := [148, 171, 184, 197, 220, 243, 286, 329, 342, 365, 378, 421, 454, 497, 572, 605, 618, 641, 664, 707, 720, 743, 756, 779, 802]) rfl rfl
set_option maxRecDepth 100000 in
theorem e151_33_c4 {X : Nat × (Nat → Int32)} {L S : List Value} {w : q_M} : q_ex X (151, 33, L, .int (nI 4) :: S, w) = q_ex X (151, 220, L, S, w) := g_go (i := (.tableswitch 792 0 24 #[115, 138, 151, 164, 187, 210, 253, 296, 309, 332, 345, 388, 421, 464, 539, 572, 585, 608, 631, 674, 687, 710, 723, 746, 769])) (n := 115) (g := 825) (pl := [148, 171, 184, 197, 220, 243, 286, 329, 342, 365, 378, 421, 454, 497, 572, 605, 618, 641, 664, 707, 720, 743, 756, 779, 802]) rfl rfl
set_option maxRecDepth 100000 in
theorem e151_33_c5 {X : Nat × (Nat → Int32)} {L S : List Value} {w : q_M} : q_ex X (151, 33, L, .int (nI 5) :: S, w) = q_ex X (151, 243, L, S, w) := g_go (i := (.tableswitch 792 0 24 #[115, 138, 151, 164, 187, 210, 253, 296, 309, 332, 345, 388, 421, 464, 539, 572, 585, 608, 631, 674, 687, 710, 723, 746, 769])) (n := 115) (g := 825) (pl := [148, 171, 184, 197, 220, 243, 286, 329, 342, 365, 378, 421, 454, 497, 572, 605, 618, 641, 664, 707, 720, 743, 756, 779, 802]) rfl rfl
set_option maxRecDepth 100000 in
theorem e151_33_c6 {X : Nat × (Nat → Int32)} {L S : List Value} {w : q_M} : q_ex X (151, 33, L, .int (nI 6) :: S, w) = q_ex X (151, 286, L, S, w) := g_go (i := (.tableswitch 792 0 24 #[115, 138, 151, 164, 187, 210, 253, 296, 309, 332, 345, 388, 421, 464, 539, 572, 585, 608, 631, 674, 687, 710, 723, 746, 769])) (n := 115) (g := 825) (pl := [148, 171, 184, 197, 220, 243, 286, 329, 342, 365, 378, 421, 454, 497, 572, 605, 618, 641, 664, 707, 720, 743, 756, 779, 802]) rfl rfl
set_option maxRecDepth 100000 in
theorem e151_33_c7 {X : Nat × (Nat → Int32)} {L S : List Value} {w : q_M} : q_ex X (151, 33, L, .int (nI 7) :: S, w) = q_ex X (151, 329, L, S, w) := g_go (i := (.tableswitch 792 0 24 #[115, 138, 151, 164, 187, 210, 253, 296, 309, 332, 345, 388, 421, 464, 539, 572, 585, 608, 631, 674, 687, 710, 723, 746, 769])) (n := 115) (g := 825) (pl := [148, 171, 184, 197, 220, 243, 286, 329, 342, 365, 378, 421, 454, 497, 572, 605, 618, 641, 664, 707, 720, 743, 756, 779, 802]) rfl rfl
set_option maxRecDepth 100000 in
theorem e151_33_c8 {X : Nat × (Nat → Int32)} {L S : List Value} {w : q_M} : q_ex X (151, 33, L, .int (nI 8) :: S, w) = q_ex X (151, 342, L, S, w) := g_go (i := (.tableswitch 792 0 24 #[115, 138, 151, 164, 187, 210, 253, 296, 309, 332, 345, 388, 421, 464, 539, 572, 585, 608, 631, 674, 687, 710, 723, 746, 769])) (n := 115) (g := 825) (pl := [148, 171, 184, 197, 220, 243, 286, 329, 342, 365, 378, 421, 454, 497, 572, 605, 618, 641, 664, 707, 720, 743, 756, 779, 802]) rfl rfl
set_option maxRecDepth 100000 in
theorem e151_33_c9 {X : Nat × (Nat → Int32)} {L S : List Value} {w : q_M} : q_ex X (151, 33, L, .int (nI 9) :: S, w) = q_ex X (151, 365, L, S, w) := g_go (i := (.tableswitch 792 0 24 #[115, 138, 151, 164, 187, 210, 253, 296, 309, 332, 345, 388, 421, 464, 539, 572, 585, 608, 631, 674, 687, 710, 723, 746, 769])) (n := 115) (g := 825) (pl := [148, 171, 184, 197, 220, 243, 286, 329, 342, 365, 378, 421, 454, 497, 572, 605, 618, 641, 664, 707, 720, 743, 756, 779, 802]) rfl rfl
set_option maxRecDepth 100000 in
theorem e151_33_c10 {X : Nat × (Nat → Int32)} {L S : List Value} {w : q_M} : q_ex X (151, 33, L, .int (nI 10) :: S, w) = q_ex X (151, 378, L, S, w) := g_go (i := (.tableswitch 792 0 24 #[115, 138, 151, 164, 187, 210, 253, 296, 309, 332, 345, 388, 421, 464, 539, 572, 585, 608, 631, 674, 687, 710, 723, 746, 769])) (n := 115) (g := 825) (pl := [148, 171, 184, 197, 220, 243, 286, 329, 342, 365, 378, 421, 454, 497, 572, 605, 618, 641, 664, 707, 720, 743, 756, 779, 802]) rfl rfl
set_option maxRecDepth 100000 in
theorem e151_33_c11 {X : Nat × (Nat → Int32)} {L S : List Value} {w : q_M} : q_ex X (151, 33, L, .int (nI 11) :: S, w) = q_ex X (151, 421, L, S, w) := g_go (i := (.tableswitch 792 0 24 #[115, 138, 151, 164, 187, 210, 253, 296, 309, 332, 345, 388, 421, 464, 539, 572, 585, 608, 631, 674, 687, 710, 723, 746, 769])) (n := 115) (g := 825) (pl := [148, 171, 184, 197, 220, 243, 286, 329, 342, 365, 378, 421, 454, 497, 572, 605, 618, 641, 664, 707, 720, 743, 756, 779, 802]) rfl rfl
set_option maxRecDepth 100000 in
theorem e151_33_c12 {X : Nat × (Nat → Int32)} {L S : List Value} {w : q_M} : q_ex X (151, 33, L, .int (nI 12) :: S, w) = q_ex X (151, 454, L, S, w) := g_go (i := (.tableswitch 792 0 24 #[115, 138, 151, 164, 187, 210, 253, 296, 309, 332, 345, 388, 421, 464, 539, 572, 585, 608, 631, 674, 687, 710, 723, 746, 769])) (n := 115) (g := 825) (pl := [148, 171, 184, 197, 220, 243, 286, 329, 342, 365, 378, 421, 454, 497, 572, 605, 618, 641, 664, 707, 720, 743, 756, 779, 802]) rfl rfl
set_option maxRecDepth 100000 in
theorem e151_33_c13 {X : Nat × (Nat → Int32)} {L S : List Value} {w : q_M} : q_ex X (151, 33, L, .int (nI 13) :: S, w) = q_ex X (151, 497, L, S, w) := g_go (i := (.tableswitch 792 0 24 #[115, 138, 151, 164, 187, 210, 253, 296, 309, 332, 345, 388, 421, 464, 539, 572, 585, 608, 631, 674, 687, 710, 723, 746, 769])) (n := 115) (g := 825) (pl := [148, 171, 184, 197, 220, 243, 286, 329, 342, 365, 378, 421, 454, 497, 572, 605, 618, 641, 664, 707, 720, 743, 756, 779, 802]) rfl rfl
set_option maxRecDepth 100000 in
theorem e151_33_c14 {X : Nat × (Nat → Int32)} {L S : List Value} {w : q_M} : q_ex X (151, 33, L, .int (nI 14) :: S, w) = q_ex X (151, 572, L, S, w) := g_go (i := (.tableswitch 792 0 24 #[115, 138, 151, 164, 187, 210, 253, 296, 309, 332, 345, 388, 421, 464, 539, 572, 585, 608, 631, 674, 687, 710, 723, 746, 769])) (n := 115) (g := 825) (pl := [148, 171, 184, 197, 220, 243, 286, 329, 342, 365, 378, 421, 454, 497, 572, 605, 618, 641, 664, 707, 720, 743, 756, 779, 802]) rfl rfl
set_option maxRecDepth 100000 in
theorem e151_33_c15 {X : Nat × (Nat → Int32)} {L S : List Value} {w : q_M} : q_ex X (151, 33, L, .int (nI 15) :: S, w) = q_ex X (151, 605, L, S, w) := g_go (i := (.tableswitch 792 0 24 #[115, 138, 151, 164, 187, 210, 253, 296, 309, 332, 345, 388, 421, 464, 539, 572, 585, 608, 631, 674, 687, 710, 723, 746, 769])) (n := 115) (g := 825) (pl := [148, 171, 184, 197, 220, 243, 286, 329, 342, 365, 378, 421, 454, 497, 572, 605, 618, 641, 664, 707, 720, 743, 756, 779, 802]) rfl rfl
set_option maxRecDepth 100000 in
theorem e151_33_c16 {X : Nat × (Nat → Int32)} {L S : List Value} {w : q_M} : q_ex X (151, 33, L, .int (nI 16) :: S, w) = q_ex X (151, 618, L, S, w) := g_go (i := (.tableswitch 792 0 24 #[115, 138, 151, 164, 187, 210, 253, 296, 309, 332, 345, 388, 421, 464, 539, 572, 585, 608, 631, 674, 687, 710, 723, 746, 769])) (n := 115) (g := 825) (pl := [148, 171, 184, 197, 220, 243, 286, 329, 342, 365, 378, 421, 454, 497, 572, 605, 618, 641, 664, 707, 720, 743, 756, 779, 802]) rfl rfl
set_option maxRecDepth 100000 in
theorem e151_33_c17 {X : Nat × (Nat → Int32)} {L S : List Value} {w : q_M} : q_ex X (151, 33, L, .int (nI 17) :: S, w) = q_ex X (151, 641, L, S, w) := g_go (i := (.tableswitch 792 0 24 #[115, 138, 151, 164, 187, 210, 253, 296, 309, 332, 345, 388, 421, 464, 539, 572, 585, 608, 631, 674, 687, 710, 723, 746, 769])) (n := 115) (g := 825) (pl := [148, 171, 184, 197, 220, 243, 286, 329, 342, 365, 378, 421, 454, 497, 572, 605, 618, 641, 664, 707, 720, 743, 756, 779, 802]) rfl rfl
set_option maxRecDepth 100000 in
theorem e151_33_c18 {X : Nat × (Nat → Int32)} {L S : List Value} {w : q_M} : q_ex X (151, 33, L, .int (nI 18) :: S, w) = q_ex X (151, 664, L, S, w) := g_go (i := (.tableswitch 792 0 24 #[115, 138, 151, 164, 187, 210, 253, 296, 309, 332, 345, 388, 421, 464, 539, 572, 585, 608, 631, 674, 687, 710, 723, 746, 769])) (n := 115) (g := 825) (pl := [148, 171, 184, 197, 220, 243, 286, 329, 342, 365, 378, 421, 454, 497, 572, 605, 618, 641, 664, 707, 720, 743, 756, 779, 802]) rfl rfl
set_option maxRecDepth 100000 in
theorem e151_33_c19 {X : Nat × (Nat → Int32)} {L S : List Value} {w : q_M} : q_ex X (151, 33, L, .int (nI 19) :: S, w) = q_ex X (151, 707, L, S, w) := g_go (i := (.tableswitch 792 0 24 #[115, 138, 151, 164, 187, 210, 253, 296, 309, 332, 345, 388, 421, 464, 539, 572, 585, 608, 631, 674, 687, 710, 723, 746, 769])) (n := 115) (g := 825) (pl := [148, 171, 184, 197, 220, 243, 286, 329, 342, 365, 378, 421, 454, 497, 572, 605, 618, 641, 664, 707, 720, 743, 756, 779, 802]) rfl rfl
set_option maxRecDepth 100000 in
theorem e151_33_c20 {X : Nat × (Nat → Int32)} {L S : List Value} {w : q_M} : q_ex X (151, 33, L, .int (nI 20) :: S, w) = q_ex X (151, 720, L, S, w) := g_go (i := (.tableswitch 792 0 24 #[115, 138, 151, 164, 187, 210, 253, 296, 309, 332, 345, 388, 421, 464, 539, 572, 585, 608, 631, 674, 687, 710, 723, 746, 769])) (n := 115) (g := 825) (pl := [148, 171, 184, 197, 220, 243, 286, 329, 342, 365, 378, 421, 454, 497, 572, 605, 618, 641, 664, 707, 720, 743, 756, 779, 802]) rfl rfl
set_option maxRecDepth 100000 in
theorem e151_33_c21 {X : Nat × (Nat → Int32)} {L S : List Value} {w : q_M} : q_ex X (151, 33, L, .int (nI 21) :: S, w) = q_ex X (151, 743, L, S, w) := g_go (i := (.tableswitch 792 0 24 #[115, 138, 151, 164, 187, 210, 253, 296, 309, 332, 345, 388, 421, 464, 539, 572, 585, 608, 631, 674, 687, 710, 723, 746, 769])) (n := 115) (g := 825) (pl := [148, 171, 184, 197, 220, 243, 286, 329, 342, 365, 378, 421, 454, 497, 572, 605, 618, 641, 664, 707, 720, 743, 756, 779, 802]) rfl rfl
set_option maxRecDepth 100000 in
theorem e151_33_c22 {X : Nat × (Nat → Int32)} {L S : List Value} {w : q_M} : q_ex X (151, 33, L, .int (nI 22) :: S, w) = q_ex X (151, 756, L, S, w) := g_go (i := (.tableswitch 792 0 24 #[115, 138, 151, 164, 187, 210, 253, 296, 309, 332, 345, 388, 421, 464, 539, 572, 585, 608, 631, 674, 687, 710, 723, 746, 769])) (n := 115) (g := 825) (pl := [148, 171, 184, 197, 220, 243, 286, 329, 342, 365, 378, 421, 454, 497, 572, 605, 618, 641, 664, 707, 720, 743, 756, 779, 802]) rfl rfl
set_option maxRecDepth 100000 in
theorem e151_33_c23 {X : Nat × (Nat → Int32)} {L S : List Value} {w : q_M} : q_ex X (151, 33, L, .int (nI 23) :: S, w) = q_ex X (151, 779, L, S, w) := g_go (i := (.tableswitch 792 0 24 #[115, 138, 151, 164, 187, 210, 253, 296, 309, 332, 345, 388, 421, 464, 539, 572, 585, 608, 631, 674, 687, 710, 723, 746, 769])) (n := 115) (g := 825) (pl := [148, 171, 184, 197, 220, 243, 286, 329, 342, 365, 378, 421, 454, 497, 572, 605, 618, 641, 664, 707, 720, 743, 756, 779, 802]) rfl rfl
set_option maxRecDepth 100000 in
theorem e151_33_c24 {X : Nat × (Nat → Int32)} {L S : List Value} {w : q_M} : q_ex X (151, 33, L, .int (nI 24) :: S, w) = q_ex X (151, 802, L, S, w) := g_go (i := (.tableswitch 792 0 24 #[115, 138, 151, 164, 187, 210, 253, 296, 309, 332, 345, 388, 421, 464, 539, 572, 585, 608, 631, 674, 687, 710, 723, 746, 769])) (n := 115) (g := 825) (pl := [148, 171, 184, 197, 220, 243, 286, 329, 342, 365, 378, 421, 454, 497, 572, 605, 618, 641, 664, 707, 720, 743, 756, 779, 802]) rfl rfl
set_option maxRecDepth 100000 in
theorem e151_33_d {X : Nat × (Nat → Int32)} {L S : List Value} {w : q_M} {x : Int32} (h : x.toInt < 0 ∨ 24 < x.toInt) : q_ex X (151, 33, L, .int x :: S, w) = q_ex X (151, 825, L, S, w) := g_go (i := (.tableswitch 792 0 24 #[115, 138, 151, 164, 187, 210, 253, 296, 309, 332, 345, 388, 421, 464, 539, 572, 585, 608, 631, 674, 687, 710, 723, 746, 769])) (n := 115) (g := 825) (pl := [148, 171, 184, 197, 220, 243, 286, 329, 342, 365, 378, 421, 454, 497, 572, 605, 618, 641, 664, 707, 720, 743, 756, 779, 802]) rfl (if_pos h)
set_option maxRecDepth 100000 in
theorem e151_148 {X : Nat × (Nat → Int32)} {S : List Value} {w : q_M} {a0 a2 a3 : Value} {x : Nat} : q_ex X (151, 148, [a0, .ref x, a2, a3], S, w) = q_ex X (151, 149, [a0, .ref x, a2, a3], .ref x :: S, w) := g_go (i := (.aload_n 1)) (n := 1) (g := 0) (pl := []) rfl rfl
set_option maxRecDepth 100000 in
theorem e151_149 {X : Nat × (Nat → Int32)} {S : List Value} {w : q_M} {a1 a2 a3 : Value} {x : UInt32} : q_ex X (151, 149, [.float x, a1, a2, a3], S, w) = q_ex X (151, 150, [.float x, a1, a2, a3], .float x :: S, w) := g_go (i := (.aload_n 0)) (n := 1) (g := 0) (pl := []) rfl rfl
set_option maxRecDepth 100000 in
theorem e151_150 {X : Nat × (Nat → Int32)} {S : List Value} {w : q_M} {a0 a1 a2 : Value} {x : Int32} : q_ex X (151, 150, [a0, a1, a2, .int x], S, w) = q_ex X (151, 151, [a0, a1, a2, .int x], .int x :: S, w) := g_go (i := (.iload_n 3)) (n := 1) (g := 0) (pl := []) rfl rfl
set_option maxRecDepth 100000 in
theorem e151_151 {X : Nat × (Nat → Int32)} {L S : List Value} {w : q_M} : q_ex X (151, 151, L, S, w) = q_ex X (151, 152, L, .int (nI 1) :: S, w) := g_go (i := (.iconst 1)) (n := 1) (g := 0) (pl := []) rfl rfl
set_option maxRecDepth 100000 in
theorem e151_152 {X : Nat × (Nat → Int32)} {L S : List Value} {w : q_M} {x y : Int32} : q_ex X (151, 152, L, .int y :: .int x :: S, w) = q_ex X (151, 153, L, .int (x + y) :: S, w) := g_go (i := .iadd) (n := 1) (g := 0) (pl := []) rfl rfl
set_option maxRecDepth 100000 in
theorem e151_153 {X : Nat × (Nat → Int32)} {L S : List Value} {w : q_M} {i : Nat} (hi : i < X.1) (hX : X.1 ≤ 100000) : q_ex X (151, 153, L, .int (nI i) :: .float 2 :: S, w) = q_ex X (151, 154, L, .int (X.2 i) :: S, w) := g_xld (v := 2) (n := 1) (g := 0) (pl := []) rfl hi hX
set_option maxRecDepth 100000 in
theorem e151_154 {X : Nat × (Nat → Int32)} {L : List Value} {t u : Nat} {F : Nat → Nat → Int32} {J : Nat → Int64} {x1 : Int32}  : q_ex X (151, 154, L, [.int x1, .ref 0], q_w t u F J) = (q_ex X (51, 0, [.ref 0, .int x1], [], q_w t u F J)).bind (fun r => q_ex X (151, 157, L, r.1.toList ++ [], r.2)) := g_call (i := (.invokevirtual 13)) (n := 3) (g := 51) (pl := []) rfl rfl
set_option maxRecDepth 100000 in
theorem e151_157 {X : Nat × (Nat → Int32)} {S : List Value} {w : q_M} {a0 a1 a3 : Value} {x : Nat} : q_ex X (151, 157, [a0, a1, .ref x, a3], S, w) = q_ex X (151, 158, [a0, a1, .ref x, a3], .ref x :: S, w) := g_go (i := (.aload_n 2)) (n := 1) (g := 0) (pl := []) rfl rfl
set_option maxRecDepth 100000 in
theorem e151_158 {X : Nat × (Nat → Int32)} {S : List Value} {w : q_M} {a1 a2 a3 : Value} {x : UInt32} : q_ex X (151, 158, [.float x, a1, a2, a3], S, w) = q_ex X (151, 159, [.float x, a1, a2, a3], .float x :: S, w) := g_go (i := (.aload_n 0)) (n := 1) (g := 0) (pl := []) rfl rfl
set_option maxRecDepth 100000 in
theorem e151_159 {X : Nat × (Nat → Int32)} {S : List Value} {w : q_M} {a0 a1 a2 : Value} {x : Int32} : q_ex X (151, 159, [a0, a1, a2, .int x], S, w) = q_ex X (151, 160, [a0, a1, a2, .int x], .int x :: S, w) := g_go (i := (.iload_n 3)) (n := 1) (g := 0) (pl := []) rfl rfl
set_option maxRecDepth 100000 in
theorem e151_160 {X : Nat × (Nat → Int32)} {L S : List Value} {w : q_M} : q_ex X (151, 160, L, S, w) = q_ex X (151, 161, L, .int (nI 1) :: S, w) := g_go (i := (.iconst 1)) (n := 1) (g := 0) (pl := []) rfl rfl
set_option maxRecDepth 100000 in
theorem e151_161 {X : Nat × (Nat → Int32)} {L S : List Value} {w : q_M} {x y : Int32} : q_ex X (151, 161, L, .int y :: .int x :: S, w) = q_ex X (151, 162, L, .int (x + y) :: S, w) := g_go (i := .iadd) (n := 1) (g := 0) (pl := []) rfl rfl
set_option maxRecDepth 100000 in
theorem e151_162 {X : Nat × (Nat → Int32)} {L S : List Value} {w : q_M} {i : Nat} (hi : i < X.1) (hX : X.1 ≤ 100000) : q_ex X (151, 162, L, .int (nI i) :: .float 2 :: S, w) = q_ex X (151, 163, L, .int (X.2 i) :: S, w) := g_xld (v := 2) (n := 1) (g := 0) (pl := []) rfl hi hX
set_option maxRecDepth 100000 in
theorem e151_163 {X : Nat × (Nat → Int32)} {L : List Value} {t u : Nat} {F : Nat → Nat → Int32} {J : Nat → Int64} {x1 : Int32} {s0 : Value} : q_ex X (151, 163, L, [.int x1, .ref 72, s0], q_w t u F J) = (q_ex X (139, 0, [.ref 72, .int x1], [], q_w t u F J)).bind (fun r => q_ex X (151, 166, L, r.1.toList ++ [s0], r.2)) := g_call (i := (.invokevirtual 17)) (n := 3) (g := 139) (pl := []) rfl rfl
set_option maxRecDepth 100000 in
theorem e151_166 {X : Nat × (Nat → Int32)} {L S : List Value} {w : q_M} {x y : Int32} : q_ex X (151, 166, L, .int y :: .int x :: S, w) = if x = y then q_ex X (151, 825, L, S, w) else q_ex X (151, 169, L, S, w) := g_c2 (i := (.if_icmp .eq 659)) (n := 3) (g := 825) (pl := []) (P := fun x y => x = y) (fun _ _ => inferInstance) rfl rfl
set_option maxRecDepth 100000 in
theorem e151_169 {X : Nat × (Nat → Int32)} {L S : List Value} {w : q_M} : q_ex X (151, 169, L, S, w) = q_ex X (151, 170, L, .int (nI 0) :: S, w) := g_go (i := (.iconst 0)) (n := 1) (g := 0) (pl := []) rfl rfl
set_option maxRecDepth 100000 in
theorem e151_170 {X : Nat × (Nat → Int32)} {L : List Value} {w : q_M} {x : Int32} (hx : x = nI 0 ∨ x = nI 1) : q_ex X (151, 170, L, [.int x], w) = some (some (.int x), w) := g_retZ (n := 1) (g := 0) (pl := []) rfl rfl hx
set_option maxRecDepth 100000 in
theorem e151_171 {X : Nat × (Nat → Int32)} {S : List Value} {w : q_M} {a0 a2 a3 : Value} {x : Nat} : q_ex X (151, 171, [a0, .ref x, a2, a3], S, w) = q_ex X (151, 172, [a0, .ref x, a2, a3], .ref x :: S, w) := g_go (i := (.aload_n 1)) (n := 1) (g := 0) (pl := []) rfl rfl
set_option maxRecDepth 100000 in
theorem e151_172 {X : Nat × (Nat → Int32)} {L : List Value} {t u : Nat} {F : Nat → Nat → Int32} {J : Nat → Int64}   : q_ex X (151, 172, L, [.ref 0], q_w t u F J) = (q_ex X (52, 0, [.ref 0], [], q_w t u F J)).bind (fun r => q_ex X (151, 175, L, r.1.toList ++ [], r.2)) := g_call (i := (.invokevirtual 18)) (n := 3) (g := 52) (pl := []) rfl rfl
set_option maxRecDepth 100000 in
theorem e151_175 {X : Nat × (Nat → Int32)} {S : List Value} {w : q_M} {a0 a1 a3 : Value} {x : Nat} : q_ex X (151, 175, [a0, a1, .ref x, a3], S, w) = q_ex X (151, 176, [a0, a1, .ref x, a3], .ref x :: S, w) := g_go (i := (.aload_n 2)) (n := 1) (g := 0) (pl := []) rfl rfl
set_option maxRecDepth 100000 in
theorem e151_176 {X : Nat × (Nat → Int32)} {L : List Value} {t u : Nat} {F : Nat → Nat → Int32} {J : Nat → Int64}  {s0 : Value} : q_ex X (151, 176, L, [.ref 72, s0], q_w t u F J) = (q_ex X (140, 0, [.ref 72, .null], [], q_w t u F J)).bind (fun r => q_ex X (151, 179, L, r.1.toList ++ [s0], r.2)) := g_call (i := (.invokevirtual 22)) (n := 3) (g := 140) (pl := []) rfl rfl
set_option maxRecDepth 100000 in
theorem e151_179 {X : Nat × (Nat → Int32)} {L S : List Value} {w : q_M} {x y : Int32} : q_ex X (151, 179, L, .int y :: .int x :: S, w) = if x = y then q_ex X (151, 825, L, S, w) else q_ex X (151, 182, L, S, w) := g_c2 (i := (.if_icmp .eq 646)) (n := 3) (g := 825) (pl := []) (P := fun x y => x = y) (fun _ _ => inferInstance) rfl rfl
set_option maxRecDepth 100000 in
theorem e151_182 {X : Nat × (Nat → Int32)} {L S : List Value} {w : q_M} : q_ex X (151, 182, L, S, w) = q_ex X (151, 183, L, .int (nI 0) :: S, w) := g_go (i := (.iconst 0)) (n := 1) (g := 0) (pl := []) rfl rfl
set_option maxRecDepth 100000 in
theorem e151_183 {X : Nat × (Nat → Int32)} {L : List Value} {w : q_M} {x : Int32} (hx : x = nI 0 ∨ x = nI 1) : q_ex X (151, 183, L, [.int x], w) = some (some (.int x), w) := g_retZ (n := 1) (g := 0) (pl := []) rfl rfl hx
set_option maxRecDepth 100000 in
theorem e151_184 {X : Nat × (Nat → Int32)} {S : List Value} {w : q_M} {a0 a2 a3 : Value} {x : Nat} : q_ex X (151, 184, [a0, .ref x, a2, a3], S, w) = q_ex X (151, 185, [a0, .ref x, a2, a3], .ref x :: S, w) := g_go (i := (.aload_n 1)) (n := 1) (g := 0) (pl := []) rfl rfl
set_option maxRecDepth 100000 in
theorem e151_185 {X : Nat × (Nat → Int32)} {L : List Value} {t u : Nat} {F : Nat → Nat → Int32} {J : Nat → Int64}   : q_ex X (151, 185, L, [.ref 0], q_w t u F J) = (q_ex X (53, 0, [.ref 0, .null, .null], [], q_w t u F J)).bind (fun r => q_ex X (151, 188, L, r.1.toList ++ [], r.2)) := g_call (i := (.invokevirtual 23)) (n := 3) (g := 53) (pl := []) rfl rfl
set_option maxRecDepth 100000 in
theorem e151_188 {X : Nat × (Nat → Int32)} {S : List Value} {w : q_M} {a0 a1 a3 : Value} {x : Nat} : q_ex X (151, 188, [a0, a1, .ref x, a3], S, w) = q_ex X (151, 189, [a0, a1, .ref x, a3], .ref x :: S, w) := g_go (i := (.aload_n 2)) (n := 1) (g := 0) (pl := []) rfl rfl
set_option maxRecDepth 100000 in
theorem e151_189 {X : Nat × (Nat → Int32)} {L : List Value} {t u : Nat} {F : Nat → Nat → Int32} {J : Nat → Int64}  {s0 : Value} : q_ex X (151, 189, L, [.ref 72, s0], q_w t u F J) = (q_ex X (147, 0, [.ref 72, .null, .null], [], q_w t u F J)).bind (fun r => q_ex X (151, 192, L, r.1.toList ++ [s0], r.2)) := g_call (i := (.invokevirtual 26)) (n := 3) (g := 147) (pl := []) rfl rfl
set_option maxRecDepth 100000 in
theorem e151_192 {X : Nat × (Nat → Int32)} {L S : List Value} {w : q_M} {x y : Int32} : q_ex X (151, 192, L, .int y :: .int x :: S, w) = if x = y then q_ex X (151, 825, L, S, w) else q_ex X (151, 195, L, S, w) := g_c2 (i := (.if_icmp .eq 633)) (n := 3) (g := 825) (pl := []) (P := fun x y => x = y) (fun _ _ => inferInstance) rfl rfl
set_option maxRecDepth 100000 in
theorem e151_195 {X : Nat × (Nat → Int32)} {L S : List Value} {w : q_M} : q_ex X (151, 195, L, S, w) = q_ex X (151, 196, L, .int (nI 0) :: S, w) := g_go (i := (.iconst 0)) (n := 1) (g := 0) (pl := []) rfl rfl
set_option maxRecDepth 100000 in
theorem e151_196 {X : Nat × (Nat → Int32)} {L : List Value} {w : q_M} {x : Int32} (hx : x = nI 0 ∨ x = nI 1) : q_ex X (151, 196, L, [.int x], w) = some (some (.int x), w) := g_retZ (n := 1) (g := 0) (pl := []) rfl rfl hx
set_option maxRecDepth 100000 in
theorem e151_197 {X : Nat × (Nat → Int32)} {S : List Value} {w : q_M} {a0 a2 a3 : Value} {x : Nat} : q_ex X (151, 197, [a0, .ref x, a2, a3], S, w) = q_ex X (151, 198, [a0, .ref x, a2, a3], .ref x :: S, w) := g_go (i := (.aload_n 1)) (n := 1) (g := 0) (pl := []) rfl rfl
set_option maxRecDepth 100000 in
theorem e151_198 {X : Nat × (Nat → Int32)} {S : List Value} {w : q_M} {a1 a2 a3 : Value} {x : UInt32} : q_ex X (151, 198, [.float x, a1, a2, a3], S, w) = q_ex X (151, 199, [.float x, a1, a2, a3], .float x :: S, w) := g_go (i := (.aload_n 0)) (n := 1) (g := 0) (pl := []) rfl rfl
set_option maxRecDepth 100000 in
theorem e151_199 {X : Nat × (Nat → Int32)} {S : List Value} {w : q_M} {a0 a1 a2 : Value} {x : Int32} : q_ex X (151, 199, [a0, a1, a2, .int x], S, w) = q_ex X (151, 200, [a0, a1, a2, .int x], .int x :: S, w) := g_go (i := (.iload_n 3)) (n := 1) (g := 0) (pl := []) rfl rfl
set_option maxRecDepth 100000 in
theorem e151_200 {X : Nat × (Nat → Int32)} {L S : List Value} {w : q_M} : q_ex X (151, 200, L, S, w) = q_ex X (151, 201, L, .int (nI 1) :: S, w) := g_go (i := (.iconst 1)) (n := 1) (g := 0) (pl := []) rfl rfl
set_option maxRecDepth 100000 in
theorem e151_201 {X : Nat × (Nat → Int32)} {L S : List Value} {w : q_M} {x y : Int32} : q_ex X (151, 201, L, .int y :: .int x :: S, w) = q_ex X (151, 202, L, .int (x + y) :: S, w) := g_go (i := .iadd) (n := 1) (g := 0) (pl := []) rfl rfl
set_option maxRecDepth 100000 in
theorem e151_202 {X : Nat × (Nat → Int32)} {L S : List Value} {w : q_M} {i : Nat} (hi : i < X.1) (hX : X.1 ≤ 100000) : q_ex X (151, 202, L, .int (nI i) :: .float 2 :: S, w) = q_ex X (151, 203, L, .int (X.2 i) :: S, w) := g_xld (v := 2) (n := 1) (g := 0) (pl := []) rfl hi hX
set_option maxRecDepth 100000 in
theorem e151_203 {X : Nat × (Nat → Int32)} {L : List Value} {t u : Nat} {F : Nat → Nat → Int32} {J : Nat → Int64} {x1 : Int32}  : q_ex X (151, 203, L, [.int x1, .ref 0], q_w t u F J) = (q_ex X (54, 0, [.ref 0, .int x1], [], q_w t u F J)).bind (fun r => q_ex X (151, 206, L, r.1.toList ++ [], r.2)) := g_call (i := (.invokevirtual 27)) (n := 3) (g := 54) (pl := []) rfl rfl
set_option maxRecDepth 100000 in
theorem e151_206 {X : Nat × (Nat → Int32)} {S : List Value} {w : q_M} {a0 a1 a3 : Value} {x : Nat} : q_ex X (151, 206, [a0, a1, .ref x, a3], S, w) = q_ex X (151, 207, [a0, a1, .ref x, a3], .ref x :: S, w) := g_go (i := (.aload_n 2)) (n := 1) (g := 0) (pl := []) rfl rfl
set_option maxRecDepth 100000 in
theorem e151_207 {X : Nat × (Nat → Int32)} {S : List Value} {w : q_M} {a1 a2 a3 : Value} {x : UInt32} : q_ex X (151, 207, [.float x, a1, a2, a3], S, w) = q_ex X (151, 208, [.float x, a1, a2, a3], .float x :: S, w) := g_go (i := (.aload_n 0)) (n := 1) (g := 0) (pl := []) rfl rfl
set_option maxRecDepth 100000 in
theorem e151_208 {X : Nat × (Nat → Int32)} {S : List Value} {w : q_M} {a0 a1 a2 : Value} {x : Int32} : q_ex X (151, 208, [a0, a1, a2, .int x], S, w) = q_ex X (151, 209, [a0, a1, a2, .int x], .int x :: S, w) := g_go (i := (.iload_n 3)) (n := 1) (g := 0) (pl := []) rfl rfl
set_option maxRecDepth 100000 in
theorem e151_209 {X : Nat × (Nat → Int32)} {L S : List Value} {w : q_M} : q_ex X (151, 209, L, S, w) = q_ex X (151, 210, L, .int (nI 1) :: S, w) := g_go (i := (.iconst 1)) (n := 1) (g := 0) (pl := []) rfl rfl
set_option maxRecDepth 100000 in
theorem e151_210 {X : Nat × (Nat → Int32)} {L S : List Value} {w : q_M} {x y : Int32} : q_ex X (151, 210, L, .int y :: .int x :: S, w) = q_ex X (151, 211, L, .int (x + y) :: S, w) := g_go (i := .iadd) (n := 1) (g := 0) (pl := []) rfl rfl
set_option maxRecDepth 100000 in
theorem e151_211 {X : Nat × (Nat → Int32)} {L S : List Value} {w : q_M} {i : Nat} (hi : i < X.1) (hX : X.1 ≤ 100000) : q_ex X (151, 211, L, .int (nI i) :: .float 2 :: S, w) = q_ex X (151, 212, L, .int (X.2 i) :: S, w) := g_xld (v := 2) (n := 1) (g := 0) (pl := []) rfl hi hX
set_option maxRecDepth 100000 in
theorem e151_212 {X : Nat × (Nat → Int32)} {L : List Value} {t u : Nat} {F : Nat → Nat → Int32} {J : Nat → Int64} {x1 : Int32} {s0 : Value} : q_ex X (151, 212, L, [.int x1, .ref 72, s0], q_w t u F J) = (q_ex X (96, 0, [.ref 72, .int x1], [], q_w t u F J)).bind (fun r => q_ex X (151, 215, L, r.1.toList ++ [s0], r.2)) := g_call (i := (.invokevirtual 30)) (n := 3) (g := 96) (pl := []) rfl rfl
set_option maxRecDepth 100000 in
theorem e151_215 {X : Nat × (Nat → Int32)} {L S : List Value} {w : q_M} {x y : Int32} : q_ex X (151, 215, L, .int y :: .int x :: S, w) = if x = y then q_ex X (151, 825, L, S, w) else q_ex X (151, 218, L, S, w) := g_c2 (i := (.if_icmp .eq 610)) (n := 3) (g := 825) (pl := []) (P := fun x y => x = y) (fun _ _ => inferInstance) rfl rfl
set_option maxRecDepth 100000 in
theorem e151_218 {X : Nat × (Nat → Int32)} {L S : List Value} {w : q_M} : q_ex X (151, 218, L, S, w) = q_ex X (151, 219, L, .int (nI 0) :: S, w) := g_go (i := (.iconst 0)) (n := 1) (g := 0) (pl := []) rfl rfl
set_option maxRecDepth 100000 in
theorem e151_219 {X : Nat × (Nat → Int32)} {L : List Value} {w : q_M} {x : Int32} (hx : x = nI 0 ∨ x = nI 1) : q_ex X (151, 219, L, [.int x], w) = some (some (.int x), w) := g_retZ (n := 1) (g := 0) (pl := []) rfl rfl hx
set_option maxRecDepth 100000 in
theorem e151_220 {X : Nat × (Nat → Int32)} {S : List Value} {w : q_M} {a0 a2 a3 : Value} {x : Nat} : q_ex X (151, 220, [a0, .ref x, a2, a3], S, w) = q_ex X (151, 221, [a0, .ref x, a2, a3], .ref x :: S, w) := g_go (i := (.aload_n 1)) (n := 1) (g := 0) (pl := []) rfl rfl
set_option maxRecDepth 100000 in
theorem e151_221 {X : Nat × (Nat → Int32)} {S : List Value} {w : q_M} {a1 a2 a3 : Value} {x : UInt32} : q_ex X (151, 221, [.float x, a1, a2, a3], S, w) = q_ex X (151, 222, [.float x, a1, a2, a3], .float x :: S, w) := g_go (i := (.aload_n 0)) (n := 1) (g := 0) (pl := []) rfl rfl
set_option maxRecDepth 100000 in
theorem e151_222 {X : Nat × (Nat → Int32)} {S : List Value} {w : q_M} {a0 a1 a2 : Value} {x : Int32} : q_ex X (151, 222, [a0, a1, a2, .int x], S, w) = q_ex X (151, 223, [a0, a1, a2, .int x], .int x :: S, w) := g_go (i := (.iload_n 3)) (n := 1) (g := 0) (pl := []) rfl rfl
set_option maxRecDepth 100000 in
theorem e151_223 {X : Nat × (Nat → Int32)} {L S : List Value} {w : q_M} : q_ex X (151, 223, L, S, w) = q_ex X (151, 224, L, .int (nI 1) :: S, w) := g_go (i := (.iconst 1)) (n := 1) (g := 0) (pl := []) rfl rfl
set_option maxRecDepth 100000 in
theorem e151_224 {X : Nat × (Nat → Int32)} {L S : List Value} {w : q_M} {x y : Int32} : q_ex X (151, 224, L, .int y :: .int x :: S, w) = q_ex X (151, 225, L, .int (x + y) :: S, w) := g_go (i := .iadd) (n := 1) (g := 0) (pl := []) rfl rfl
set_option maxRecDepth 100000 in
theorem e151_225 {X : Nat × (Nat → Int32)} {L S : List Value} {w : q_M} {i : Nat} (hi : i < X.1) (hX : X.1 ≤ 100000) : q_ex X (151, 225, L, .int (nI i) :: .float 2 :: S, w) = q_ex X (151, 226, L, .int (X.2 i) :: S, w) := g_xld (v := 2) (n := 1) (g := 0) (pl := []) rfl hi hX
set_option maxRecDepth 100000 in
theorem e151_226 {X : Nat × (Nat → Int32)} {L : List Value} {t u : Nat} {F : Nat → Nat → Int32} {J : Nat → Int64} {x1 : Int32}  : q_ex X (151, 226, L, [.int x1, .ref 0], q_w t u F J) = (q_ex X (55, 0, [.ref 0, .int x1, .null], [], q_w t u F J)).bind (fun r => q_ex X (151, 229, L, r.1.toList ++ [], r.2)) := g_call (i := (.invokevirtual 31)) (n := 3) (g := 55) (pl := []) rfl rfl
set_option maxRecDepth 100000 in
theorem e151_229 {X : Nat × (Nat → Int32)} {S : List Value} {w : q_M} {a0 a1 a3 : Value} {x : Nat} : q_ex X (151, 229, [a0, a1, .ref x, a3], S, w) = q_ex X (151, 230, [a0, a1, .ref x, a3], .ref x :: S, w) := g_go (i := (.aload_n 2)) (n := 1) (g := 0) (pl := []) rfl rfl
set_option maxRecDepth 100000 in
theorem e151_230 {X : Nat × (Nat → Int32)} {S : List Value} {w : q_M} {a1 a2 a3 : Value} {x : UInt32} : q_ex X (151, 230, [.float x, a1, a2, a3], S, w) = q_ex X (151, 231, [.float x, a1, a2, a3], .float x :: S, w) := g_go (i := (.aload_n 0)) (n := 1) (g := 0) (pl := []) rfl rfl
set_option maxRecDepth 100000 in
theorem e151_231 {X : Nat × (Nat → Int32)} {S : List Value} {w : q_M} {a0 a1 a2 : Value} {x : Int32} : q_ex X (151, 231, [a0, a1, a2, .int x], S, w) = q_ex X (151, 232, [a0, a1, a2, .int x], .int x :: S, w) := g_go (i := (.iload_n 3)) (n := 1) (g := 0) (pl := []) rfl rfl
set_option maxRecDepth 100000 in
theorem e151_232 {X : Nat × (Nat → Int32)} {L S : List Value} {w : q_M} : q_ex X (151, 232, L, S, w) = q_ex X (151, 233, L, .int (nI 1) :: S, w) := g_go (i := (.iconst 1)) (n := 1) (g := 0) (pl := []) rfl rfl
set_option maxRecDepth 100000 in
theorem e151_233 {X : Nat × (Nat → Int32)} {L S : List Value} {w : q_M} {x y : Int32} : q_ex X (151, 233, L, .int y :: .int x :: S, w) = q_ex X (151, 234, L, .int (x + y) :: S, w) := g_go (i := .iadd) (n := 1) (g := 0) (pl := []) rfl rfl
set_option maxRecDepth 100000 in
theorem e151_234 {X : Nat × (Nat → Int32)} {L S : List Value} {w : q_M} {i : Nat} (hi : i < X.1) (hX : X.1 ≤ 100000) : q_ex X (151, 234, L, .int (nI i) :: .float 2 :: S, w) = q_ex X (151, 235, L, .int (X.2 i) :: S, w) := g_xld (v := 2) (n := 1) (g := 0) (pl := []) rfl hi hX
set_option maxRecDepth 100000 in
theorem e151_235 {X : Nat × (Nat → Int32)} {L : List Value} {t u : Nat} {F : Nat → Nat → Int32} {J : Nat → Int64} {x1 : Int32} {s0 : Value} : q_ex X (151, 235, L, [.int x1, .ref 72, s0], q_w t u F J) = (q_ex X (97, 0, [.ref 72, .int x1], [], q_w t u F J)).bind (fun r => q_ex X (151, 238, L, r.1.toList ++ [s0], r.2)) := g_call (i := (.invokevirtual 34)) (n := 3) (g := 97) (pl := []) rfl rfl
set_option maxRecDepth 100000 in
theorem e151_238 {X : Nat × (Nat → Int32)} {L S : List Value} {w : q_M} {x y : Int32} : q_ex X (151, 238, L, .int y :: .int x :: S, w) = if x = y then q_ex X (151, 825, L, S, w) else q_ex X (151, 241, L, S, w) := g_c2 (i := (.if_icmp .eq 587)) (n := 3) (g := 825) (pl := []) (P := fun x y => x = y) (fun _ _ => inferInstance) rfl rfl
set_option maxRecDepth 100000 in
theorem e151_241 {X : Nat × (Nat → Int32)} {L S : List Value} {w : q_M} : q_ex X (151, 241, L, S, w) = q_ex X (151, 242, L, .int (nI 0) :: S, w) := g_go (i := (.iconst 0)) (n := 1) (g := 0) (pl := []) rfl rfl
set_option maxRecDepth 100000 in
theorem e151_242 {X : Nat × (Nat → Int32)} {L : List Value} {w : q_M} {x : Int32} (hx : x = nI 0 ∨ x = nI 1) : q_ex X (151, 242, L, [.int x], w) = some (some (.int x), w) := g_retZ (n := 1) (g := 0) (pl := []) rfl rfl hx
set_option maxRecDepth 100000 in
theorem e151_243 {X : Nat × (Nat → Int32)} {S : List Value} {w : q_M} {a0 a2 a3 : Value} {x : Nat} : q_ex X (151, 243, [a0, .ref x, a2, a3], S, w) = q_ex X (151, 244, [a0, .ref x, a2, a3], .ref x :: S, w) := g_go (i := (.aload_n 1)) (n := 1) (g := 0) (pl := []) rfl rfl
set_option maxRecDepth 100000 in
theorem e151_244 {X : Nat × (Nat → Int32)} {S : List Value} {w : q_M} {a1 a2 a3 : Value} {x : UInt32} : q_ex X (151, 244, [.float x, a1, a2, a3], S, w) = q_ex X (151, 245, [.float x, a1, a2, a3], .float x :: S, w) := g_go (i := (.aload_n 0)) (n := 1) (g := 0) (pl := []) rfl rfl
set_option maxRecDepth 100000 in
theorem e151_245 {X : Nat × (Nat → Int32)} {S : List Value} {w : q_M} {a0 a1 a2 : Value} {x : Int32} : q_ex X (151, 245, [a0, a1, a2, .int x], S, w) = q_ex X (151, 246, [a0, a1, a2, .int x], .int x :: S, w) := g_go (i := (.iload_n 3)) (n := 1) (g := 0) (pl := []) rfl rfl
set_option maxRecDepth 100000 in
theorem e151_246 {X : Nat × (Nat → Int32)} {L S : List Value} {w : q_M} : q_ex X (151, 246, L, S, w) = q_ex X (151, 247, L, .int (nI 1) :: S, w) := g_go (i := (.iconst 1)) (n := 1) (g := 0) (pl := []) rfl rfl
set_option maxRecDepth 100000 in
theorem e151_247 {X : Nat × (Nat → Int32)} {L S : List Value} {w : q_M} {x y : Int32} : q_ex X (151, 247, L, .int y :: .int x :: S, w) = q_ex X (151, 248, L, .int (x + y) :: S, w) := g_go (i := .iadd) (n := 1) (g := 0) (pl := []) rfl rfl
set_option maxRecDepth 100000 in
theorem e151_248 {X : Nat × (Nat → Int32)} {L S : List Value} {w : q_M} {i : Nat} (hi : i < X.1) (hX : X.1 ≤ 100000) : q_ex X (151, 248, L, .int (nI i) :: .float 2 :: S, w) = q_ex X (151, 249, L, .int (X.2 i) :: S, w) := g_xld (v := 2) (n := 1) (g := 0) (pl := []) rfl hi hX
set_option maxRecDepth 100000 in
theorem e151_249 {X : Nat × (Nat → Int32)} {S : List Value} {w : q_M} {a1 a2 a3 : Value} {x : UInt32} : q_ex X (151, 249, [.float x, a1, a2, a3], S, w) = q_ex X (151, 250, [.float x, a1, a2, a3], .float x :: S, w) := g_go (i := (.aload_n 0)) (n := 1) (g := 0) (pl := []) rfl rfl
set_option maxRecDepth 100000 in
theorem e151_250 {X : Nat × (Nat → Int32)} {S : List Value} {w : q_M} {a0 a1 a2 : Value} {x : Int32} : q_ex X (151, 250, [a0, a1, a2, .int x], S, w) = q_ex X (151, 251, [a0, a1, a2, .int x], .int x :: S, w) := g_go (i := (.iload_n 3)) (n := 1) (g := 0) (pl := []) rfl rfl
set_option maxRecDepth 100000 in
theorem e151_251 {X : Nat × (Nat → Int32)} {L S : List Value} {w : q_M} : q_ex X (151, 251, L, S, w) = q_ex X (151, 252, L, .int (nI 2) :: S, w) := g_go (i := (.iconst 2)) (n := 1) (g := 0) (pl := []) rfl rfl
set_option maxRecDepth 100000 in
theorem e151_252 {X : Nat × (Nat → Int32)} {L S : List Value} {w : q_M} {x y : Int32} : q_ex X (151, 252, L, .int y :: .int x :: S, w) = q_ex X (151, 253, L, .int (x + y) :: S, w) := g_go (i := .iadd) (n := 1) (g := 0) (pl := []) rfl rfl
set_option maxRecDepth 100000 in
theorem e151_253 {X : Nat × (Nat → Int32)} {L S : List Value} {w : q_M} {i : Nat} (hi : i < X.1) (hX : X.1 ≤ 100000) : q_ex X (151, 253, L, .int (nI i) :: .float 2 :: S, w) = q_ex X (151, 254, L, .int (X.2 i) :: S, w) := g_xld (v := 2) (n := 1) (g := 0) (pl := []) rfl hi hX
set_option maxRecDepth 100000 in
theorem e151_254 {X : Nat × (Nat → Int32)} {S : List Value} {w : q_M} {a1 a2 a3 : Value} {x : UInt32} : q_ex X (151, 254, [.float x, a1, a2, a3], S, w) = q_ex X (151, 255, [.float x, a1, a2, a3], .float x :: S, w) := g_go (i := (.aload_n 0)) (n := 1) (g := 0) (pl := []) rfl rfl
set_option maxRecDepth 100000 in
theorem e151_255 {X : Nat × (Nat → Int32)} {S : List Value} {w : q_M} {a0 a1 a2 : Value} {x : Int32} : q_ex X (151, 255, [a0, a1, a2, .int x], S, w) = q_ex X (151, 256, [a0, a1, a2, .int x], .int x :: S, w) := g_go (i := (.iload_n 3)) (n := 1) (g := 0) (pl := []) rfl rfl
set_option maxRecDepth 100000 in
theorem e151_256 {X : Nat × (Nat → Int32)} {L S : List Value} {w : q_M} : q_ex X (151, 256, L, S, w) = q_ex X (151, 257, L, .int (nI 3) :: S, w) := g_go (i := (.iconst 3)) (n := 1) (g := 0) (pl := []) rfl rfl
set_option maxRecDepth 100000 in
theorem e151_257 {X : Nat × (Nat → Int32)} {L S : List Value} {w : q_M} {x y : Int32} : q_ex X (151, 257, L, .int y :: .int x :: S, w) = q_ex X (151, 258, L, .int (x + y) :: S, w) := g_go (i := .iadd) (n := 1) (g := 0) (pl := []) rfl rfl
set_option maxRecDepth 100000 in
theorem e151_258 {X : Nat × (Nat → Int32)} {L S : List Value} {w : q_M} {i : Nat} (hi : i < X.1) (hX : X.1 ≤ 100000) : q_ex X (151, 258, L, .int (nI i) :: .float 2 :: S, w) = q_ex X (151, 259, L, .int (X.2 i) :: S, w) := g_xld (v := 2) (n := 1) (g := 0) (pl := []) rfl hi hX
set_option maxRecDepth 100000 in
theorem e151_259 {X : Nat × (Nat → Int32)} {L : List Value} {t u : Nat} {F : Nat → Nat → Int32} {J : Nat → Int64} {x1 : Int32} {x2 : Int32} {x3 : Int32}  : q_ex X (151, 259, L, [.int x3, .int x2, .int x1, .ref 0], q_w t u F J) = (q_ex X (56, 0, [.ref 0, .int x1, .int x2, .int x3, .null], [], q_w t u F J)).bind (fun r => q_ex X (151, 262, L, r.1.toList ++ [], r.2)) := g_call (i := (.invokevirtual 35)) (n := 3) (g := 56) (pl := []) rfl rfl
set_option maxRecDepth 100000 in
theorem e151_262 {X : Nat × (Nat → Int32)} {S : List Value} {w : q_M} {a0 a1 a3 : Value} {x : Nat} : q_ex X (151, 262, [a0, a1, .ref x, a3], S, w) = q_ex X (151, 263, [a0, a1, .ref x, a3], .ref x :: S, w) := g_go (i := (.aload_n 2)) (n := 1) (g := 0) (pl := []) rfl rfl
set_option maxRecDepth 100000 in
theorem e151_263 {X : Nat × (Nat → Int32)} {S : List Value} {w : q_M} {a1 a2 a3 : Value} {x : UInt32} : q_ex X (151, 263, [.float x, a1, a2, a3], S, w) = q_ex X (151, 264, [.float x, a1, a2, a3], .float x :: S, w) := g_go (i := (.aload_n 0)) (n := 1) (g := 0) (pl := []) rfl rfl
set_option maxRecDepth 100000 in
theorem e151_264 {X : Nat × (Nat → Int32)} {S : List Value} {w : q_M} {a0 a1 a2 : Value} {x : Int32} : q_ex X (151, 264, [a0, a1, a2, .int x], S, w) = q_ex X (151, 265, [a0, a1, a2, .int x], .int x :: S, w) := g_go (i := (.iload_n 3)) (n := 1) (g := 0) (pl := []) rfl rfl
set_option maxRecDepth 100000 in
theorem e151_265 {X : Nat × (Nat → Int32)} {L S : List Value} {w : q_M} : q_ex X (151, 265, L, S, w) = q_ex X (151, 266, L, .int (nI 1) :: S, w) := g_go (i := (.iconst 1)) (n := 1) (g := 0) (pl := []) rfl rfl
set_option maxRecDepth 100000 in
theorem e151_266 {X : Nat × (Nat → Int32)} {L S : List Value} {w : q_M} {x y : Int32} : q_ex X (151, 266, L, .int y :: .int x :: S, w) = q_ex X (151, 267, L, .int (x + y) :: S, w) := g_go (i := .iadd) (n := 1) (g := 0) (pl := []) rfl rfl
set_option maxRecDepth 100000 in
theorem e151_267 {X : Nat × (Nat → Int32)} {L S : List Value} {w : q_M} {i : Nat} (hi : i < X.1) (hX : X.1 ≤ 100000) : q_ex X (151, 267, L, .int (nI i) :: .float 2 :: S, w) = q_ex X (151, 268, L, .int (X.2 i) :: S, w) := g_xld (v := 2) (n := 1) (g := 0) (pl := []) rfl hi hX
set_option maxRecDepth 100000 in
theorem e151_268 {X : Nat × (Nat → Int32)} {S : List Value} {w : q_M} {a1 a2 a3 : Value} {x : UInt32} : q_ex X (151, 268, [.float x, a1, a2, a3], S, w) = q_ex X (151, 269, [.float x, a1, a2, a3], .float x :: S, w) := g_go (i := (.aload_n 0)) (n := 1) (g := 0) (pl := []) rfl rfl
set_option maxRecDepth 100000 in
theorem e151_269 {X : Nat × (Nat → Int32)} {S : List Value} {w : q_M} {a0 a1 a2 : Value} {x : Int32} : q_ex X (151, 269, [a0, a1, a2, .int x], S, w) = q_ex X (151, 270, [a0, a1, a2, .int x], .int x :: S, w) := g_go (i := (.iload_n 3)) (n := 1) (g := 0) (pl := []) rfl rfl
set_option maxRecDepth 100000 in
theorem e151_270 {X : Nat × (Nat → Int32)} {L S : List Value} {w : q_M} : q_ex X (151, 270, L, S, w) = q_ex X (151, 271, L, .int (nI 2) :: S, w) := g_go (i := (.iconst 2)) (n := 1) (g := 0) (pl := []) rfl rfl
set_option maxRecDepth 100000 in
theorem e151_271 {X : Nat × (Nat → Int32)} {L S : List Value} {w : q_M} {x y : Int32} : q_ex X (151, 271, L, .int y :: .int x :: S, w) = q_ex X (151, 272, L, .int (x + y) :: S, w) := g_go (i := .iadd) (n := 1) (g := 0) (pl := []) rfl rfl
set_option maxRecDepth 100000 in
theorem e151_272 {X : Nat × (Nat → Int32)} {L S : List Value} {w : q_M} {i : Nat} (hi : i < X.1) (hX : X.1 ≤ 100000) : q_ex X (151, 272, L, .int (nI i) :: .float 2 :: S, w) = q_ex X (151, 273, L, .int (X.2 i) :: S, w) := g_xld (v := 2) (n := 1) (g := 0) (pl := []) rfl hi hX
set_option maxRecDepth 100000 in
theorem e151_273 {X : Nat × (Nat → Int32)} {S : List Value} {w : q_M} {a1 a2 a3 : Value} {x : UInt32} : q_ex X (151, 273, [.float x, a1, a2, a3], S, w) = q_ex X (151, 274, [.float x, a1, a2, a3], .float x :: S, w) := g_go (i := (.aload_n 0)) (n := 1) (g := 0) (pl := []) rfl rfl
set_option maxRecDepth 100000 in
theorem e151_274 {X : Nat × (Nat → Int32)} {S : List Value} {w : q_M} {a0 a1 a2 : Value} {x : Int32} : q_ex X (151, 274, [a0, a1, a2, .int x], S, w) = q_ex X (151, 275, [a0, a1, a2, .int x], .int x :: S, w) := g_go (i := (.iload_n 3)) (n := 1) (g := 0) (pl := []) rfl rfl
set_option maxRecDepth 100000 in
theorem e151_275 {X : Nat × (Nat → Int32)} {L S : List Value} {w : q_M} : q_ex X (151, 275, L, S, w) = q_ex X (151, 276, L, .int (nI 3) :: S, w) := g_go (i := (.iconst 3)) (n := 1) (g := 0) (pl := []) rfl rfl
set_option maxRecDepth 100000 in
theorem e151_276 {X : Nat × (Nat → Int32)} {L S : List Value} {w : q_M} {x y : Int32} : q_ex X (151, 276, L, .int y :: .int x :: S, w) = q_ex X (151, 277, L, .int (x + y) :: S, w) := g_go (i := .iadd) (n := 1) (g := 0) (pl := []) rfl rfl
set_option maxRecDepth 100000 in
theorem e151_277 {X : Nat × (Nat → Int32)} {L S : List Value} {w : q_M} {i : Nat} (hi : i < X.1) (hX : X.1 ≤ 100000) : q_ex X (151, 277, L, .int (nI i) :: .float 2 :: S, w) = q_ex X (151, 278, L, .int (X.2 i) :: S, w) := g_xld (v := 2) (n := 1) (g := 0) (pl := []) rfl hi hX
set_option maxRecDepth 100000 in
theorem e151_278 {X : Nat × (Nat → Int32)} {L : List Value} {t u : Nat} {F : Nat → Nat → Int32} {J : Nat → Int64} {x1 : Int32} {x2 : Int32} {x3 : Int32} {s0 : Value} : q_ex X (151, 278, L, [.int x3, .int x2, .int x1, .ref 72, s0], q_w t u F J) = (q_ex X (98, 0, [.ref 72, .int x1, .int x2, .int x3, .null], [], q_w t u F J)).bind (fun r => q_ex X (151, 281, L, r.1.toList ++ [s0], r.2)) := g_call (i := (.invokevirtual 39)) (n := 3) (g := 98) (pl := []) rfl rfl
set_option maxRecDepth 100000 in
theorem e151_281 {X : Nat × (Nat → Int32)} {L S : List Value} {w : q_M} {x y : Int32} : q_ex X (151, 281, L, .int y :: .int x :: S, w) = if x = y then q_ex X (151, 825, L, S, w) else q_ex X (151, 284, L, S, w) := g_c2 (i := (.if_icmp .eq 544)) (n := 3) (g := 825) (pl := []) (P := fun x y => x = y) (fun _ _ => inferInstance) rfl rfl
set_option maxRecDepth 100000 in
theorem e151_284 {X : Nat × (Nat → Int32)} {L S : List Value} {w : q_M} : q_ex X (151, 284, L, S, w) = q_ex X (151, 285, L, .int (nI 0) :: S, w) := g_go (i := (.iconst 0)) (n := 1) (g := 0) (pl := []) rfl rfl
set_option maxRecDepth 100000 in
theorem e151_285 {X : Nat × (Nat → Int32)} {L : List Value} {w : q_M} {x : Int32} (hx : x = nI 0 ∨ x = nI 1) : q_ex X (151, 285, L, [.int x], w) = some (some (.int x), w) := g_retZ (n := 1) (g := 0) (pl := []) rfl rfl hx
set_option maxRecDepth 100000 in
theorem e151_286 {X : Nat × (Nat → Int32)} {S : List Value} {w : q_M} {a0 a2 a3 : Value} {x : Nat} : q_ex X (151, 286, [a0, .ref x, a2, a3], S, w) = q_ex X (151, 287, [a0, .ref x, a2, a3], .ref x :: S, w) := g_go (i := (.aload_n 1)) (n := 1) (g := 0) (pl := []) rfl rfl
set_option maxRecDepth 100000 in
theorem e151_287 {X : Nat × (Nat → Int32)} {S : List Value} {w : q_M} {a1 a2 a3 : Value} {x : UInt32} : q_ex X (151, 287, [.float x, a1, a2, a3], S, w) = q_ex X (151, 288, [.float x, a1, a2, a3], .float x :: S, w) := g_go (i := (.aload_n 0)) (n := 1) (g := 0) (pl := []) rfl rfl
set_option maxRecDepth 100000 in
theorem e151_288 {X : Nat × (Nat → Int32)} {S : List Value} {w : q_M} {a0 a1 a2 : Value} {x : Int32} : q_ex X (151, 288, [a0, a1, a2, .int x], S, w) = q_ex X (151, 289, [a0, a1, a2, .int x], .int x :: S, w) := g_go (i := (.iload_n 3)) (n := 1) (g := 0) (pl := []) rfl rfl
set_option maxRecDepth 100000 in
theorem e151_289 {X : Nat × (Nat → Int32)} {L S : List Value} {w : q_M} : q_ex X (151, 289, L, S, w) = q_ex X (151, 290, L, .int (nI 1) :: S, w) := g_go (i := (.iconst 1)) (n := 1) (g := 0) (pl := []) rfl rfl
set_option maxRecDepth 100000 in
theorem e151_290 {X : Nat × (Nat → Int32)} {L S : List Value} {w : q_M} {x y : Int32} : q_ex X (151, 290, L, .int y :: .int x :: S, w) = q_ex X (151, 291, L, .int (x + y) :: S, w) := g_go (i := .iadd) (n := 1) (g := 0) (pl := []) rfl rfl
set_option maxRecDepth 100000 in
theorem e151_291 {X : Nat × (Nat → Int32)} {L S : List Value} {w : q_M} {i : Nat} (hi : i < X.1) (hX : X.1 ≤ 100000) : q_ex X (151, 291, L, .int (nI i) :: .float 2 :: S, w) = q_ex X (151, 292, L, .int (X.2 i) :: S, w) := g_xld (v := 2) (n := 1) (g := 0) (pl := []) rfl hi hX
set_option maxRecDepth 100000 in
theorem e151_292 {X : Nat × (Nat → Int32)} {S : List Value} {w : q_M} {a1 a2 a3 : Value} {x : UInt32} : q_ex X (151, 292, [.float x, a1, a2, a3], S, w) = q_ex X (151, 293, [.float x, a1, a2, a3], .float x :: S, w) := g_go (i := (.aload_n 0)) (n := 1) (g := 0) (pl := []) rfl rfl
set_option maxRecDepth 100000 in
theorem e151_293 {X : Nat × (Nat → Int32)} {S : List Value} {w : q_M} {a0 a1 a2 : Value} {x : Int32} : q_ex X (151, 293, [a0, a1, a2, .int x], S, w) = q_ex X (151, 294, [a0, a1, a2, .int x], .int x :: S, w) := g_go (i := (.iload_n 3)) (n := 1) (g := 0) (pl := []) rfl rfl
set_option maxRecDepth 100000 in
theorem e151_294 {X : Nat × (Nat → Int32)} {L S : List Value} {w : q_M} : q_ex X (151, 294, L, S, w) = q_ex X (151, 295, L, .int (nI 2) :: S, w) := g_go (i := (.iconst 2)) (n := 1) (g := 0) (pl := []) rfl rfl
set_option maxRecDepth 100000 in
theorem e151_295 {X : Nat × (Nat → Int32)} {L S : List Value} {w : q_M} {x y : Int32} : q_ex X (151, 295, L, .int y :: .int x :: S, w) = q_ex X (151, 296, L, .int (x + y) :: S, w) := g_go (i := .iadd) (n := 1) (g := 0) (pl := []) rfl rfl
set_option maxRecDepth 100000 in
theorem e151_296 {X : Nat × (Nat → Int32)} {L S : List Value} {w : q_M} {i : Nat} (hi : i < X.1) (hX : X.1 ≤ 100000) : q_ex X (151, 296, L, .int (nI i) :: .float 2 :: S, w) = q_ex X (151, 297, L, .int (X.2 i) :: S, w) := g_xld (v := 2) (n := 1) (g := 0) (pl := []) rfl hi hX
set_option maxRecDepth 100000 in
theorem e151_297 {X : Nat × (Nat → Int32)} {S : List Value} {w : q_M} {a1 a2 a3 : Value} {x : UInt32} : q_ex X (151, 297, [.float x, a1, a2, a3], S, w) = q_ex X (151, 298, [.float x, a1, a2, a3], .float x :: S, w) := g_go (i := (.aload_n 0)) (n := 1) (g := 0) (pl := []) rfl rfl
set_option maxRecDepth 100000 in
theorem e151_298 {X : Nat × (Nat → Int32)} {S : List Value} {w : q_M} {a0 a1 a2 : Value} {x : Int32} : q_ex X (151, 298, [a0, a1, a2, .int x], S, w) = q_ex X (151, 299, [a0, a1, a2, .int x], .int x :: S, w) := g_go (i := (.iload_n 3)) (n := 1) (g := 0) (pl := []) rfl rfl
set_option maxRecDepth 100000 in
theorem e151_299 {X : Nat × (Nat → Int32)} {L S : List Value} {w : q_M} : q_ex X (151, 299, L, S, w) = q_ex X (151, 300, L, .int (nI 3) :: S, w) := g_go (i := (.iconst 3)) (n := 1) (g := 0) (pl := []) rfl rfl
set_option maxRecDepth 100000 in
theorem e151_300 {X : Nat × (Nat → Int32)} {L S : List Value} {w : q_M} {x y : Int32} : q_ex X (151, 300, L, .int y :: .int x :: S, w) = q_ex X (151, 301, L, .int (x + y) :: S, w) := g_go (i := .iadd) (n := 1) (g := 0) (pl := []) rfl rfl
set_option maxRecDepth 100000 in
theorem e151_301 {X : Nat × (Nat → Int32)} {L S : List Value} {w : q_M} {i : Nat} (hi : i < X.1) (hX : X.1 ≤ 100000) : q_ex X (151, 301, L, .int (nI i) :: .float 2 :: S, w) = q_ex X (151, 302, L, .int (X.2 i) :: S, w) := g_xld (v := 2) (n := 1) (g := 0) (pl := []) rfl hi hX
set_option maxRecDepth 100000 in
theorem e151_302 {X : Nat × (Nat → Int32)} {L : List Value} {t u : Nat} {F : Nat → Nat → Int32} {J : Nat → Int64} {x1 : Int32} {x2 : Int32} {x3 : Int32}  : q_ex X (151, 302, L, [.int x3, .int x2, .int x1, .ref 0], q_w t u F J) = (q_ex X (57, 0, [.ref 0, .int x1, .int x2, .int x3, .null], [], q_w t u F J)).bind (fun r => q_ex X (151, 305, L, r.1.toList ++ [], r.2)) := g_call (i := (.invokevirtual 40)) (n := 3) (g := 57) (pl := []) rfl rfl
set_option maxRecDepth 100000 in
theorem e151_305 {X : Nat × (Nat → Int32)} {S : List Value} {w : q_M} {a0 a1 a3 : Value} {x : Nat} : q_ex X (151, 305, [a0, a1, .ref x, a3], S, w) = q_ex X (151, 306, [a0, a1, .ref x, a3], .ref x :: S, w) := g_go (i := (.aload_n 2)) (n := 1) (g := 0) (pl := []) rfl rfl
set_option maxRecDepth 100000 in
theorem e151_306 {X : Nat × (Nat → Int32)} {S : List Value} {w : q_M} {a1 a2 a3 : Value} {x : UInt32} : q_ex X (151, 306, [.float x, a1, a2, a3], S, w) = q_ex X (151, 307, [.float x, a1, a2, a3], .float x :: S, w) := g_go (i := (.aload_n 0)) (n := 1) (g := 0) (pl := []) rfl rfl
set_option maxRecDepth 100000 in
theorem e151_307 {X : Nat × (Nat → Int32)} {S : List Value} {w : q_M} {a0 a1 a2 : Value} {x : Int32} : q_ex X (151, 307, [a0, a1, a2, .int x], S, w) = q_ex X (151, 308, [a0, a1, a2, .int x], .int x :: S, w) := g_go (i := (.iload_n 3)) (n := 1) (g := 0) (pl := []) rfl rfl
set_option maxRecDepth 100000 in
theorem e151_308 {X : Nat × (Nat → Int32)} {L S : List Value} {w : q_M} : q_ex X (151, 308, L, S, w) = q_ex X (151, 309, L, .int (nI 1) :: S, w) := g_go (i := (.iconst 1)) (n := 1) (g := 0) (pl := []) rfl rfl
set_option maxRecDepth 100000 in
theorem e151_309 {X : Nat × (Nat → Int32)} {L S : List Value} {w : q_M} {x y : Int32} : q_ex X (151, 309, L, .int y :: .int x :: S, w) = q_ex X (151, 310, L, .int (x + y) :: S, w) := g_go (i := .iadd) (n := 1) (g := 0) (pl := []) rfl rfl
set_option maxRecDepth 100000 in
theorem e151_310 {X : Nat × (Nat → Int32)} {L S : List Value} {w : q_M} {i : Nat} (hi : i < X.1) (hX : X.1 ≤ 100000) : q_ex X (151, 310, L, .int (nI i) :: .float 2 :: S, w) = q_ex X (151, 311, L, .int (X.2 i) :: S, w) := g_xld (v := 2) (n := 1) (g := 0) (pl := []) rfl hi hX
set_option maxRecDepth 100000 in
theorem e151_311 {X : Nat × (Nat → Int32)} {S : List Value} {w : q_M} {a1 a2 a3 : Value} {x : UInt32} : q_ex X (151, 311, [.float x, a1, a2, a3], S, w) = q_ex X (151, 312, [.float x, a1, a2, a3], .float x :: S, w) := g_go (i := (.aload_n 0)) (n := 1) (g := 0) (pl := []) rfl rfl
set_option maxRecDepth 100000 in
theorem e151_312 {X : Nat × (Nat → Int32)} {S : List Value} {w : q_M} {a0 a1 a2 : Value} {x : Int32} : q_ex X (151, 312, [a0, a1, a2, .int x], S, w) = q_ex X (151, 313, [a0, a1, a2, .int x], .int x :: S, w) := g_go (i := (.iload_n 3)) (n := 1) (g := 0) (pl := []) rfl rfl
set_option maxRecDepth 100000 in
theorem e151_313 {X : Nat × (Nat → Int32)} {L S : List Value} {w : q_M} : q_ex X (151, 313, L, S, w) = q_ex X (151, 314, L, .int (nI 2) :: S, w) := g_go (i := (.iconst 2)) (n := 1) (g := 0) (pl := []) rfl rfl
set_option maxRecDepth 100000 in
theorem e151_314 {X : Nat × (Nat → Int32)} {L S : List Value} {w : q_M} {x y : Int32} : q_ex X (151, 314, L, .int y :: .int x :: S, w) = q_ex X (151, 315, L, .int (x + y) :: S, w) := g_go (i := .iadd) (n := 1) (g := 0) (pl := []) rfl rfl
set_option maxRecDepth 100000 in
theorem e151_315 {X : Nat × (Nat → Int32)} {L S : List Value} {w : q_M} {i : Nat} (hi : i < X.1) (hX : X.1 ≤ 100000) : q_ex X (151, 315, L, .int (nI i) :: .float 2 :: S, w) = q_ex X (151, 316, L, .int (X.2 i) :: S, w) := g_xld (v := 2) (n := 1) (g := 0) (pl := []) rfl hi hX
set_option maxRecDepth 100000 in
theorem e151_316 {X : Nat × (Nat → Int32)} {S : List Value} {w : q_M} {a1 a2 a3 : Value} {x : UInt32} : q_ex X (151, 316, [.float x, a1, a2, a3], S, w) = q_ex X (151, 317, [.float x, a1, a2, a3], .float x :: S, w) := g_go (i := (.aload_n 0)) (n := 1) (g := 0) (pl := []) rfl rfl
set_option maxRecDepth 100000 in
theorem e151_317 {X : Nat × (Nat → Int32)} {S : List Value} {w : q_M} {a0 a1 a2 : Value} {x : Int32} : q_ex X (151, 317, [a0, a1, a2, .int x], S, w) = q_ex X (151, 318, [a0, a1, a2, .int x], .int x :: S, w) := g_go (i := (.iload_n 3)) (n := 1) (g := 0) (pl := []) rfl rfl
set_option maxRecDepth 100000 in
theorem e151_318 {X : Nat × (Nat → Int32)} {L S : List Value} {w : q_M} : q_ex X (151, 318, L, S, w) = q_ex X (151, 319, L, .int (nI 3) :: S, w) := g_go (i := (.iconst 3)) (n := 1) (g := 0) (pl := []) rfl rfl
set_option maxRecDepth 100000 in
theorem e151_319 {X : Nat × (Nat → Int32)} {L S : List Value} {w : q_M} {x y : Int32} : q_ex X (151, 319, L, .int y :: .int x :: S, w) = q_ex X (151, 320, L, .int (x + y) :: S, w) := g_go (i := .iadd) (n := 1) (g := 0) (pl := []) rfl rfl
set_option maxRecDepth 100000 in
theorem e151_320 {X : Nat × (Nat → Int32)} {L S : List Value} {w : q_M} {i : Nat} (hi : i < X.1) (hX : X.1 ≤ 100000) : q_ex X (151, 320, L, .int (nI i) :: .float 2 :: S, w) = q_ex X (151, 321, L, .int (X.2 i) :: S, w) := g_xld (v := 2) (n := 1) (g := 0) (pl := []) rfl hi hX
set_option maxRecDepth 100000 in
theorem e151_321 {X : Nat × (Nat → Int32)} {L : List Value} {t u : Nat} {F : Nat → Nat → Int32} {J : Nat → Int64} {x1 : Int32} {x2 : Int32} {x3 : Int32} {s0 : Value} : q_ex X (151, 321, L, [.int x3, .int x2, .int x1, .ref 72, s0], q_w t u F J) = (q_ex X (99, 0, [.ref 72, .int x1, .int x2, .int x3], [], q_w t u F J)).bind (fun r => q_ex X (151, 324, L, r.1.toList ++ [s0], r.2)) := g_call (i := (.invokevirtual 43)) (n := 3) (g := 99) (pl := []) rfl rfl
set_option maxRecDepth 100000 in
theorem e151_324 {X : Nat × (Nat → Int32)} {L S : List Value} {w : q_M} {x y : Int32} : q_ex X (151, 324, L, .int y :: .int x :: S, w) = if x = y then q_ex X (151, 825, L, S, w) else q_ex X (151, 327, L, S, w) := g_c2 (i := (.if_icmp .eq 501)) (n := 3) (g := 825) (pl := []) (P := fun x y => x = y) (fun _ _ => inferInstance) rfl rfl
set_option maxRecDepth 100000 in
theorem e151_327 {X : Nat × (Nat → Int32)} {L S : List Value} {w : q_M} : q_ex X (151, 327, L, S, w) = q_ex X (151, 328, L, .int (nI 0) :: S, w) := g_go (i := (.iconst 0)) (n := 1) (g := 0) (pl := []) rfl rfl
set_option maxRecDepth 100000 in
theorem e151_328 {X : Nat × (Nat → Int32)} {L : List Value} {w : q_M} {x : Int32} (hx : x = nI 0 ∨ x = nI 1) : q_ex X (151, 328, L, [.int x], w) = some (some (.int x), w) := g_retZ (n := 1) (g := 0) (pl := []) rfl rfl hx
set_option maxRecDepth 100000 in
theorem e151_329 {X : Nat × (Nat → Int32)} {S : List Value} {w : q_M} {a0 a2 a3 : Value} {x : Nat} : q_ex X (151, 329, [a0, .ref x, a2, a3], S, w) = q_ex X (151, 330, [a0, .ref x, a2, a3], .ref x :: S, w) := g_go (i := (.aload_n 1)) (n := 1) (g := 0) (pl := []) rfl rfl
set_option maxRecDepth 100000 in
theorem e151_330 {X : Nat × (Nat → Int32)} {L : List Value} {t u : Nat} {F : Nat → Nat → Int32} {J : Nat → Int64}   : q_ex X (151, 330, L, [.ref 0], q_w t u F J) = (q_ex X (58, 0, [.ref 0], [], q_w t u F J)).bind (fun r => q_ex X (151, 333, L, r.1.toList ++ [], r.2)) := g_call (i := (.invokevirtual 44)) (n := 3) (g := 58) (pl := []) rfl rfl
set_option maxRecDepth 100000 in
theorem e151_333 {X : Nat × (Nat → Int32)} {S : List Value} {w : q_M} {a0 a1 a3 : Value} {x : Nat} : q_ex X (151, 333, [a0, a1, .ref x, a3], S, w) = q_ex X (151, 334, [a0, a1, .ref x, a3], .ref x :: S, w) := g_go (i := (.aload_n 2)) (n := 1) (g := 0) (pl := []) rfl rfl
set_option maxRecDepth 100000 in
theorem e151_334 {X : Nat × (Nat → Int32)} {L : List Value} {t u : Nat} {F : Nat → Nat → Int32} {J : Nat → Int64}  {s0 : Value} : q_ex X (151, 334, L, [.ref 72, s0], q_w t u F J) = (q_ex X (101, 0, [.ref 72, .null, .null, .null, .null, .null], [], q_w t u F J)).bind (fun r => q_ex X (151, 337, L, r.1.toList ++ [s0], r.2)) := g_call (i := (.invokevirtual 47)) (n := 3) (g := 101) (pl := []) rfl rfl
set_option maxRecDepth 100000 in
theorem e151_337 {X : Nat × (Nat → Int32)} {L S : List Value} {w : q_M} {x y : Int32} : q_ex X (151, 337, L, .int y :: .int x :: S, w) = if x = y then q_ex X (151, 825, L, S, w) else q_ex X (151, 340, L, S, w) := g_c2 (i := (.if_icmp .eq 488)) (n := 3) (g := 825) (pl := []) (P := fun x y => x = y) (fun _ _ => inferInstance) rfl rfl
set_option maxRecDepth 100000 in
theorem e151_340 {X : Nat × (Nat → Int32)} {L S : List Value} {w : q_M} : q_ex X (151, 340, L, S, w) = q_ex X (151, 341, L, .int (nI 0) :: S, w) := g_go (i := (.iconst 0)) (n := 1) (g := 0) (pl := []) rfl rfl
set_option maxRecDepth 100000 in
theorem e151_341 {X : Nat × (Nat → Int32)} {L : List Value} {w : q_M} {x : Int32} (hx : x = nI 0 ∨ x = nI 1) : q_ex X (151, 341, L, [.int x], w) = some (some (.int x), w) := g_retZ (n := 1) (g := 0) (pl := []) rfl rfl hx
set_option maxRecDepth 100000 in
theorem e151_342 {X : Nat × (Nat → Int32)} {S : List Value} {w : q_M} {a0 a2 a3 : Value} {x : Nat} : q_ex X (151, 342, [a0, .ref x, a2, a3], S, w) = q_ex X (151, 343, [a0, .ref x, a2, a3], .ref x :: S, w) := g_go (i := (.aload_n 1)) (n := 1) (g := 0) (pl := []) rfl rfl
set_option maxRecDepth 100000 in
theorem e151_343 {X : Nat × (Nat → Int32)} {S : List Value} {w : q_M} {a1 a2 a3 : Value} {x : UInt32} : q_ex X (151, 343, [.float x, a1, a2, a3], S, w) = q_ex X (151, 344, [.float x, a1, a2, a3], .float x :: S, w) := g_go (i := (.aload_n 0)) (n := 1) (g := 0) (pl := []) rfl rfl
set_option maxRecDepth 100000 in
theorem e151_344 {X : Nat × (Nat → Int32)} {S : List Value} {w : q_M} {a0 a1 a2 : Value} {x : Int32} : q_ex X (151, 344, [a0, a1, a2, .int x], S, w) = q_ex X (151, 345, [a0, a1, a2, .int x], .int x :: S, w) := g_go (i := (.iload_n 3)) (n := 1) (g := 0) (pl := []) rfl rfl
set_option maxRecDepth 100000 in
theorem e151_345 {X : Nat × (Nat → Int32)} {L S : List Value} {w : q_M} : q_ex X (151, 345, L, S, w) = q_ex X (151, 346, L, .int (nI 1) :: S, w) := g_go (i := (.iconst 1)) (n := 1) (g := 0) (pl := []) rfl rfl
set_option maxRecDepth 100000 in
theorem e151_346 {X : Nat × (Nat → Int32)} {L S : List Value} {w : q_M} {x y : Int32} : q_ex X (151, 346, L, .int y :: .int x :: S, w) = q_ex X (151, 347, L, .int (x + y) :: S, w) := g_go (i := .iadd) (n := 1) (g := 0) (pl := []) rfl rfl
set_option maxRecDepth 100000 in
theorem e151_347 {X : Nat × (Nat → Int32)} {L S : List Value} {w : q_M} {i : Nat} (hi : i < X.1) (hX : X.1 ≤ 100000) : q_ex X (151, 347, L, .int (nI i) :: .float 2 :: S, w) = q_ex X (151, 348, L, .int (X.2 i) :: S, w) := g_xld (v := 2) (n := 1) (g := 0) (pl := []) rfl hi hX
set_option maxRecDepth 100000 in
theorem e151_348 {X : Nat × (Nat → Int32)} {L : List Value} {t u : Nat} {F : Nat → Nat → Int32} {J : Nat → Int64} {x1 : Int32}  : q_ex X (151, 348, L, [.int x1, .ref 0], q_w t u F J) = (q_ex X (59, 0, [.ref 0, .int x1, .null], [], q_w t u F J)).bind (fun r => q_ex X (151, 351, L, r.1.toList ++ [], r.2)) := g_call (i := (.invokevirtual 48)) (n := 3) (g := 59) (pl := []) rfl rfl
set_option maxRecDepth 100000 in
theorem e151_351 {X : Nat × (Nat → Int32)} {S : List Value} {w : q_M} {a0 a1 a3 : Value} {x : Nat} : q_ex X (151, 351, [a0, a1, .ref x, a3], S, w) = q_ex X (151, 352, [a0, a1, .ref x, a3], .ref x :: S, w) := g_go (i := (.aload_n 2)) (n := 1) (g := 0) (pl := []) rfl rfl
set_option maxRecDepth 100000 in
theorem e151_352 {X : Nat × (Nat → Int32)} {S : List Value} {w : q_M} {a1 a2 a3 : Value} {x : UInt32} : q_ex X (151, 352, [.float x, a1, a2, a3], S, w) = q_ex X (151, 353, [.float x, a1, a2, a3], .float x :: S, w) := g_go (i := (.aload_n 0)) (n := 1) (g := 0) (pl := []) rfl rfl
set_option maxRecDepth 100000 in
theorem e151_353 {X : Nat × (Nat → Int32)} {S : List Value} {w : q_M} {a0 a1 a2 : Value} {x : Int32} : q_ex X (151, 353, [a0, a1, a2, .int x], S, w) = q_ex X (151, 354, [a0, a1, a2, .int x], .int x :: S, w) := g_go (i := (.iload_n 3)) (n := 1) (g := 0) (pl := []) rfl rfl
set_option maxRecDepth 100000 in
theorem e151_354 {X : Nat × (Nat → Int32)} {L S : List Value} {w : q_M} : q_ex X (151, 354, L, S, w) = q_ex X (151, 355, L, .int (nI 1) :: S, w) := g_go (i := (.iconst 1)) (n := 1) (g := 0) (pl := []) rfl rfl
set_option maxRecDepth 100000 in
theorem e151_355 {X : Nat × (Nat → Int32)} {L S : List Value} {w : q_M} {x y : Int32} : q_ex X (151, 355, L, .int y :: .int x :: S, w) = q_ex X (151, 356, L, .int (x + y) :: S, w) := g_go (i := .iadd) (n := 1) (g := 0) (pl := []) rfl rfl
set_option maxRecDepth 100000 in
theorem e151_356 {X : Nat × (Nat → Int32)} {L S : List Value} {w : q_M} {i : Nat} (hi : i < X.1) (hX : X.1 ≤ 100000) : q_ex X (151, 356, L, .int (nI i) :: .float 2 :: S, w) = q_ex X (151, 357, L, .int (X.2 i) :: S, w) := g_xld (v := 2) (n := 1) (g := 0) (pl := []) rfl hi hX
set_option maxRecDepth 100000 in
theorem e151_357 {X : Nat × (Nat → Int32)} {L : List Value} {t u : Nat} {F : Nat → Nat → Int32} {J : Nat → Int64} {x1 : Int32} {s0 : Value} : q_ex X (151, 357, L, [.int x1, .ref 72, s0], q_w t u F J) = (q_ex X (110, 0, [.ref 72, .int x1, .null], [], q_w t u F J)).bind (fun r => q_ex X (151, 360, L, r.1.toList ++ [s0], r.2)) := g_call (i := (.invokevirtual 51)) (n := 3) (g := 110) (pl := []) rfl rfl
set_option maxRecDepth 100000 in
theorem e151_360 {X : Nat × (Nat → Int32)} {L S : List Value} {w : q_M} {x y : Int32} : q_ex X (151, 360, L, .int y :: .int x :: S, w) = if x = y then q_ex X (151, 825, L, S, w) else q_ex X (151, 363, L, S, w) := g_c2 (i := (.if_icmp .eq 465)) (n := 3) (g := 825) (pl := []) (P := fun x y => x = y) (fun _ _ => inferInstance) rfl rfl
set_option maxRecDepth 100000 in
theorem e151_363 {X : Nat × (Nat → Int32)} {L S : List Value} {w : q_M} : q_ex X (151, 363, L, S, w) = q_ex X (151, 364, L, .int (nI 0) :: S, w) := g_go (i := (.iconst 0)) (n := 1) (g := 0) (pl := []) rfl rfl
set_option maxRecDepth 100000 in
theorem e151_364 {X : Nat × (Nat → Int32)} {L : List Value} {w : q_M} {x : Int32} (hx : x = nI 0 ∨ x = nI 1) : q_ex X (151, 364, L, [.int x], w) = some (some (.int x), w) := g_retZ (n := 1) (g := 0) (pl := []) rfl rfl hx
set_option maxRecDepth 100000 in
theorem e151_365 {X : Nat × (Nat → Int32)} {S : List Value} {w : q_M} {a0 a2 a3 : Value} {x : Nat} : q_ex X (151, 365, [a0, .ref x, a2, a3], S, w) = q_ex X (151, 366, [a0, .ref x, a2, a3], .ref x :: S, w) := g_go (i := (.aload_n 1)) (n := 1) (g := 0) (pl := []) rfl rfl
set_option maxRecDepth 100000 in
theorem e151_366 {X : Nat × (Nat → Int32)} {L : List Value} {t u : Nat} {F : Nat → Nat → Int32} {J : Nat → Int64}   : q_ex X (151, 366, L, [.ref 0], q_w t u F J) = (q_ex X (60, 0, [.ref 0], [], q_w t u F J)).bind (fun r => q_ex X (151, 369, L, r.1.toList ++ [], r.2)) := g_call (i := (.invokevirtual 52)) (n := 3) (g := 60) (pl := []) rfl rfl
set_option maxRecDepth 100000 in
theorem e151_369 {X : Nat × (Nat → Int32)} {S : List Value} {w : q_M} {a0 a1 a3 : Value} {x : Nat} : q_ex X (151, 369, [a0, a1, .ref x, a3], S, w) = q_ex X (151, 370, [a0, a1, .ref x, a3], .ref x :: S, w) := g_go (i := (.aload_n 2)) (n := 1) (g := 0) (pl := []) rfl rfl
set_option maxRecDepth 100000 in
theorem e151_370 {X : Nat × (Nat → Int32)} {L : List Value} {t u : Nat} {F : Nat → Nat → Int32} {J : Nat → Int64}  {s0 : Value} : q_ex X (151, 370, L, [.ref 72, s0], q_w t u F J) = (q_ex X (114, 0, [.ref 72, .null], [], q_w t u F J)).bind (fun r => q_ex X (151, 373, L, r.1.toList ++ [s0], r.2)) := g_call (i := (.invokevirtual 55)) (n := 3) (g := 114) (pl := []) rfl rfl
set_option maxRecDepth 100000 in
theorem e151_373 {X : Nat × (Nat → Int32)} {L S : List Value} {w : q_M} {x y : Int32} : q_ex X (151, 373, L, .int y :: .int x :: S, w) = if x = y then q_ex X (151, 825, L, S, w) else q_ex X (151, 376, L, S, w) := g_c2 (i := (.if_icmp .eq 452)) (n := 3) (g := 825) (pl := []) (P := fun x y => x = y) (fun _ _ => inferInstance) rfl rfl
set_option maxRecDepth 100000 in
theorem e151_376 {X : Nat × (Nat → Int32)} {L S : List Value} {w : q_M} : q_ex X (151, 376, L, S, w) = q_ex X (151, 377, L, .int (nI 0) :: S, w) := g_go (i := (.iconst 0)) (n := 1) (g := 0) (pl := []) rfl rfl
set_option maxRecDepth 100000 in
theorem e151_377 {X : Nat × (Nat → Int32)} {L : List Value} {w : q_M} {x : Int32} (hx : x = nI 0 ∨ x = nI 1) : q_ex X (151, 377, L, [.int x], w) = some (some (.int x), w) := g_retZ (n := 1) (g := 0) (pl := []) rfl rfl hx
set_option maxRecDepth 100000 in
theorem e151_378 {X : Nat × (Nat → Int32)} {S : List Value} {w : q_M} {a0 a2 a3 : Value} {x : Nat} : q_ex X (151, 378, [a0, .ref x, a2, a3], S, w) = q_ex X (151, 379, [a0, .ref x, a2, a3], .ref x :: S, w) := g_go (i := (.aload_n 1)) (n := 1) (g := 0) (pl := []) rfl rfl
set_option maxRecDepth 100000 in
theorem e151_379 {X : Nat × (Nat → Int32)} {S : List Value} {w : q_M} {a1 a2 a3 : Value} {x : UInt32} : q_ex X (151, 379, [.float x, a1, a2, a3], S, w) = q_ex X (151, 380, [.float x, a1, a2, a3], .float x :: S, w) := g_go (i := (.aload_n 0)) (n := 1) (g := 0) (pl := []) rfl rfl
set_option maxRecDepth 100000 in
theorem e151_380 {X : Nat × (Nat → Int32)} {S : List Value} {w : q_M} {a0 a1 a2 : Value} {x : Int32} : q_ex X (151, 380, [a0, a1, a2, .int x], S, w) = q_ex X (151, 381, [a0, a1, a2, .int x], .int x :: S, w) := g_go (i := (.iload_n 3)) (n := 1) (g := 0) (pl := []) rfl rfl
set_option maxRecDepth 100000 in
theorem e151_381 {X : Nat × (Nat → Int32)} {L S : List Value} {w : q_M} : q_ex X (151, 381, L, S, w) = q_ex X (151, 382, L, .int (nI 1) :: S, w) := g_go (i := (.iconst 1)) (n := 1) (g := 0) (pl := []) rfl rfl
set_option maxRecDepth 100000 in
theorem e151_382 {X : Nat × (Nat → Int32)} {L S : List Value} {w : q_M} {x y : Int32} : q_ex X (151, 382, L, .int y :: .int x :: S, w) = q_ex X (151, 383, L, .int (x + y) :: S, w) := g_go (i := .iadd) (n := 1) (g := 0) (pl := []) rfl rfl
set_option maxRecDepth 100000 in
theorem e151_383 {X : Nat × (Nat → Int32)} {L S : List Value} {w : q_M} {i : Nat} (hi : i < X.1) (hX : X.1 ≤ 100000) : q_ex X (151, 383, L, .int (nI i) :: .float 2 :: S, w) = q_ex X (151, 384, L, .int (X.2 i) :: S, w) := g_xld (v := 2) (n := 1) (g := 0) (pl := []) rfl hi hX
set_option maxRecDepth 100000 in
theorem e151_384 {X : Nat × (Nat → Int32)} {S : List Value} {w : q_M} {a1 a2 a3 : Value} {x : UInt32} : q_ex X (151, 384, [.float x, a1, a2, a3], S, w) = q_ex X (151, 385, [.float x, a1, a2, a3], .float x :: S, w) := g_go (i := (.aload_n 0)) (n := 1) (g := 0) (pl := []) rfl rfl
set_option maxRecDepth 100000 in
theorem e151_385 {X : Nat × (Nat → Int32)} {S : List Value} {w : q_M} {a0 a1 a2 : Value} {x : Int32} : q_ex X (151, 385, [a0, a1, a2, .int x], S, w) = q_ex X (151, 386, [a0, a1, a2, .int x], .int x :: S, w) := g_go (i := (.iload_n 3)) (n := 1) (g := 0) (pl := []) rfl rfl
set_option maxRecDepth 100000 in
theorem e151_386 {X : Nat × (Nat → Int32)} {L S : List Value} {w : q_M} : q_ex X (151, 386, L, S, w) = q_ex X (151, 387, L, .int (nI 2) :: S, w) := g_go (i := (.iconst 2)) (n := 1) (g := 0) (pl := []) rfl rfl
set_option maxRecDepth 100000 in
theorem e151_387 {X : Nat × (Nat → Int32)} {L S : List Value} {w : q_M} {x y : Int32} : q_ex X (151, 387, L, .int y :: .int x :: S, w) = q_ex X (151, 388, L, .int (x + y) :: S, w) := g_go (i := .iadd) (n := 1) (g := 0) (pl := []) rfl rfl
set_option maxRecDepth 100000 in
theorem e151_388 {X : Nat × (Nat → Int32)} {L S : List Value} {w : q_M} {i : Nat} (hi : i < X.1) (hX : X.1 ≤ 100000) : q_ex X (151, 388, L, .int (nI i) :: .float 2 :: S, w) = q_ex X (151, 389, L, .int (X.2 i) :: S, w) := g_xld (v := 2) (n := 1) (g := 0) (pl := []) rfl hi hX
set_option maxRecDepth 100000 in
theorem e151_389 {X : Nat × (Nat → Int32)} {S : List Value} {w : q_M} {a1 a2 a3 : Value} {x : UInt32} : q_ex X (151, 389, [.float x, a1, a2, a3], S, w) = q_ex X (151, 390, [.float x, a1, a2, a3], .float x :: S, w) := g_go (i := (.aload_n 0)) (n := 1) (g := 0) (pl := []) rfl rfl
set_option maxRecDepth 100000 in
theorem e151_390 {X : Nat × (Nat → Int32)} {S : List Value} {w : q_M} {a0 a1 a2 : Value} {x : Int32} : q_ex X (151, 390, [a0, a1, a2, .int x], S, w) = q_ex X (151, 391, [a0, a1, a2, .int x], .int x :: S, w) := g_go (i := (.iload_n 3)) (n := 1) (g := 0) (pl := []) rfl rfl
set_option maxRecDepth 100000 in
theorem e151_391 {X : Nat × (Nat → Int32)} {L S : List Value} {w : q_M} : q_ex X (151, 391, L, S, w) = q_ex X (151, 392, L, .int (nI 3) :: S, w) := g_go (i := (.iconst 3)) (n := 1) (g := 0) (pl := []) rfl rfl
set_option maxRecDepth 100000 in
theorem e151_392 {X : Nat × (Nat → Int32)} {L S : List Value} {w : q_M} {x y : Int32} : q_ex X (151, 392, L, .int y :: .int x :: S, w) = q_ex X (151, 393, L, .int (x + y) :: S, w) := g_go (i := .iadd) (n := 1) (g := 0) (pl := []) rfl rfl
set_option maxRecDepth 100000 in
theorem e151_393 {X : Nat × (Nat → Int32)} {L S : List Value} {w : q_M} {i : Nat} (hi : i < X.1) (hX : X.1 ≤ 100000) : q_ex X (151, 393, L, .int (nI i) :: .float 2 :: S, w) = q_ex X (151, 394, L, .int (X.2 i) :: S, w) := g_xld (v := 2) (n := 1) (g := 0) (pl := []) rfl hi hX
set_option maxRecDepth 100000 in
theorem e151_394 {X : Nat × (Nat → Int32)} {L : List Value} {t u : Nat} {F : Nat → Nat → Int32} {J : Nat → Int64} {x1 : Int32} {x2 : Int32} {x3 : Int32}  : q_ex X (151, 394, L, [.int x3, .int x2, .int x1, .ref 0], q_w t u F J) = (q_ex X (61, 0, [.ref 0, .int x1, .int x2, .int x3, .null], [], q_w t u F J)).bind (fun r => q_ex X (151, 397, L, r.1.toList ++ [], r.2)) := g_call (i := (.invokevirtual 56)) (n := 3) (g := 61) (pl := []) rfl rfl
set_option maxRecDepth 100000 in
theorem e151_397 {X : Nat × (Nat → Int32)} {S : List Value} {w : q_M} {a0 a1 a3 : Value} {x : Nat} : q_ex X (151, 397, [a0, a1, .ref x, a3], S, w) = q_ex X (151, 398, [a0, a1, .ref x, a3], .ref x :: S, w) := g_go (i := (.aload_n 2)) (n := 1) (g := 0) (pl := []) rfl rfl
set_option maxRecDepth 100000 in
theorem e151_398 {X : Nat × (Nat → Int32)} {S : List Value} {w : q_M} {a1 a2 a3 : Value} {x : UInt32} : q_ex X (151, 398, [.float x, a1, a2, a3], S, w) = q_ex X (151, 399, [.float x, a1, a2, a3], .float x :: S, w) := g_go (i := (.aload_n 0)) (n := 1) (g := 0) (pl := []) rfl rfl
set_option maxRecDepth 100000 in
theorem e151_399 {X : Nat × (Nat → Int32)} {S : List Value} {w : q_M} {a0 a1 a2 : Value} {x : Int32} : q_ex X (151, 399, [a0, a1, a2, .int x], S, w) = q_ex X (151, 400, [a0, a1, a2, .int x], .int x :: S, w) := g_go (i := (.iload_n 3)) (n := 1) (g := 0) (pl := []) rfl rfl
set_option maxRecDepth 100000 in
theorem e151_400 {X : Nat × (Nat → Int32)} {L S : List Value} {w : q_M} : q_ex X (151, 400, L, S, w) = q_ex X (151, 401, L, .int (nI 1) :: S, w) := g_go (i := (.iconst 1)) (n := 1) (g := 0) (pl := []) rfl rfl
set_option maxRecDepth 100000 in
theorem e151_401 {X : Nat × (Nat → Int32)} {L S : List Value} {w : q_M} {x y : Int32} : q_ex X (151, 401, L, .int y :: .int x :: S, w) = q_ex X (151, 402, L, .int (x + y) :: S, w) := g_go (i := .iadd) (n := 1) (g := 0) (pl := []) rfl rfl
set_option maxRecDepth 100000 in
theorem e151_402 {X : Nat × (Nat → Int32)} {L S : List Value} {w : q_M} {i : Nat} (hi : i < X.1) (hX : X.1 ≤ 100000) : q_ex X (151, 402, L, .int (nI i) :: .float 2 :: S, w) = q_ex X (151, 403, L, .int (X.2 i) :: S, w) := g_xld (v := 2) (n := 1) (g := 0) (pl := []) rfl hi hX
set_option maxRecDepth 100000 in
theorem e151_403 {X : Nat × (Nat → Int32)} {S : List Value} {w : q_M} {a1 a2 a3 : Value} {x : UInt32} : q_ex X (151, 403, [.float x, a1, a2, a3], S, w) = q_ex X (151, 404, [.float x, a1, a2, a3], .float x :: S, w) := g_go (i := (.aload_n 0)) (n := 1) (g := 0) (pl := []) rfl rfl
set_option maxRecDepth 100000 in
theorem e151_404 {X : Nat × (Nat → Int32)} {S : List Value} {w : q_M} {a0 a1 a2 : Value} {x : Int32} : q_ex X (151, 404, [a0, a1, a2, .int x], S, w) = q_ex X (151, 405, [a0, a1, a2, .int x], .int x :: S, w) := g_go (i := (.iload_n 3)) (n := 1) (g := 0) (pl := []) rfl rfl
set_option maxRecDepth 100000 in
theorem e151_405 {X : Nat × (Nat → Int32)} {L S : List Value} {w : q_M} : q_ex X (151, 405, L, S, w) = q_ex X (151, 406, L, .int (nI 2) :: S, w) := g_go (i := (.iconst 2)) (n := 1) (g := 0) (pl := []) rfl rfl
set_option maxRecDepth 100000 in
theorem e151_406 {X : Nat × (Nat → Int32)} {L S : List Value} {w : q_M} {x y : Int32} : q_ex X (151, 406, L, .int y :: .int x :: S, w) = q_ex X (151, 407, L, .int (x + y) :: S, w) := g_go (i := .iadd) (n := 1) (g := 0) (pl := []) rfl rfl
set_option maxRecDepth 100000 in
theorem e151_407 {X : Nat × (Nat → Int32)} {L S : List Value} {w : q_M} {i : Nat} (hi : i < X.1) (hX : X.1 ≤ 100000) : q_ex X (151, 407, L, .int (nI i) :: .float 2 :: S, w) = q_ex X (151, 408, L, .int (X.2 i) :: S, w) := g_xld (v := 2) (n := 1) (g := 0) (pl := []) rfl hi hX
set_option maxRecDepth 100000 in
theorem e151_408 {X : Nat × (Nat → Int32)} {S : List Value} {w : q_M} {a1 a2 a3 : Value} {x : UInt32} : q_ex X (151, 408, [.float x, a1, a2, a3], S, w) = q_ex X (151, 409, [.float x, a1, a2, a3], .float x :: S, w) := g_go (i := (.aload_n 0)) (n := 1) (g := 0) (pl := []) rfl rfl
set_option maxRecDepth 100000 in
theorem e151_409 {X : Nat × (Nat → Int32)} {S : List Value} {w : q_M} {a0 a1 a2 : Value} {x : Int32} : q_ex X (151, 409, [a0, a1, a2, .int x], S, w) = q_ex X (151, 410, [a0, a1, a2, .int x], .int x :: S, w) := g_go (i := (.iload_n 3)) (n := 1) (g := 0) (pl := []) rfl rfl
set_option maxRecDepth 100000 in
theorem e151_410 {X : Nat × (Nat → Int32)} {L S : List Value} {w : q_M} : q_ex X (151, 410, L, S, w) = q_ex X (151, 411, L, .int (nI 3) :: S, w) := g_go (i := (.iconst 3)) (n := 1) (g := 0) (pl := []) rfl rfl
set_option maxRecDepth 100000 in
theorem e151_411 {X : Nat × (Nat → Int32)} {L S : List Value} {w : q_M} {x y : Int32} : q_ex X (151, 411, L, .int y :: .int x :: S, w) = q_ex X (151, 412, L, .int (x + y) :: S, w) := g_go (i := .iadd) (n := 1) (g := 0) (pl := []) rfl rfl
set_option maxRecDepth 100000 in
theorem e151_412 {X : Nat × (Nat → Int32)} {L S : List Value} {w : q_M} {i : Nat} (hi : i < X.1) (hX : X.1 ≤ 100000) : q_ex X (151, 412, L, .int (nI i) :: .float 2 :: S, w) = q_ex X (151, 413, L, .int (X.2 i) :: S, w) := g_xld (v := 2) (n := 1) (g := 0) (pl := []) rfl hi hX
set_option maxRecDepth 100000 in
theorem e151_413 {X : Nat × (Nat → Int32)} {L : List Value} {t u : Nat} {F : Nat → Nat → Int32} {J : Nat → Int64} {x1 : Int32} {x2 : Int32} {x3 : Int32} {s0 : Value} : q_ex X (151, 413, L, [.int x3, .int x2, .int x1, .ref 72, s0], q_w t u F J) = (q_ex X (115, 0, [.ref 72, .int x1, .int x2, .int x3], [], q_w t u F J)).bind (fun r => q_ex X (151, 416, L, r.1.toList ++ [s0], r.2)) := g_call (i := (.invokevirtual 59)) (n := 3) (g := 115) (pl := []) rfl rfl
set_option maxRecDepth 100000 in
theorem e151_416 {X : Nat × (Nat → Int32)} {L S : List Value} {w : q_M} {x y : Int32} : q_ex X (151, 416, L, .int y :: .int x :: S, w) = if x = y then q_ex X (151, 825, L, S, w) else q_ex X (151, 419, L, S, w) := g_c2 (i := (.if_icmp .eq 409)) (n := 3) (g := 825) (pl := []) (P := fun x y => x = y) (fun _ _ => inferInstance) rfl rfl
set_option maxRecDepth 100000 in
theorem e151_419 {X : Nat × (Nat → Int32)} {L S : List Value} {w : q_M} : q_ex X (151, 419, L, S, w) = q_ex X (151, 420, L, .int (nI 0) :: S, w) := g_go (i := (.iconst 0)) (n := 1) (g := 0) (pl := []) rfl rfl
set_option maxRecDepth 100000 in
theorem e151_420 {X : Nat × (Nat → Int32)} {L : List Value} {w : q_M} {x : Int32} (hx : x = nI 0 ∨ x = nI 1) : q_ex X (151, 420, L, [.int x], w) = some (some (.int x), w) := g_retZ (n := 1) (g := 0) (pl := []) rfl rfl hx
set_option maxRecDepth 100000 in
theorem e151_421 {X : Nat × (Nat → Int32)} {S : List Value} {w : q_M} {a0 a2 a3 : Value} {x : Nat} : q_ex X (151, 421, [a0, .ref x, a2, a3], S, w) = q_ex X (151, 422, [a0, .ref x, a2, a3], .ref x :: S, w) := g_go (i := (.aload_n 1)) (n := 1) (g := 0) (pl := []) rfl rfl
set_option maxRecDepth 100000 in
theorem e151_422 {X : Nat × (Nat → Int32)} {S : List Value} {w : q_M} {a1 a2 a3 : Value} {x : UInt32} : q_ex X (151, 422, [.float x, a1, a2, a3], S, w) = q_ex X (151, 423, [.float x, a1, a2, a3], .float x :: S, w) := g_go (i := (.aload_n 0)) (n := 1) (g := 0) (pl := []) rfl rfl
set_option maxRecDepth 100000 in
theorem e151_423 {X : Nat × (Nat → Int32)} {S : List Value} {w : q_M} {a0 a1 a2 : Value} {x : Int32} : q_ex X (151, 423, [a0, a1, a2, .int x], S, w) = q_ex X (151, 424, [a0, a1, a2, .int x], .int x :: S, w) := g_go (i := (.iload_n 3)) (n := 1) (g := 0) (pl := []) rfl rfl
set_option maxRecDepth 100000 in
theorem e151_424 {X : Nat × (Nat → Int32)} {L S : List Value} {w : q_M} : q_ex X (151, 424, L, S, w) = q_ex X (151, 425, L, .int (nI 1) :: S, w) := g_go (i := (.iconst 1)) (n := 1) (g := 0) (pl := []) rfl rfl
set_option maxRecDepth 100000 in
theorem e151_425 {X : Nat × (Nat → Int32)} {L S : List Value} {w : q_M} {x y : Int32} : q_ex X (151, 425, L, .int y :: .int x :: S, w) = q_ex X (151, 426, L, .int (x + y) :: S, w) := g_go (i := .iadd) (n := 1) (g := 0) (pl := []) rfl rfl
set_option maxRecDepth 100000 in
theorem e151_426 {X : Nat × (Nat → Int32)} {L S : List Value} {w : q_M} {i : Nat} (hi : i < X.1) (hX : X.1 ≤ 100000) : q_ex X (151, 426, L, .int (nI i) :: .float 2 :: S, w) = q_ex X (151, 427, L, .int (X.2 i) :: S, w) := g_xld (v := 2) (n := 1) (g := 0) (pl := []) rfl hi hX
set_option maxRecDepth 100000 in
theorem e151_427 {X : Nat × (Nat → Int32)} {S : List Value} {w : q_M} {a1 a2 a3 : Value} {x : UInt32} : q_ex X (151, 427, [.float x, a1, a2, a3], S, w) = q_ex X (151, 428, [.float x, a1, a2, a3], .float x :: S, w) := g_go (i := (.aload_n 0)) (n := 1) (g := 0) (pl := []) rfl rfl
set_option maxRecDepth 100000 in
theorem e151_428 {X : Nat × (Nat → Int32)} {S : List Value} {w : q_M} {a0 a1 a2 : Value} {x : Int32} : q_ex X (151, 428, [a0, a1, a2, .int x], S, w) = q_ex X (151, 429, [a0, a1, a2, .int x], .int x :: S, w) := g_go (i := (.iload_n 3)) (n := 1) (g := 0) (pl := []) rfl rfl
set_option maxRecDepth 100000 in
theorem e151_429 {X : Nat × (Nat → Int32)} {L S : List Value} {w : q_M} : q_ex X (151, 429, L, S, w) = q_ex X (151, 430, L, .int (nI 2) :: S, w) := g_go (i := (.iconst 2)) (n := 1) (g := 0) (pl := []) rfl rfl
set_option maxRecDepth 100000 in
theorem e151_430 {X : Nat × (Nat → Int32)} {L S : List Value} {w : q_M} {x y : Int32} : q_ex X (151, 430, L, .int y :: .int x :: S, w) = q_ex X (151, 431, L, .int (x + y) :: S, w) := g_go (i := .iadd) (n := 1) (g := 0) (pl := []) rfl rfl
set_option maxRecDepth 100000 in
theorem e151_431 {X : Nat × (Nat → Int32)} {L S : List Value} {w : q_M} {i : Nat} (hi : i < X.1) (hX : X.1 ≤ 100000) : q_ex X (151, 431, L, .int (nI i) :: .float 2 :: S, w) = q_ex X (151, 432, L, .int (X.2 i) :: S, w) := g_xld (v := 2) (n := 1) (g := 0) (pl := []) rfl hi hX
set_option maxRecDepth 100000 in
theorem e151_432 {X : Nat × (Nat → Int32)} {L : List Value} {t u : Nat} {F : Nat → Nat → Int32} {J : Nat → Int64} {x1 : Int32} {x2 : Int32}  : q_ex X (151, 432, L, [.int x2, .int x1, .ref 0], q_w t u F J) = (q_ex X (62, 0, [.ref 0, .int x1, .int x2], [], q_w t u F J)).bind (fun r => q_ex X (151, 435, L, r.1.toList ++ [], r.2)) := g_call (i := (.invokevirtual 60)) (n := 3) (g := 62) (pl := []) rfl rfl
set_option maxRecDepth 100000 in
theorem e151_435 {X : Nat × (Nat → Int32)} {S : List Value} {w : q_M} {a0 a1 a3 : Value} {x : Nat} : q_ex X (151, 435, [a0, a1, .ref x, a3], S, w) = q_ex X (151, 436, [a0, a1, .ref x, a3], .ref x :: S, w) := g_go (i := (.aload_n 2)) (n := 1) (g := 0) (pl := []) rfl rfl
set_option maxRecDepth 100000 in
theorem e151_436 {X : Nat × (Nat → Int32)} {S : List Value} {w : q_M} {a1 a2 a3 : Value} {x : UInt32} : q_ex X (151, 436, [.float x, a1, a2, a3], S, w) = q_ex X (151, 437, [.float x, a1, a2, a3], .float x :: S, w) := g_go (i := (.aload_n 0)) (n := 1) (g := 0) (pl := []) rfl rfl
set_option maxRecDepth 100000 in
theorem e151_437 {X : Nat × (Nat → Int32)} {S : List Value} {w : q_M} {a0 a1 a2 : Value} {x : Int32} : q_ex X (151, 437, [a0, a1, a2, .int x], S, w) = q_ex X (151, 438, [a0, a1, a2, .int x], .int x :: S, w) := g_go (i := (.iload_n 3)) (n := 1) (g := 0) (pl := []) rfl rfl
set_option maxRecDepth 100000 in
theorem e151_438 {X : Nat × (Nat → Int32)} {L S : List Value} {w : q_M} : q_ex X (151, 438, L, S, w) = q_ex X (151, 439, L, .int (nI 1) :: S, w) := g_go (i := (.iconst 1)) (n := 1) (g := 0) (pl := []) rfl rfl
set_option maxRecDepth 100000 in
theorem e151_439 {X : Nat × (Nat → Int32)} {L S : List Value} {w : q_M} {x y : Int32} : q_ex X (151, 439, L, .int y :: .int x :: S, w) = q_ex X (151, 440, L, .int (x + y) :: S, w) := g_go (i := .iadd) (n := 1) (g := 0) (pl := []) rfl rfl
set_option maxRecDepth 100000 in
theorem e151_440 {X : Nat × (Nat → Int32)} {L S : List Value} {w : q_M} {i : Nat} (hi : i < X.1) (hX : X.1 ≤ 100000) : q_ex X (151, 440, L, .int (nI i) :: .float 2 :: S, w) = q_ex X (151, 441, L, .int (X.2 i) :: S, w) := g_xld (v := 2) (n := 1) (g := 0) (pl := []) rfl hi hX
set_option maxRecDepth 100000 in
theorem e151_441 {X : Nat × (Nat → Int32)} {S : List Value} {w : q_M} {a1 a2 a3 : Value} {x : UInt32} : q_ex X (151, 441, [.float x, a1, a2, a3], S, w) = q_ex X (151, 442, [.float x, a1, a2, a3], .float x :: S, w) := g_go (i := (.aload_n 0)) (n := 1) (g := 0) (pl := []) rfl rfl
set_option maxRecDepth 100000 in
theorem e151_442 {X : Nat × (Nat → Int32)} {S : List Value} {w : q_M} {a0 a1 a2 : Value} {x : Int32} : q_ex X (151, 442, [a0, a1, a2, .int x], S, w) = q_ex X (151, 443, [a0, a1, a2, .int x], .int x :: S, w) := g_go (i := (.iload_n 3)) (n := 1) (g := 0) (pl := []) rfl rfl
set_option maxRecDepth 100000 in
theorem e151_443 {X : Nat × (Nat → Int32)} {L S : List Value} {w : q_M} : q_ex X (151, 443, L, S, w) = q_ex X (151, 444, L, .int (nI 2) :: S, w) := g_go (i := (.iconst 2)) (n := 1) (g := 0) (pl := []) rfl rfl
set_option maxRecDepth 100000 in
theorem e151_444 {X : Nat × (Nat → Int32)} {L S : List Value} {w : q_M} {x y : Int32} : q_ex X (151, 444, L, .int y :: .int x :: S, w) = q_ex X (151, 445, L, .int (x + y) :: S, w) := g_go (i := .iadd) (n := 1) (g := 0) (pl := []) rfl rfl
set_option maxRecDepth 100000 in
theorem e151_445 {X : Nat × (Nat → Int32)} {L S : List Value} {w : q_M} {i : Nat} (hi : i < X.1) (hX : X.1 ≤ 100000) : q_ex X (151, 445, L, .int (nI i) :: .float 2 :: S, w) = q_ex X (151, 446, L, .int (X.2 i) :: S, w) := g_xld (v := 2) (n := 1) (g := 0) (pl := []) rfl hi hX
set_option maxRecDepth 100000 in
theorem e151_446 {X : Nat × (Nat → Int32)} {L : List Value} {t u : Nat} {F : Nat → Nat → Int32} {J : Nat → Int64} {x1 : Int32} {x2 : Int32} {s0 : Value} : q_ex X (151, 446, L, [.int x2, .int x1, .ref 72, s0], q_w t u F J) = (q_ex X (117, 0, [.ref 72, .int x1, .int x2], [], q_w t u F J)).bind (fun r => q_ex X (151, 449, L, r.1.toList ++ [s0], r.2)) := g_call (i := (.invokevirtual 64)) (n := 3) (g := 117) (pl := []) rfl rfl
set_option maxRecDepth 100000 in
theorem e151_449 {X : Nat × (Nat → Int32)} {L S : List Value} {w : q_M} {x y : Int32} : q_ex X (151, 449, L, .int y :: .int x :: S, w) = if x = y then q_ex X (151, 825, L, S, w) else q_ex X (151, 452, L, S, w) := g_c2 (i := (.if_icmp .eq 376)) (n := 3) (g := 825) (pl := []) (P := fun x y => x = y) (fun _ _ => inferInstance) rfl rfl
set_option maxRecDepth 100000 in
theorem e151_452 {X : Nat × (Nat → Int32)} {L S : List Value} {w : q_M} : q_ex X (151, 452, L, S, w) = q_ex X (151, 453, L, .int (nI 0) :: S, w) := g_go (i := (.iconst 0)) (n := 1) (g := 0) (pl := []) rfl rfl
set_option maxRecDepth 100000 in
theorem e151_453 {X : Nat × (Nat → Int32)} {L : List Value} {w : q_M} {x : Int32} (hx : x = nI 0 ∨ x = nI 1) : q_ex X (151, 453, L, [.int x], w) = some (some (.int x), w) := g_retZ (n := 1) (g := 0) (pl := []) rfl rfl hx
set_option maxRecDepth 100000 in
theorem e151_454 {X : Nat × (Nat → Int32)} {S : List Value} {w : q_M} {a0 a2 a3 : Value} {x : Nat} : q_ex X (151, 454, [a0, .ref x, a2, a3], S, w) = q_ex X (151, 455, [a0, .ref x, a2, a3], .ref x :: S, w) := g_go (i := (.aload_n 1)) (n := 1) (g := 0) (pl := []) rfl rfl
set_option maxRecDepth 100000 in
theorem e151_455 {X : Nat × (Nat → Int32)} {S : List Value} {w : q_M} {a1 a2 a3 : Value} {x : UInt32} : q_ex X (151, 455, [.float x, a1, a2, a3], S, w) = q_ex X (151, 456, [.float x, a1, a2, a3], .float x :: S, w) := g_go (i := (.aload_n 0)) (n := 1) (g := 0) (pl := []) rfl rfl
set_option maxRecDepth 100000 in
theorem e151_456 {X : Nat × (Nat → Int32)} {S : List Value} {w : q_M} {a0 a1 a2 : Value} {x : Int32} : q_ex X (151, 456, [a0, a1, a2, .int x], S, w) = q_ex X (151, 457, [a0, a1, a2, .int x], .int x :: S, w) := g_go (i := (.iload_n 3)) (n := 1) (g := 0) (pl := []) rfl rfl
set_option maxRecDepth 100000 in
theorem e151_457 {X : Nat × (Nat → Int32)} {L S : List Value} {w : q_M} : q_ex X (151, 457, L, S, w) = q_ex X (151, 458, L, .int (nI 1) :: S, w) := g_go (i := (.iconst 1)) (n := 1) (g := 0) (pl := []) rfl rfl
set_option maxRecDepth 100000 in
theorem e151_458 {X : Nat × (Nat → Int32)} {L S : List Value} {w : q_M} {x y : Int32} : q_ex X (151, 458, L, .int y :: .int x :: S, w) = q_ex X (151, 459, L, .int (x + y) :: S, w) := g_go (i := .iadd) (n := 1) (g := 0) (pl := []) rfl rfl
set_option maxRecDepth 100000 in
theorem e151_459 {X : Nat × (Nat → Int32)} {L S : List Value} {w : q_M} {i : Nat} (hi : i < X.1) (hX : X.1 ≤ 100000) : q_ex X (151, 459, L, .int (nI i) :: .float 2 :: S, w) = q_ex X (151, 460, L, .int (X.2 i) :: S, w) := g_xld (v := 2) (n := 1) (g := 0) (pl := []) rfl hi hX
set_option maxRecDepth 100000 in
theorem e151_460 {X : Nat × (Nat → Int32)} {S : List Value} {w : q_M} {a1 a2 a3 : Value} {x : UInt32} : q_ex X (151, 460, [.float x, a1, a2, a3], S, w) = q_ex X (151, 461, [.float x, a1, a2, a3], .float x :: S, w) := g_go (i := (.aload_n 0)) (n := 1) (g := 0) (pl := []) rfl rfl
set_option maxRecDepth 100000 in
theorem e151_461 {X : Nat × (Nat → Int32)} {S : List Value} {w : q_M} {a0 a1 a2 : Value} {x : Int32} : q_ex X (151, 461, [a0, a1, a2, .int x], S, w) = q_ex X (151, 462, [a0, a1, a2, .int x], .int x :: S, w) := g_go (i := (.iload_n 3)) (n := 1) (g := 0) (pl := []) rfl rfl
set_option maxRecDepth 100000 in
theorem e151_462 {X : Nat × (Nat → Int32)} {L S : List Value} {w : q_M} : q_ex X (151, 462, L, S, w) = q_ex X (151, 463, L, .int (nI 2) :: S, w) := g_go (i := (.iconst 2)) (n := 1) (g := 0) (pl := []) rfl rfl
set_option maxRecDepth 100000 in
theorem e151_463 {X : Nat × (Nat → Int32)} {L S : List Value} {w : q_M} {x y : Int32} : q_ex X (151, 463, L, .int y :: .int x :: S, w) = q_ex X (151, 464, L, .int (x + y) :: S, w) := g_go (i := .iadd) (n := 1) (g := 0) (pl := []) rfl rfl
set_option maxRecDepth 100000 in
theorem e151_464 {X : Nat × (Nat → Int32)} {L S : List Value} {w : q_M} {i : Nat} (hi : i < X.1) (hX : X.1 ≤ 100000) : q_ex X (151, 464, L, .int (nI i) :: .float 2 :: S, w) = q_ex X (151, 465, L, .int (X.2 i) :: S, w) := g_xld (v := 2) (n := 1) (g := 0) (pl := []) rfl hi hX
set_option maxRecDepth 100000 in
theorem e151_465 {X : Nat × (Nat → Int32)} {S : List Value} {w : q_M} {a1 a2 a3 : Value} {x : UInt32} : q_ex X (151, 465, [.float x, a1, a2, a3], S, w) = q_ex X (151, 466, [.float x, a1, a2, a3], .float x :: S, w) := g_go (i := (.aload_n 0)) (n := 1) (g := 0) (pl := []) rfl rfl
set_option maxRecDepth 100000 in
theorem e151_466 {X : Nat × (Nat → Int32)} {S : List Value} {w : q_M} {a0 a1 a2 : Value} {x : Int32} : q_ex X (151, 466, [a0, a1, a2, .int x], S, w) = q_ex X (151, 467, [a0, a1, a2, .int x], .int x :: S, w) := g_go (i := (.iload_n 3)) (n := 1) (g := 0) (pl := []) rfl rfl
set_option maxRecDepth 100000 in
theorem e151_467 {X : Nat × (Nat → Int32)} {L S : List Value} {w : q_M} : q_ex X (151, 467, L, S, w) = q_ex X (151, 468, L, .int (nI 3) :: S, w) := g_go (i := (.iconst 3)) (n := 1) (g := 0) (pl := []) rfl rfl
set_option maxRecDepth 100000 in
theorem e151_468 {X : Nat × (Nat → Int32)} {L S : List Value} {w : q_M} {x y : Int32} : q_ex X (151, 468, L, .int y :: .int x :: S, w) = q_ex X (151, 469, L, .int (x + y) :: S, w) := g_go (i := .iadd) (n := 1) (g := 0) (pl := []) rfl rfl
set_option maxRecDepth 100000 in
theorem e151_469 {X : Nat × (Nat → Int32)} {L S : List Value} {w : q_M} {i : Nat} (hi : i < X.1) (hX : X.1 ≤ 100000) : q_ex X (151, 469, L, .int (nI i) :: .float 2 :: S, w) = q_ex X (151, 470, L, .int (X.2 i) :: S, w) := g_xld (v := 2) (n := 1) (g := 0) (pl := []) rfl hi hX
set_option maxRecDepth 100000 in
theorem e151_470 {X : Nat × (Nat → Int32)} {L : List Value} {t u : Nat} {F : Nat → Nat → Int32} {J : Nat → Int64} {x1 : Int32} {x2 : Int32} {x3 : Int32}  : q_ex X (151, 470, L, [.int x3, .int x2, .int x1, .ref 0], q_w t u F J) = (q_ex X (63, 0, [.ref 0, .int x1, .int x2, .int x3], [], q_w t u F J)).bind (fun r => q_ex X (151, 473, L, r.1.toList ++ [], r.2)) := g_call (i := (.invokevirtual 65)) (n := 3) (g := 63) (pl := []) rfl rfl
set_option maxRecDepth 100000 in
theorem e151_473 {X : Nat × (Nat → Int32)} {S : List Value} {w : q_M} {a0 a1 a3 : Value} {x : Nat} : q_ex X (151, 473, [a0, a1, .ref x, a3], S, w) = q_ex X (151, 474, [a0, a1, .ref x, a3], .ref x :: S, w) := g_go (i := (.aload_n 2)) (n := 1) (g := 0) (pl := []) rfl rfl
set_option maxRecDepth 100000 in
theorem e151_474 {X : Nat × (Nat → Int32)} {S : List Value} {w : q_M} {a1 a2 a3 : Value} {x : UInt32} : q_ex X (151, 474, [.float x, a1, a2, a3], S, w) = q_ex X (151, 475, [.float x, a1, a2, a3], .float x :: S, w) := g_go (i := (.aload_n 0)) (n := 1) (g := 0) (pl := []) rfl rfl
set_option maxRecDepth 100000 in
theorem e151_475 {X : Nat × (Nat → Int32)} {S : List Value} {w : q_M} {a0 a1 a2 : Value} {x : Int32} : q_ex X (151, 475, [a0, a1, a2, .int x], S, w) = q_ex X (151, 476, [a0, a1, a2, .int x], .int x :: S, w) := g_go (i := (.iload_n 3)) (n := 1) (g := 0) (pl := []) rfl rfl
set_option maxRecDepth 100000 in
theorem e151_476 {X : Nat × (Nat → Int32)} {L S : List Value} {w : q_M} : q_ex X (151, 476, L, S, w) = q_ex X (151, 477, L, .int (nI 1) :: S, w) := g_go (i := (.iconst 1)) (n := 1) (g := 0) (pl := []) rfl rfl
set_option maxRecDepth 100000 in
theorem e151_477 {X : Nat × (Nat → Int32)} {L S : List Value} {w : q_M} {x y : Int32} : q_ex X (151, 477, L, .int y :: .int x :: S, w) = q_ex X (151, 478, L, .int (x + y) :: S, w) := g_go (i := .iadd) (n := 1) (g := 0) (pl := []) rfl rfl
set_option maxRecDepth 100000 in
theorem e151_478 {X : Nat × (Nat → Int32)} {L S : List Value} {w : q_M} {i : Nat} (hi : i < X.1) (hX : X.1 ≤ 100000) : q_ex X (151, 478, L, .int (nI i) :: .float 2 :: S, w) = q_ex X (151, 479, L, .int (X.2 i) :: S, w) := g_xld (v := 2) (n := 1) (g := 0) (pl := []) rfl hi hX
set_option maxRecDepth 100000 in
theorem e151_479 {X : Nat × (Nat → Int32)} {S : List Value} {w : q_M} {a1 a2 a3 : Value} {x : UInt32} : q_ex X (151, 479, [.float x, a1, a2, a3], S, w) = q_ex X (151, 480, [.float x, a1, a2, a3], .float x :: S, w) := g_go (i := (.aload_n 0)) (n := 1) (g := 0) (pl := []) rfl rfl
set_option maxRecDepth 100000 in
theorem e151_480 {X : Nat × (Nat → Int32)} {S : List Value} {w : q_M} {a0 a1 a2 : Value} {x : Int32} : q_ex X (151, 480, [a0, a1, a2, .int x], S, w) = q_ex X (151, 481, [a0, a1, a2, .int x], .int x :: S, w) := g_go (i := (.iload_n 3)) (n := 1) (g := 0) (pl := []) rfl rfl
set_option maxRecDepth 100000 in
theorem e151_481 {X : Nat × (Nat → Int32)} {L S : List Value} {w : q_M} : q_ex X (151, 481, L, S, w) = q_ex X (151, 482, L, .int (nI 2) :: S, w) := g_go (i := (.iconst 2)) (n := 1) (g := 0) (pl := []) rfl rfl
set_option maxRecDepth 100000 in
theorem e151_482 {X : Nat × (Nat → Int32)} {L S : List Value} {w : q_M} {x y : Int32} : q_ex X (151, 482, L, .int y :: .int x :: S, w) = q_ex X (151, 483, L, .int (x + y) :: S, w) := g_go (i := .iadd) (n := 1) (g := 0) (pl := []) rfl rfl
set_option maxRecDepth 100000 in
theorem e151_483 {X : Nat × (Nat → Int32)} {L S : List Value} {w : q_M} {i : Nat} (hi : i < X.1) (hX : X.1 ≤ 100000) : q_ex X (151, 483, L, .int (nI i) :: .float 2 :: S, w) = q_ex X (151, 484, L, .int (X.2 i) :: S, w) := g_xld (v := 2) (n := 1) (g := 0) (pl := []) rfl hi hX
set_option maxRecDepth 100000 in
theorem e151_484 {X : Nat × (Nat → Int32)} {S : List Value} {w : q_M} {a1 a2 a3 : Value} {x : UInt32} : q_ex X (151, 484, [.float x, a1, a2, a3], S, w) = q_ex X (151, 485, [.float x, a1, a2, a3], .float x :: S, w) := g_go (i := (.aload_n 0)) (n := 1) (g := 0) (pl := []) rfl rfl
set_option maxRecDepth 100000 in
theorem e151_485 {X : Nat × (Nat → Int32)} {S : List Value} {w : q_M} {a0 a1 a2 : Value} {x : Int32} : q_ex X (151, 485, [a0, a1, a2, .int x], S, w) = q_ex X (151, 486, [a0, a1, a2, .int x], .int x :: S, w) := g_go (i := (.iload_n 3)) (n := 1) (g := 0) (pl := []) rfl rfl
set_option maxRecDepth 100000 in
theorem e151_486 {X : Nat × (Nat → Int32)} {L S : List Value} {w : q_M} : q_ex X (151, 486, L, S, w) = q_ex X (151, 487, L, .int (nI 3) :: S, w) := g_go (i := (.iconst 3)) (n := 1) (g := 0) (pl := []) rfl rfl
set_option maxRecDepth 100000 in
theorem e151_487 {X : Nat × (Nat → Int32)} {L S : List Value} {w : q_M} {x y : Int32} : q_ex X (151, 487, L, .int y :: .int x :: S, w) = q_ex X (151, 488, L, .int (x + y) :: S, w) := g_go (i := .iadd) (n := 1) (g := 0) (pl := []) rfl rfl
set_option maxRecDepth 100000 in
theorem e151_488 {X : Nat × (Nat → Int32)} {L S : List Value} {w : q_M} {i : Nat} (hi : i < X.1) (hX : X.1 ≤ 100000) : q_ex X (151, 488, L, .int (nI i) :: .float 2 :: S, w) = q_ex X (151, 489, L, .int (X.2 i) :: S, w) := g_xld (v := 2) (n := 1) (g := 0) (pl := []) rfl hi hX
set_option maxRecDepth 100000 in
theorem e151_489 {X : Nat × (Nat → Int32)} {L : List Value} {t u : Nat} {F : Nat → Nat → Int32} {J : Nat → Int64} {x1 : Int32} {x2 : Int32} {x3 : Int32} {s0 : Value} : q_ex X (151, 489, L, [.int x3, .int x2, .int x1, .ref 72, s0], q_w t u F J) = (q_ex X (118, 0, [.ref 72, .int x1, .int x2, .int x3], [], q_w t u F J)).bind (fun r => q_ex X (151, 492, L, r.1.toList ++ [s0], r.2)) := g_call (i := (.invokevirtual 68)) (n := 3) (g := 118) (pl := []) rfl rfl
set_option maxRecDepth 100000 in
theorem e151_492 {X : Nat × (Nat → Int32)} {L S : List Value} {w : q_M} {x y : Int32} : q_ex X (151, 492, L, .int y :: .int x :: S, w) = if x = y then q_ex X (151, 825, L, S, w) else q_ex X (151, 495, L, S, w) := g_c2 (i := (.if_icmp .eq 333)) (n := 3) (g := 825) (pl := []) (P := fun x y => x = y) (fun _ _ => inferInstance) rfl rfl
set_option maxRecDepth 100000 in
theorem e151_495 {X : Nat × (Nat → Int32)} {L S : List Value} {w : q_M} : q_ex X (151, 495, L, S, w) = q_ex X (151, 496, L, .int (nI 0) :: S, w) := g_go (i := (.iconst 0)) (n := 1) (g := 0) (pl := []) rfl rfl
set_option maxRecDepth 100000 in
theorem e151_496 {X : Nat × (Nat → Int32)} {L : List Value} {w : q_M} {x : Int32} (hx : x = nI 0 ∨ x = nI 1) : q_ex X (151, 496, L, [.int x], w) = some (some (.int x), w) := g_retZ (n := 1) (g := 0) (pl := []) rfl rfl hx
set_option maxRecDepth 100000 in
theorem e151_497 {X : Nat × (Nat → Int32)} {S : List Value} {w : q_M} {a0 a2 a3 : Value} {x : Nat} : q_ex X (151, 497, [a0, .ref x, a2, a3], S, w) = q_ex X (151, 498, [a0, .ref x, a2, a3], .ref x :: S, w) := g_go (i := (.aload_n 1)) (n := 1) (g := 0) (pl := []) rfl rfl
set_option maxRecDepth 100000 in
theorem e151_498 {X : Nat × (Nat → Int32)} {S : List Value} {w : q_M} {a1 a2 a3 : Value} {x : UInt32} : q_ex X (151, 498, [.float x, a1, a2, a3], S, w) = q_ex X (151, 499, [.float x, a1, a2, a3], .float x :: S, w) := g_go (i := (.aload_n 0)) (n := 1) (g := 0) (pl := []) rfl rfl
set_option maxRecDepth 100000 in
theorem e151_499 {X : Nat × (Nat → Int32)} {S : List Value} {w : q_M} {a0 a1 a2 : Value} {x : Int32} : q_ex X (151, 499, [a0, a1, a2, .int x], S, w) = q_ex X (151, 500, [a0, a1, a2, .int x], .int x :: S, w) := g_go (i := (.iload_n 3)) (n := 1) (g := 0) (pl := []) rfl rfl
set_option maxRecDepth 100000 in
theorem e151_500 {X : Nat × (Nat → Int32)} {L S : List Value} {w : q_M} : q_ex X (151, 500, L, S, w) = q_ex X (151, 501, L, .int (nI 1) :: S, w) := g_go (i := (.iconst 1)) (n := 1) (g := 0) (pl := []) rfl rfl
set_option maxRecDepth 100000 in
theorem e151_501 {X : Nat × (Nat → Int32)} {L S : List Value} {w : q_M} {x y : Int32} : q_ex X (151, 501, L, .int y :: .int x :: S, w) = q_ex X (151, 502, L, .int (x + y) :: S, w) := g_go (i := .iadd) (n := 1) (g := 0) (pl := []) rfl rfl
set_option maxRecDepth 100000 in
theorem e151_502 {X : Nat × (Nat → Int32)} {L S : List Value} {w : q_M} {i : Nat} (hi : i < X.1) (hX : X.1 ≤ 100000) : q_ex X (151, 502, L, .int (nI i) :: .float 2 :: S, w) = q_ex X (151, 503, L, .int (X.2 i) :: S, w) := g_xld (v := 2) (n := 1) (g := 0) (pl := []) rfl hi hX
set_option maxRecDepth 100000 in
theorem e151_503 {X : Nat × (Nat → Int32)} {S : List Value} {w : q_M} {a1 a2 a3 : Value} {x : UInt32} : q_ex X (151, 503, [.float x, a1, a2, a3], S, w) = q_ex X (151, 504, [.float x, a1, a2, a3], .float x :: S, w) := g_go (i := (.aload_n 0)) (n := 1) (g := 0) (pl := []) rfl rfl
set_option maxRecDepth 100000 in
theorem e151_504 {X : Nat × (Nat → Int32)} {S : List Value} {w : q_M} {a0 a1 a2 : Value} {x : Int32} : q_ex X (151, 504, [a0, a1, a2, .int x], S, w) = q_ex X (151, 505, [a0, a1, a2, .int x], .int x :: S, w) := g_go (i := (.iload_n 3)) (n := 1) (g := 0) (pl := []) rfl rfl
set_option maxRecDepth 100000 in
theorem e151_505 {X : Nat × (Nat → Int32)} {L S : List Value} {w : q_M} : q_ex X (151, 505, L, S, w) = q_ex X (151, 506, L, .int (nI 2) :: S, w) := g_go (i := (.iconst 2)) (n := 1) (g := 0) (pl := []) rfl rfl
set_option maxRecDepth 100000 in
theorem e151_506 {X : Nat × (Nat → Int32)} {L S : List Value} {w : q_M} {x y : Int32} : q_ex X (151, 506, L, .int y :: .int x :: S, w) = q_ex X (151, 507, L, .int (x + y) :: S, w) := g_go (i := .iadd) (n := 1) (g := 0) (pl := []) rfl rfl
set_option maxRecDepth 100000 in
theorem e151_507 {X : Nat × (Nat → Int32)} {L S : List Value} {w : q_M} {i : Nat} (hi : i < X.1) (hX : X.1 ≤ 100000) : q_ex X (151, 507, L, .int (nI i) :: .float 2 :: S, w) = q_ex X (151, 508, L, .int (X.2 i) :: S, w) := g_xld (v := 2) (n := 1) (g := 0) (pl := []) rfl hi hX
set_option maxRecDepth 100000 in
theorem e151_508 {X : Nat × (Nat → Int32)} {S : List Value} {w : q_M} {a1 a2 a3 : Value} {x : UInt32} : q_ex X (151, 508, [.float x, a1, a2, a3], S, w) = q_ex X (151, 509, [.float x, a1, a2, a3], .float x :: S, w) := g_go (i := (.aload_n 0)) (n := 1) (g := 0) (pl := []) rfl rfl
set_option maxRecDepth 100000 in
theorem e151_509 {X : Nat × (Nat → Int32)} {S : List Value} {w : q_M} {a0 a1 a2 : Value} {x : Int32} : q_ex X (151, 509, [a0, a1, a2, .int x], S, w) = q_ex X (151, 510, [a0, a1, a2, .int x], .int x :: S, w) := g_go (i := (.iload_n 3)) (n := 1) (g := 0) (pl := []) rfl rfl
set_option maxRecDepth 100000 in
theorem e151_510 {X : Nat × (Nat → Int32)} {L S : List Value} {w : q_M} : q_ex X (151, 510, L, S, w) = q_ex X (151, 511, L, .int (nI 3) :: S, w) := g_go (i := (.iconst 3)) (n := 1) (g := 0) (pl := []) rfl rfl
set_option maxRecDepth 100000 in
theorem e151_511 {X : Nat × (Nat → Int32)} {L S : List Value} {w : q_M} {x y : Int32} : q_ex X (151, 511, L, .int y :: .int x :: S, w) = q_ex X (151, 512, L, .int (x + y) :: S, w) := g_go (i := .iadd) (n := 1) (g := 0) (pl := []) rfl rfl
set_option maxRecDepth 100000 in
theorem e151_512 {X : Nat × (Nat → Int32)} {L S : List Value} {w : q_M} {i : Nat} (hi : i < X.1) (hX : X.1 ≤ 100000) : q_ex X (151, 512, L, .int (nI i) :: .float 2 :: S, w) = q_ex X (151, 513, L, .int (X.2 i) :: S, w) := g_xld (v := 2) (n := 1) (g := 0) (pl := []) rfl hi hX
set_option maxRecDepth 100000 in
theorem e151_513 {X : Nat × (Nat → Int32)} {S : List Value} {w : q_M} {a1 a2 a3 : Value} {x : UInt32} : q_ex X (151, 513, [.float x, a1, a2, a3], S, w) = q_ex X (151, 514, [.float x, a1, a2, a3], .float x :: S, w) := g_go (i := (.aload_n 0)) (n := 1) (g := 0) (pl := []) rfl rfl
set_option maxRecDepth 100000 in
theorem e151_514 {X : Nat × (Nat → Int32)} {S : List Value} {w : q_M} {a0 a1 a2 : Value} {x : Int32} : q_ex X (151, 514, [a0, a1, a2, .int x], S, w) = q_ex X (151, 515, [a0, a1, a2, .int x], .int x :: S, w) := g_go (i := (.iload_n 3)) (n := 1) (g := 0) (pl := []) rfl rfl
set_option maxRecDepth 100000 in
theorem e151_515 {X : Nat × (Nat → Int32)} {L S : List Value} {w : q_M} : q_ex X (151, 515, L, S, w) = q_ex X (151, 516, L, .int (nI 4) :: S, w) := g_go (i := (.iconst 4)) (n := 1) (g := 0) (pl := []) rfl rfl
set_option maxRecDepth 100000 in
theorem e151_516 {X : Nat × (Nat → Int32)} {L S : List Value} {w : q_M} {x y : Int32} : q_ex X (151, 516, L, .int y :: .int x :: S, w) = q_ex X (151, 517, L, .int (x + y) :: S, w) := g_go (i := .iadd) (n := 1) (g := 0) (pl := []) rfl rfl
set_option maxRecDepth 100000 in
theorem e151_517 {X : Nat × (Nat → Int32)} {L S : List Value} {w : q_M} {i : Nat} (hi : i < X.1) (hX : X.1 ≤ 100000) : q_ex X (151, 517, L, .int (nI i) :: .float 2 :: S, w) = q_ex X (151, 518, L, .int (X.2 i) :: S, w) := g_xld (v := 2) (n := 1) (g := 0) (pl := []) rfl hi hX
set_option maxRecDepth 100000 in
theorem e151_518 {X : Nat × (Nat → Int32)} {S : List Value} {w : q_M} {a1 a2 a3 : Value} {x : UInt32} : q_ex X (151, 518, [.float x, a1, a2, a3], S, w) = q_ex X (151, 519, [.float x, a1, a2, a3], .float x :: S, w) := g_go (i := (.aload_n 0)) (n := 1) (g := 0) (pl := []) rfl rfl
set_option maxRecDepth 100000 in
theorem e151_519 {X : Nat × (Nat → Int32)} {S : List Value} {w : q_M} {a0 a1 a2 : Value} {x : Int32} : q_ex X (151, 519, [a0, a1, a2, .int x], S, w) = q_ex X (151, 520, [a0, a1, a2, .int x], .int x :: S, w) := g_go (i := (.iload_n 3)) (n := 1) (g := 0) (pl := []) rfl rfl
set_option maxRecDepth 100000 in
theorem e151_520 {X : Nat × (Nat → Int32)} {L S : List Value} {w : q_M} : q_ex X (151, 520, L, S, w) = q_ex X (151, 521, L, .int (nI 5) :: S, w) := g_go (i := (.iconst 5)) (n := 1) (g := 0) (pl := []) rfl rfl
set_option maxRecDepth 100000 in
theorem e151_521 {X : Nat × (Nat → Int32)} {L S : List Value} {w : q_M} {x y : Int32} : q_ex X (151, 521, L, .int y :: .int x :: S, w) = q_ex X (151, 522, L, .int (x + y) :: S, w) := g_go (i := .iadd) (n := 1) (g := 0) (pl := []) rfl rfl
set_option maxRecDepth 100000 in
theorem e151_522 {X : Nat × (Nat → Int32)} {L S : List Value} {w : q_M} {i : Nat} (hi : i < X.1) (hX : X.1 ≤ 100000) : q_ex X (151, 522, L, .int (nI i) :: .float 2 :: S, w) = q_ex X (151, 523, L, .int (X.2 i) :: S, w) := g_xld (v := 2) (n := 1) (g := 0) (pl := []) rfl hi hX
set_option maxRecDepth 100000 in
theorem e151_523 {X : Nat × (Nat → Int32)} {S : List Value} {w : q_M} {a1 a2 a3 : Value} {x : UInt32} : q_ex X (151, 523, [.float x, a1, a2, a3], S, w) = q_ex X (151, 524, [.float x, a1, a2, a3], .float x :: S, w) := g_go (i := (.aload_n 0)) (n := 1) (g := 0) (pl := []) rfl rfl
set_option maxRecDepth 100000 in
theorem e151_524 {X : Nat × (Nat → Int32)} {S : List Value} {w : q_M} {a0 a1 a2 : Value} {x : Int32} : q_ex X (151, 524, [a0, a1, a2, .int x], S, w) = q_ex X (151, 525, [a0, a1, a2, .int x], .int x :: S, w) := g_go (i := (.iload_n 3)) (n := 1) (g := 0) (pl := []) rfl rfl
set_option maxRecDepth 100000 in
theorem e151_525 {X : Nat × (Nat → Int32)} {L S : List Value} {w : q_M} : q_ex X (151, 525, L, S, w) = q_ex X (151, 527, L, .int (nI 6) :: S, w) := g_go (i := (.bipush 6)) (n := 2) (g := 0) (pl := []) rfl rfl
set_option maxRecDepth 100000 in
theorem e151_527 {X : Nat × (Nat → Int32)} {L S : List Value} {w : q_M} {x y : Int32} : q_ex X (151, 527, L, .int y :: .int x :: S, w) = q_ex X (151, 528, L, .int (x + y) :: S, w) := g_go (i := .iadd) (n := 1) (g := 0) (pl := []) rfl rfl
set_option maxRecDepth 100000 in
theorem e151_528 {X : Nat × (Nat → Int32)} {L S : List Value} {w : q_M} {i : Nat} (hi : i < X.1) (hX : X.1 ≤ 100000) : q_ex X (151, 528, L, .int (nI i) :: .float 2 :: S, w) = q_ex X (151, 529, L, .int (X.2 i) :: S, w) := g_xld (v := 2) (n := 1) (g := 0) (pl := []) rfl hi hX
set_option maxRecDepth 100000 in
theorem e151_529 {X : Nat × (Nat → Int32)} {L : List Value} {t u : Nat} {F : Nat → Nat → Int32} {J : Nat → Int64} {x1 : Int32} {x2 : Int32} {x3 : Int32} {x4 : Int32} {x5 : Int32} {x6 : Int32}  : q_ex X (151, 529, L, [.int x6, .int x5, .int x4, .int x3, .int x2, .int x1, .ref 0], q_w t u F J) = (q_ex X (64, 0, [.ref 0, .int x1, .int x2, .int x3, .int x4, .int x5, .int x6, .null], [], q_w t u F J)).bind (fun r => q_ex X (151, 532, L, r.1.toList ++ [], r.2)) := g_call (i := (.invokevirtual 69)) (n := 3) (g := 64) (pl := []) rfl rfl
set_option maxRecDepth 100000 in
theorem e151_532 {X : Nat × (Nat → Int32)} {S : List Value} {w : q_M} {a0 a1 a3 : Value} {x : Nat} : q_ex X (151, 532, [a0, a1, .ref x, a3], S, w) = q_ex X (151, 533, [a0, a1, .ref x, a3], .ref x :: S, w) := g_go (i := (.aload_n 2)) (n := 1) (g := 0) (pl := []) rfl rfl
set_option maxRecDepth 100000 in
theorem e151_533 {X : Nat × (Nat → Int32)} {S : List Value} {w : q_M} {a1 a2 a3 : Value} {x : UInt32} : q_ex X (151, 533, [.float x, a1, a2, a3], S, w) = q_ex X (151, 534, [.float x, a1, a2, a3], .float x :: S, w) := g_go (i := (.aload_n 0)) (n := 1) (g := 0) (pl := []) rfl rfl
set_option maxRecDepth 100000 in
theorem e151_534 {X : Nat × (Nat → Int32)} {S : List Value} {w : q_M} {a0 a1 a2 : Value} {x : Int32} : q_ex X (151, 534, [a0, a1, a2, .int x], S, w) = q_ex X (151, 535, [a0, a1, a2, .int x], .int x :: S, w) := g_go (i := (.iload_n 3)) (n := 1) (g := 0) (pl := []) rfl rfl
set_option maxRecDepth 100000 in
theorem e151_535 {X : Nat × (Nat → Int32)} {L S : List Value} {w : q_M} : q_ex X (151, 535, L, S, w) = q_ex X (151, 536, L, .int (nI 1) :: S, w) := g_go (i := (.iconst 1)) (n := 1) (g := 0) (pl := []) rfl rfl
set_option maxRecDepth 100000 in
theorem e151_536 {X : Nat × (Nat → Int32)} {L S : List Value} {w : q_M} {x y : Int32} : q_ex X (151, 536, L, .int y :: .int x :: S, w) = q_ex X (151, 537, L, .int (x + y) :: S, w) := g_go (i := .iadd) (n := 1) (g := 0) (pl := []) rfl rfl
set_option maxRecDepth 100000 in
theorem e151_537 {X : Nat × (Nat → Int32)} {L S : List Value} {w : q_M} {i : Nat} (hi : i < X.1) (hX : X.1 ≤ 100000) : q_ex X (151, 537, L, .int (nI i) :: .float 2 :: S, w) = q_ex X (151, 538, L, .int (X.2 i) :: S, w) := g_xld (v := 2) (n := 1) (g := 0) (pl := []) rfl hi hX
set_option maxRecDepth 100000 in
theorem e151_538 {X : Nat × (Nat → Int32)} {S : List Value} {w : q_M} {a1 a2 a3 : Value} {x : UInt32} : q_ex X (151, 538, [.float x, a1, a2, a3], S, w) = q_ex X (151, 539, [.float x, a1, a2, a3], .float x :: S, w) := g_go (i := (.aload_n 0)) (n := 1) (g := 0) (pl := []) rfl rfl
set_option maxRecDepth 100000 in
theorem e151_539 {X : Nat × (Nat → Int32)} {S : List Value} {w : q_M} {a0 a1 a2 : Value} {x : Int32} : q_ex X (151, 539, [a0, a1, a2, .int x], S, w) = q_ex X (151, 540, [a0, a1, a2, .int x], .int x :: S, w) := g_go (i := (.iload_n 3)) (n := 1) (g := 0) (pl := []) rfl rfl
set_option maxRecDepth 100000 in
theorem e151_540 {X : Nat × (Nat → Int32)} {L S : List Value} {w : q_M} : q_ex X (151, 540, L, S, w) = q_ex X (151, 541, L, .int (nI 2) :: S, w) := g_go (i := (.iconst 2)) (n := 1) (g := 0) (pl := []) rfl rfl
set_option maxRecDepth 100000 in
theorem e151_541 {X : Nat × (Nat → Int32)} {L S : List Value} {w : q_M} {x y : Int32} : q_ex X (151, 541, L, .int y :: .int x :: S, w) = q_ex X (151, 542, L, .int (x + y) :: S, w) := g_go (i := .iadd) (n := 1) (g := 0) (pl := []) rfl rfl
set_option maxRecDepth 100000 in
theorem e151_542 {X : Nat × (Nat → Int32)} {L S : List Value} {w : q_M} {i : Nat} (hi : i < X.1) (hX : X.1 ≤ 100000) : q_ex X (151, 542, L, .int (nI i) :: .float 2 :: S, w) = q_ex X (151, 543, L, .int (X.2 i) :: S, w) := g_xld (v := 2) (n := 1) (g := 0) (pl := []) rfl hi hX
set_option maxRecDepth 100000 in
theorem e151_543 {X : Nat × (Nat → Int32)} {S : List Value} {w : q_M} {a1 a2 a3 : Value} {x : UInt32} : q_ex X (151, 543, [.float x, a1, a2, a3], S, w) = q_ex X (151, 544, [.float x, a1, a2, a3], .float x :: S, w) := g_go (i := (.aload_n 0)) (n := 1) (g := 0) (pl := []) rfl rfl
set_option maxRecDepth 100000 in
theorem e151_544 {X : Nat × (Nat → Int32)} {S : List Value} {w : q_M} {a0 a1 a2 : Value} {x : Int32} : q_ex X (151, 544, [a0, a1, a2, .int x], S, w) = q_ex X (151, 545, [a0, a1, a2, .int x], .int x :: S, w) := g_go (i := (.iload_n 3)) (n := 1) (g := 0) (pl := []) rfl rfl
set_option maxRecDepth 100000 in
theorem e151_545 {X : Nat × (Nat → Int32)} {L S : List Value} {w : q_M} : q_ex X (151, 545, L, S, w) = q_ex X (151, 546, L, .int (nI 3) :: S, w) := g_go (i := (.iconst 3)) (n := 1) (g := 0) (pl := []) rfl rfl
set_option maxRecDepth 100000 in
theorem e151_546 {X : Nat × (Nat → Int32)} {L S : List Value} {w : q_M} {x y : Int32} : q_ex X (151, 546, L, .int y :: .int x :: S, w) = q_ex X (151, 547, L, .int (x + y) :: S, w) := g_go (i := .iadd) (n := 1) (g := 0) (pl := []) rfl rfl
set_option maxRecDepth 100000 in
theorem e151_547 {X : Nat × (Nat → Int32)} {L S : List Value} {w : q_M} {i : Nat} (hi : i < X.1) (hX : X.1 ≤ 100000) : q_ex X (151, 547, L, .int (nI i) :: .float 2 :: S, w) = q_ex X (151, 548, L, .int (X.2 i) :: S, w) := g_xld (v := 2) (n := 1) (g := 0) (pl := []) rfl hi hX
set_option maxRecDepth 100000 in
theorem e151_548 {X : Nat × (Nat → Int32)} {S : List Value} {w : q_M} {a1 a2 a3 : Value} {x : UInt32} : q_ex X (151, 548, [.float x, a1, a2, a3], S, w) = q_ex X (151, 549, [.float x, a1, a2, a3], .float x :: S, w) := g_go (i := (.aload_n 0)) (n := 1) (g := 0) (pl := []) rfl rfl
set_option maxRecDepth 100000 in
theorem e151_549 {X : Nat × (Nat → Int32)} {S : List Value} {w : q_M} {a0 a1 a2 : Value} {x : Int32} : q_ex X (151, 549, [a0, a1, a2, .int x], S, w) = q_ex X (151, 550, [a0, a1, a2, .int x], .int x :: S, w) := g_go (i := (.iload_n 3)) (n := 1) (g := 0) (pl := []) rfl rfl
set_option maxRecDepth 100000 in
theorem e151_550 {X : Nat × (Nat → Int32)} {L S : List Value} {w : q_M} : q_ex X (151, 550, L, S, w) = q_ex X (151, 551, L, .int (nI 4) :: S, w) := g_go (i := (.iconst 4)) (n := 1) (g := 0) (pl := []) rfl rfl
set_option maxRecDepth 100000 in
theorem e151_551 {X : Nat × (Nat → Int32)} {L S : List Value} {w : q_M} {x y : Int32} : q_ex X (151, 551, L, .int y :: .int x :: S, w) = q_ex X (151, 552, L, .int (x + y) :: S, w) := g_go (i := .iadd) (n := 1) (g := 0) (pl := []) rfl rfl
set_option maxRecDepth 100000 in
theorem e151_552 {X : Nat × (Nat → Int32)} {L S : List Value} {w : q_M} {i : Nat} (hi : i < X.1) (hX : X.1 ≤ 100000) : q_ex X (151, 552, L, .int (nI i) :: .float 2 :: S, w) = q_ex X (151, 553, L, .int (X.2 i) :: S, w) := g_xld (v := 2) (n := 1) (g := 0) (pl := []) rfl hi hX
set_option maxRecDepth 100000 in
theorem e151_553 {X : Nat × (Nat → Int32)} {S : List Value} {w : q_M} {a1 a2 a3 : Value} {x : UInt32} : q_ex X (151, 553, [.float x, a1, a2, a3], S, w) = q_ex X (151, 554, [.float x, a1, a2, a3], .float x :: S, w) := g_go (i := (.aload_n 0)) (n := 1) (g := 0) (pl := []) rfl rfl
set_option maxRecDepth 100000 in
theorem e151_554 {X : Nat × (Nat → Int32)} {S : List Value} {w : q_M} {a0 a1 a2 : Value} {x : Int32} : q_ex X (151, 554, [a0, a1, a2, .int x], S, w) = q_ex X (151, 555, [a0, a1, a2, .int x], .int x :: S, w) := g_go (i := (.iload_n 3)) (n := 1) (g := 0) (pl := []) rfl rfl
set_option maxRecDepth 100000 in
theorem e151_555 {X : Nat × (Nat → Int32)} {L S : List Value} {w : q_M} : q_ex X (151, 555, L, S, w) = q_ex X (151, 556, L, .int (nI 5) :: S, w) := g_go (i := (.iconst 5)) (n := 1) (g := 0) (pl := []) rfl rfl
set_option maxRecDepth 100000 in
theorem e151_556 {X : Nat × (Nat → Int32)} {L S : List Value} {w : q_M} {x y : Int32} : q_ex X (151, 556, L, .int y :: .int x :: S, w) = q_ex X (151, 557, L, .int (x + y) :: S, w) := g_go (i := .iadd) (n := 1) (g := 0) (pl := []) rfl rfl
set_option maxRecDepth 100000 in
theorem e151_557 {X : Nat × (Nat → Int32)} {L S : List Value} {w : q_M} {i : Nat} (hi : i < X.1) (hX : X.1 ≤ 100000) : q_ex X (151, 557, L, .int (nI i) :: .float 2 :: S, w) = q_ex X (151, 558, L, .int (X.2 i) :: S, w) := g_xld (v := 2) (n := 1) (g := 0) (pl := []) rfl hi hX
set_option maxRecDepth 100000 in
theorem e151_558 {X : Nat × (Nat → Int32)} {S : List Value} {w : q_M} {a1 a2 a3 : Value} {x : UInt32} : q_ex X (151, 558, [.float x, a1, a2, a3], S, w) = q_ex X (151, 559, [.float x, a1, a2, a3], .float x :: S, w) := g_go (i := (.aload_n 0)) (n := 1) (g := 0) (pl := []) rfl rfl
set_option maxRecDepth 100000 in
theorem e151_559 {X : Nat × (Nat → Int32)} {S : List Value} {w : q_M} {a0 a1 a2 : Value} {x : Int32} : q_ex X (151, 559, [a0, a1, a2, .int x], S, w) = q_ex X (151, 560, [a0, a1, a2, .int x], .int x :: S, w) := g_go (i := (.iload_n 3)) (n := 1) (g := 0) (pl := []) rfl rfl
set_option maxRecDepth 100000 in
theorem e151_560 {X : Nat × (Nat → Int32)} {L S : List Value} {w : q_M} : q_ex X (151, 560, L, S, w) = q_ex X (151, 562, L, .int (nI 6) :: S, w) := g_go (i := (.bipush 6)) (n := 2) (g := 0) (pl := []) rfl rfl
set_option maxRecDepth 100000 in
theorem e151_562 {X : Nat × (Nat → Int32)} {L S : List Value} {w : q_M} {x y : Int32} : q_ex X (151, 562, L, .int y :: .int x :: S, w) = q_ex X (151, 563, L, .int (x + y) :: S, w) := g_go (i := .iadd) (n := 1) (g := 0) (pl := []) rfl rfl
set_option maxRecDepth 100000 in
theorem e151_563 {X : Nat × (Nat → Int32)} {L S : List Value} {w : q_M} {i : Nat} (hi : i < X.1) (hX : X.1 ≤ 100000) : q_ex X (151, 563, L, .int (nI i) :: .float 2 :: S, w) = q_ex X (151, 564, L, .int (X.2 i) :: S, w) := g_xld (v := 2) (n := 1) (g := 0) (pl := []) rfl hi hX
set_option maxRecDepth 100000 in
theorem e151_564 {X : Nat × (Nat → Int32)} {L : List Value} {t u : Nat} {F : Nat → Nat → Int32} {J : Nat → Int64} {x1 : Int32} {x2 : Int32} {x3 : Int32} {x4 : Int32} {x5 : Int32} {x6 : Int32} {s0 : Value} : q_ex X (151, 564, L, [.int x6, .int x5, .int x4, .int x3, .int x2, .int x1, .ref 72, s0], q_w t u F J) = (q_ex X (125, 0, [.ref 72, .int x1, .int x2, .int x3, .int x4, .int x5, .int x6], [], q_w t u F J)).bind (fun r => q_ex X (151, 567, L, r.1.toList ++ [s0], r.2)) := g_call (i := (.invokevirtual 73)) (n := 3) (g := 125) (pl := []) rfl rfl
set_option maxRecDepth 100000 in
theorem e151_567 {X : Nat × (Nat → Int32)} {L S : List Value} {w : q_M} {x y : Int32} : q_ex X (151, 567, L, .int y :: .int x :: S, w) = if x = y then q_ex X (151, 825, L, S, w) else q_ex X (151, 570, L, S, w) := g_c2 (i := (.if_icmp .eq 258)) (n := 3) (g := 825) (pl := []) (P := fun x y => x = y) (fun _ _ => inferInstance) rfl rfl
set_option maxRecDepth 100000 in
theorem e151_570 {X : Nat × (Nat → Int32)} {L S : List Value} {w : q_M} : q_ex X (151, 570, L, S, w) = q_ex X (151, 571, L, .int (nI 0) :: S, w) := g_go (i := (.iconst 0)) (n := 1) (g := 0) (pl := []) rfl rfl
set_option maxRecDepth 100000 in
theorem e151_571 {X : Nat × (Nat → Int32)} {L : List Value} {w : q_M} {x : Int32} (hx : x = nI 0 ∨ x = nI 1) : q_ex X (151, 571, L, [.int x], w) = some (some (.int x), w) := g_retZ (n := 1) (g := 0) (pl := []) rfl rfl hx
set_option maxRecDepth 100000 in
theorem e151_572 {X : Nat × (Nat → Int32)} {S : List Value} {w : q_M} {a0 a2 a3 : Value} {x : Nat} : q_ex X (151, 572, [a0, .ref x, a2, a3], S, w) = q_ex X (151, 573, [a0, .ref x, a2, a3], .ref x :: S, w) := g_go (i := (.aload_n 1)) (n := 1) (g := 0) (pl := []) rfl rfl
set_option maxRecDepth 100000 in
theorem e151_573 {X : Nat × (Nat → Int32)} {S : List Value} {w : q_M} {a1 a2 a3 : Value} {x : UInt32} : q_ex X (151, 573, [.float x, a1, a2, a3], S, w) = q_ex X (151, 574, [.float x, a1, a2, a3], .float x :: S, w) := g_go (i := (.aload_n 0)) (n := 1) (g := 0) (pl := []) rfl rfl
set_option maxRecDepth 100000 in
theorem e151_574 {X : Nat × (Nat → Int32)} {S : List Value} {w : q_M} {a0 a1 a2 : Value} {x : Int32} : q_ex X (151, 574, [a0, a1, a2, .int x], S, w) = q_ex X (151, 575, [a0, a1, a2, .int x], .int x :: S, w) := g_go (i := (.iload_n 3)) (n := 1) (g := 0) (pl := []) rfl rfl
set_option maxRecDepth 100000 in
theorem e151_575 {X : Nat × (Nat → Int32)} {L S : List Value} {w : q_M} : q_ex X (151, 575, L, S, w) = q_ex X (151, 576, L, .int (nI 1) :: S, w) := g_go (i := (.iconst 1)) (n := 1) (g := 0) (pl := []) rfl rfl
set_option maxRecDepth 100000 in
theorem e151_576 {X : Nat × (Nat → Int32)} {L S : List Value} {w : q_M} {x y : Int32} : q_ex X (151, 576, L, .int y :: .int x :: S, w) = q_ex X (151, 577, L, .int (x + y) :: S, w) := g_go (i := .iadd) (n := 1) (g := 0) (pl := []) rfl rfl
set_option maxRecDepth 100000 in
theorem e151_577 {X : Nat × (Nat → Int32)} {L S : List Value} {w : q_M} {i : Nat} (hi : i < X.1) (hX : X.1 ≤ 100000) : q_ex X (151, 577, L, .int (nI i) :: .float 2 :: S, w) = q_ex X (151, 578, L, .int (X.2 i) :: S, w) := g_xld (v := 2) (n := 1) (g := 0) (pl := []) rfl hi hX
set_option maxRecDepth 100000 in
theorem e151_578 {X : Nat × (Nat → Int32)} {S : List Value} {w : q_M} {a1 a2 a3 : Value} {x : UInt32} : q_ex X (151, 578, [.float x, a1, a2, a3], S, w) = q_ex X (151, 579, [.float x, a1, a2, a3], .float x :: S, w) := g_go (i := (.aload_n 0)) (n := 1) (g := 0) (pl := []) rfl rfl
set_option maxRecDepth 100000 in
theorem e151_579 {X : Nat × (Nat → Int32)} {S : List Value} {w : q_M} {a0 a1 a2 : Value} {x : Int32} : q_ex X (151, 579, [a0, a1, a2, .int x], S, w) = q_ex X (151, 580, [a0, a1, a2, .int x], .int x :: S, w) := g_go (i := (.iload_n 3)) (n := 1) (g := 0) (pl := []) rfl rfl
set_option maxRecDepth 100000 in
theorem e151_580 {X : Nat × (Nat → Int32)} {L S : List Value} {w : q_M} : q_ex X (151, 580, L, S, w) = q_ex X (151, 581, L, .int (nI 2) :: S, w) := g_go (i := (.iconst 2)) (n := 1) (g := 0) (pl := []) rfl rfl
set_option maxRecDepth 100000 in
theorem e151_581 {X : Nat × (Nat → Int32)} {L S : List Value} {w : q_M} {x y : Int32} : q_ex X (151, 581, L, .int y :: .int x :: S, w) = q_ex X (151, 582, L, .int (x + y) :: S, w) := g_go (i := .iadd) (n := 1) (g := 0) (pl := []) rfl rfl
set_option maxRecDepth 100000 in
theorem e151_582 {X : Nat × (Nat → Int32)} {L S : List Value} {w : q_M} {i : Nat} (hi : i < X.1) (hX : X.1 ≤ 100000) : q_ex X (151, 582, L, .int (nI i) :: .float 2 :: S, w) = q_ex X (151, 583, L, .int (X.2 i) :: S, w) := g_xld (v := 2) (n := 1) (g := 0) (pl := []) rfl hi hX
set_option maxRecDepth 100000 in
theorem e151_583 {X : Nat × (Nat → Int32)} {L : List Value} {t u : Nat} {F : Nat → Nat → Int32} {J : Nat → Int64} {x1 : Int32} {x2 : Int32}  : q_ex X (151, 583, L, [.int x2, .int x1, .ref 0], q_w t u F J) = (q_ex X (65, 0, [.ref 0, .int x1, .int x2, .null], [], q_w t u F J)).bind (fun r => q_ex X (151, 586, L, r.1.toList ++ [], r.2)) := g_call (i := (.invokevirtual 74)) (n := 3) (g := 65) (pl := []) rfl rfl
set_option maxRecDepth 100000 in
theorem e151_586 {X : Nat × (Nat → Int32)} {S : List Value} {w : q_M} {a0 a1 a3 : Value} {x : Nat} : q_ex X (151, 586, [a0, a1, .ref x, a3], S, w) = q_ex X (151, 587, [a0, a1, .ref x, a3], .ref x :: S, w) := g_go (i := (.aload_n 2)) (n := 1) (g := 0) (pl := []) rfl rfl
set_option maxRecDepth 100000 in
theorem e151_587 {X : Nat × (Nat → Int32)} {S : List Value} {w : q_M} {a1 a2 a3 : Value} {x : UInt32} : q_ex X (151, 587, [.float x, a1, a2, a3], S, w) = q_ex X (151, 588, [.float x, a1, a2, a3], .float x :: S, w) := g_go (i := (.aload_n 0)) (n := 1) (g := 0) (pl := []) rfl rfl
set_option maxRecDepth 100000 in
theorem e151_588 {X : Nat × (Nat → Int32)} {S : List Value} {w : q_M} {a0 a1 a2 : Value} {x : Int32} : q_ex X (151, 588, [a0, a1, a2, .int x], S, w) = q_ex X (151, 589, [a0, a1, a2, .int x], .int x :: S, w) := g_go (i := (.iload_n 3)) (n := 1) (g := 0) (pl := []) rfl rfl
set_option maxRecDepth 100000 in
theorem e151_589 {X : Nat × (Nat → Int32)} {L S : List Value} {w : q_M} : q_ex X (151, 589, L, S, w) = q_ex X (151, 590, L, .int (nI 1) :: S, w) := g_go (i := (.iconst 1)) (n := 1) (g := 0) (pl := []) rfl rfl
set_option maxRecDepth 100000 in
theorem e151_590 {X : Nat × (Nat → Int32)} {L S : List Value} {w : q_M} {x y : Int32} : q_ex X (151, 590, L, .int y :: .int x :: S, w) = q_ex X (151, 591, L, .int (x + y) :: S, w) := g_go (i := .iadd) (n := 1) (g := 0) (pl := []) rfl rfl
set_option maxRecDepth 100000 in
theorem e151_591 {X : Nat × (Nat → Int32)} {L S : List Value} {w : q_M} {i : Nat} (hi : i < X.1) (hX : X.1 ≤ 100000) : q_ex X (151, 591, L, .int (nI i) :: .float 2 :: S, w) = q_ex X (151, 592, L, .int (X.2 i) :: S, w) := g_xld (v := 2) (n := 1) (g := 0) (pl := []) rfl hi hX
set_option maxRecDepth 100000 in
theorem e151_592 {X : Nat × (Nat → Int32)} {S : List Value} {w : q_M} {a1 a2 a3 : Value} {x : UInt32} : q_ex X (151, 592, [.float x, a1, a2, a3], S, w) = q_ex X (151, 593, [.float x, a1, a2, a3], .float x :: S, w) := g_go (i := (.aload_n 0)) (n := 1) (g := 0) (pl := []) rfl rfl
set_option maxRecDepth 100000 in
theorem e151_593 {X : Nat × (Nat → Int32)} {S : List Value} {w : q_M} {a0 a1 a2 : Value} {x : Int32} : q_ex X (151, 593, [a0, a1, a2, .int x], S, w) = q_ex X (151, 594, [a0, a1, a2, .int x], .int x :: S, w) := g_go (i := (.iload_n 3)) (n := 1) (g := 0) (pl := []) rfl rfl
set_option maxRecDepth 100000 in
theorem e151_594 {X : Nat × (Nat → Int32)} {L S : List Value} {w : q_M} : q_ex X (151, 594, L, S, w) = q_ex X (151, 595, L, .int (nI 2) :: S, w) := g_go (i := (.iconst 2)) (n := 1) (g := 0) (pl := []) rfl rfl
set_option maxRecDepth 100000 in
theorem e151_595 {X : Nat × (Nat → Int32)} {L S : List Value} {w : q_M} {x y : Int32} : q_ex X (151, 595, L, .int y :: .int x :: S, w) = q_ex X (151, 596, L, .int (x + y) :: S, w) := g_go (i := .iadd) (n := 1) (g := 0) (pl := []) rfl rfl
set_option maxRecDepth 100000 in
theorem e151_596 {X : Nat × (Nat → Int32)} {L S : List Value} {w : q_M} {i : Nat} (hi : i < X.1) (hX : X.1 ≤ 100000) : q_ex X (151, 596, L, .int (nI i) :: .float 2 :: S, w) = q_ex X (151, 597, L, .int (X.2 i) :: S, w) := g_xld (v := 2) (n := 1) (g := 0) (pl := []) rfl hi hX
set_option maxRecDepth 100000 in
theorem e151_597 {X : Nat × (Nat → Int32)} {L : List Value} {t u : Nat} {F : Nat → Nat → Int32} {J : Nat → Int64} {x1 : Int32} {x2 : Int32} {s0 : Value} : q_ex X (151, 597, L, [.int x2, .int x1, .ref 72, s0], q_w t u F J) = (q_ex X (126, 0, [.ref 72, .int x1, .int x2], [], q_w t u F J)).bind (fun r => q_ex X (151, 600, L, r.1.toList ++ [s0], r.2)) := g_call (i := (.invokevirtual 77)) (n := 3) (g := 126) (pl := []) rfl rfl
set_option maxRecDepth 100000 in
theorem e151_600 {X : Nat × (Nat → Int32)} {L S : List Value} {w : q_M} {x y : Int32} : q_ex X (151, 600, L, .int y :: .int x :: S, w) = if x = y then q_ex X (151, 825, L, S, w) else q_ex X (151, 603, L, S, w) := g_c2 (i := (.if_icmp .eq 225)) (n := 3) (g := 825) (pl := []) (P := fun x y => x = y) (fun _ _ => inferInstance) rfl rfl
set_option maxRecDepth 100000 in
theorem e151_603 {X : Nat × (Nat → Int32)} {L S : List Value} {w : q_M} : q_ex X (151, 603, L, S, w) = q_ex X (151, 604, L, .int (nI 0) :: S, w) := g_go (i := (.iconst 0)) (n := 1) (g := 0) (pl := []) rfl rfl
set_option maxRecDepth 100000 in
theorem e151_604 {X : Nat × (Nat → Int32)} {L : List Value} {w : q_M} {x : Int32} (hx : x = nI 0 ∨ x = nI 1) : q_ex X (151, 604, L, [.int x], w) = some (some (.int x), w) := g_retZ (n := 1) (g := 0) (pl := []) rfl rfl hx
set_option maxRecDepth 100000 in
theorem e151_605 {X : Nat × (Nat → Int32)} {S : List Value} {w : q_M} {a0 a2 a3 : Value} {x : Nat} : q_ex X (151, 605, [a0, .ref x, a2, a3], S, w) = q_ex X (151, 606, [a0, .ref x, a2, a3], .ref x :: S, w) := g_go (i := (.aload_n 1)) (n := 1) (g := 0) (pl := []) rfl rfl
set_option maxRecDepth 100000 in
theorem e151_606 {X : Nat × (Nat → Int32)} {L : List Value} {t u : Nat} {F : Nat → Nat → Int32} {J : Nat → Int64}   : q_ex X (151, 606, L, [.ref 0], q_w t u F J) = (q_ex X (66, 0, [.ref 0], [], q_w t u F J)).bind (fun r => q_ex X (151, 609, L, r.1.toList ++ [], r.2)) := g_call (i := (.invokevirtual 78)) (n := 3) (g := 66) (pl := []) rfl rfl
set_option maxRecDepth 100000 in
theorem e151_609 {X : Nat × (Nat → Int32)} {S : List Value} {w : q_M} {a0 a1 a3 : Value} {x : Nat} : q_ex X (151, 609, [a0, a1, .ref x, a3], S, w) = q_ex X (151, 610, [a0, a1, .ref x, a3], .ref x :: S, w) := g_go (i := (.aload_n 2)) (n := 1) (g := 0) (pl := []) rfl rfl
set_option maxRecDepth 100000 in
theorem e151_610 {X : Nat × (Nat → Int32)} {L : List Value} {t u : Nat} {F : Nat → Nat → Int32} {J : Nat → Int64}  {s0 : Value} : q_ex X (151, 610, L, [.ref 72, s0], q_w t u F J) = (q_ex X (128, 0, [.ref 72], [], q_w t u F J)).bind (fun r => q_ex X (151, 613, L, r.1.toList ++ [s0], r.2)) := g_call (i := (.invokevirtual 81)) (n := 3) (g := 128) (pl := []) rfl rfl
set_option maxRecDepth 100000 in
theorem e151_613 {X : Nat × (Nat → Int32)} {L S : List Value} {w : q_M} {x y : Int32} : q_ex X (151, 613, L, .int y :: .int x :: S, w) = if x = y then q_ex X (151, 825, L, S, w) else q_ex X (151, 616, L, S, w) := g_c2 (i := (.if_icmp .eq 212)) (n := 3) (g := 825) (pl := []) (P := fun x y => x = y) (fun _ _ => inferInstance) rfl rfl
set_option maxRecDepth 100000 in
theorem e151_616 {X : Nat × (Nat → Int32)} {L S : List Value} {w : q_M} : q_ex X (151, 616, L, S, w) = q_ex X (151, 617, L, .int (nI 0) :: S, w) := g_go (i := (.iconst 0)) (n := 1) (g := 0) (pl := []) rfl rfl
set_option maxRecDepth 100000 in
theorem e151_617 {X : Nat × (Nat → Int32)} {L : List Value} {w : q_M} {x : Int32} (hx : x = nI 0 ∨ x = nI 1) : q_ex X (151, 617, L, [.int x], w) = some (some (.int x), w) := g_retZ (n := 1) (g := 0) (pl := []) rfl rfl hx
set_option maxRecDepth 100000 in
theorem e151_618 {X : Nat × (Nat → Int32)} {S : List Value} {w : q_M} {a0 a2 a3 : Value} {x : Nat} : q_ex X (151, 618, [a0, .ref x, a2, a3], S, w) = q_ex X (151, 619, [a0, .ref x, a2, a3], .ref x :: S, w) := g_go (i := (.aload_n 1)) (n := 1) (g := 0) (pl := []) rfl rfl
set_option maxRecDepth 100000 in
theorem e151_619 {X : Nat × (Nat → Int32)} {S : List Value} {w : q_M} {a1 a2 a3 : Value} {x : UInt32} : q_ex X (151, 619, [.float x, a1, a2, a3], S, w) = q_ex X (151, 620, [.float x, a1, a2, a3], .float x :: S, w) := g_go (i := (.aload_n 0)) (n := 1) (g := 0) (pl := []) rfl rfl
set_option maxRecDepth 100000 in
theorem e151_620 {X : Nat × (Nat → Int32)} {S : List Value} {w : q_M} {a0 a1 a2 : Value} {x : Int32} : q_ex X (151, 620, [a0, a1, a2, .int x], S, w) = q_ex X (151, 621, [a0, a1, a2, .int x], .int x :: S, w) := g_go (i := (.iload_n 3)) (n := 1) (g := 0) (pl := []) rfl rfl
set_option maxRecDepth 100000 in
theorem e151_621 {X : Nat × (Nat → Int32)} {L S : List Value} {w : q_M} : q_ex X (151, 621, L, S, w) = q_ex X (151, 622, L, .int (nI 1) :: S, w) := g_go (i := (.iconst 1)) (n := 1) (g := 0) (pl := []) rfl rfl
set_option maxRecDepth 100000 in
theorem e151_622 {X : Nat × (Nat → Int32)} {L S : List Value} {w : q_M} {x y : Int32} : q_ex X (151, 622, L, .int y :: .int x :: S, w) = q_ex X (151, 623, L, .int (x + y) :: S, w) := g_go (i := .iadd) (n := 1) (g := 0) (pl := []) rfl rfl
set_option maxRecDepth 100000 in
theorem e151_623 {X : Nat × (Nat → Int32)} {L S : List Value} {w : q_M} {i : Nat} (hi : i < X.1) (hX : X.1 ≤ 100000) : q_ex X (151, 623, L, .int (nI i) :: .float 2 :: S, w) = q_ex X (151, 624, L, .int (X.2 i) :: S, w) := g_xld (v := 2) (n := 1) (g := 0) (pl := []) rfl hi hX
set_option maxRecDepth 100000 in
theorem e151_624 {X : Nat × (Nat → Int32)} {L : List Value} {t u : Nat} {F : Nat → Nat → Int32} {J : Nat → Int64} {x1 : Int32}  : q_ex X (151, 624, L, [.int x1, .ref 0], q_w t u F J) = (q_ex X (67, 0, [.ref 0, .int x1], [], q_w t u F J)).bind (fun r => q_ex X (151, 627, L, r.1.toList ++ [], r.2)) := g_call (i := (.invokevirtual 82)) (n := 3) (g := 67) (pl := []) rfl rfl
set_option maxRecDepth 100000 in
theorem e151_627 {X : Nat × (Nat → Int32)} {S : List Value} {w : q_M} {a0 a1 a3 : Value} {x : Nat} : q_ex X (151, 627, [a0, a1, .ref x, a3], S, w) = q_ex X (151, 628, [a0, a1, .ref x, a3], .ref x :: S, w) := g_go (i := (.aload_n 2)) (n := 1) (g := 0) (pl := []) rfl rfl
set_option maxRecDepth 100000 in
theorem e151_628 {X : Nat × (Nat → Int32)} {S : List Value} {w : q_M} {a1 a2 a3 : Value} {x : UInt32} : q_ex X (151, 628, [.float x, a1, a2, a3], S, w) = q_ex X (151, 629, [.float x, a1, a2, a3], .float x :: S, w) := g_go (i := (.aload_n 0)) (n := 1) (g := 0) (pl := []) rfl rfl
set_option maxRecDepth 100000 in
theorem e151_629 {X : Nat × (Nat → Int32)} {S : List Value} {w : q_M} {a0 a1 a2 : Value} {x : Int32} : q_ex X (151, 629, [a0, a1, a2, .int x], S, w) = q_ex X (151, 630, [a0, a1, a2, .int x], .int x :: S, w) := g_go (i := (.iload_n 3)) (n := 1) (g := 0) (pl := []) rfl rfl
set_option maxRecDepth 100000 in
theorem e151_630 {X : Nat × (Nat → Int32)} {L S : List Value} {w : q_M} : q_ex X (151, 630, L, S, w) = q_ex X (151, 631, L, .int (nI 1) :: S, w) := g_go (i := (.iconst 1)) (n := 1) (g := 0) (pl := []) rfl rfl
set_option maxRecDepth 100000 in
theorem e151_631 {X : Nat × (Nat → Int32)} {L S : List Value} {w : q_M} {x y : Int32} : q_ex X (151, 631, L, .int y :: .int x :: S, w) = q_ex X (151, 632, L, .int (x + y) :: S, w) := g_go (i := .iadd) (n := 1) (g := 0) (pl := []) rfl rfl
set_option maxRecDepth 100000 in
theorem e151_632 {X : Nat × (Nat → Int32)} {L S : List Value} {w : q_M} {i : Nat} (hi : i < X.1) (hX : X.1 ≤ 100000) : q_ex X (151, 632, L, .int (nI i) :: .float 2 :: S, w) = q_ex X (151, 633, L, .int (X.2 i) :: S, w) := g_xld (v := 2) (n := 1) (g := 0) (pl := []) rfl hi hX
set_option maxRecDepth 100000 in
theorem e151_633 {X : Nat × (Nat → Int32)} {L : List Value} {t u : Nat} {F : Nat → Nat → Int32} {J : Nat → Int64} {x1 : Int32} {s0 : Value} : q_ex X (151, 633, L, [.int x1, .ref 72, s0], q_w t u F J) = (q_ex X (129, 0, [.ref 72, .int x1], [], q_w t u F J)).bind (fun r => q_ex X (151, 636, L, r.1.toList ++ [s0], r.2)) := g_call (i := (.invokevirtual 85)) (n := 3) (g := 129) (pl := []) rfl rfl
set_option maxRecDepth 100000 in
theorem e151_636 {X : Nat × (Nat → Int32)} {L S : List Value} {w : q_M} {x y : Int32} : q_ex X (151, 636, L, .int y :: .int x :: S, w) = if x = y then q_ex X (151, 825, L, S, w) else q_ex X (151, 639, L, S, w) := g_c2 (i := (.if_icmp .eq 189)) (n := 3) (g := 825) (pl := []) (P := fun x y => x = y) (fun _ _ => inferInstance) rfl rfl
set_option maxRecDepth 100000 in
theorem e151_639 {X : Nat × (Nat → Int32)} {L S : List Value} {w : q_M} : q_ex X (151, 639, L, S, w) = q_ex X (151, 640, L, .int (nI 0) :: S, w) := g_go (i := (.iconst 0)) (n := 1) (g := 0) (pl := []) rfl rfl
set_option maxRecDepth 100000 in
theorem e151_640 {X : Nat × (Nat → Int32)} {L : List Value} {w : q_M} {x : Int32} (hx : x = nI 0 ∨ x = nI 1) : q_ex X (151, 640, L, [.int x], w) = some (some (.int x), w) := g_retZ (n := 1) (g := 0) (pl := []) rfl rfl hx
set_option maxRecDepth 100000 in
theorem e151_641 {X : Nat × (Nat → Int32)} {S : List Value} {w : q_M} {a0 a2 a3 : Value} {x : Nat} : q_ex X (151, 641, [a0, .ref x, a2, a3], S, w) = q_ex X (151, 642, [a0, .ref x, a2, a3], .ref x :: S, w) := g_go (i := (.aload_n 1)) (n := 1) (g := 0) (pl := []) rfl rfl
set_option maxRecDepth 100000 in
theorem e151_642 {X : Nat × (Nat → Int32)} {S : List Value} {w : q_M} {a1 a2 a3 : Value} {x : UInt32} : q_ex X (151, 642, [.float x, a1, a2, a3], S, w) = q_ex X (151, 643, [.float x, a1, a2, a3], .float x :: S, w) := g_go (i := (.aload_n 0)) (n := 1) (g := 0) (pl := []) rfl rfl
set_option maxRecDepth 100000 in
theorem e151_643 {X : Nat × (Nat → Int32)} {S : List Value} {w : q_M} {a0 a1 a2 : Value} {x : Int32} : q_ex X (151, 643, [a0, a1, a2, .int x], S, w) = q_ex X (151, 644, [a0, a1, a2, .int x], .int x :: S, w) := g_go (i := (.iload_n 3)) (n := 1) (g := 0) (pl := []) rfl rfl
set_option maxRecDepth 100000 in
theorem e151_644 {X : Nat × (Nat → Int32)} {L S : List Value} {w : q_M} : q_ex X (151, 644, L, S, w) = q_ex X (151, 645, L, .int (nI 1) :: S, w) := g_go (i := (.iconst 1)) (n := 1) (g := 0) (pl := []) rfl rfl
set_option maxRecDepth 100000 in
theorem e151_645 {X : Nat × (Nat → Int32)} {L S : List Value} {w : q_M} {x y : Int32} : q_ex X (151, 645, L, .int y :: .int x :: S, w) = q_ex X (151, 646, L, .int (x + y) :: S, w) := g_go (i := .iadd) (n := 1) (g := 0) (pl := []) rfl rfl
set_option maxRecDepth 100000 in
theorem e151_646 {X : Nat × (Nat → Int32)} {L S : List Value} {w : q_M} {i : Nat} (hi : i < X.1) (hX : X.1 ≤ 100000) : q_ex X (151, 646, L, .int (nI i) :: .float 2 :: S, w) = q_ex X (151, 647, L, .int (X.2 i) :: S, w) := g_xld (v := 2) (n := 1) (g := 0) (pl := []) rfl hi hX
set_option maxRecDepth 100000 in
theorem e151_647 {X : Nat × (Nat → Int32)} {L : List Value} {t u : Nat} {F : Nat → Nat → Int32} {J : Nat → Int64} {x1 : Int32}  : q_ex X (151, 647, L, [.int x1, .ref 0], q_w t u F J) = (q_ex X (68, 0, [.ref 0, .int x1], [], q_w t u F J)).bind (fun r => q_ex X (151, 650, L, r.1.toList ++ [], r.2)) := g_call (i := (.invokevirtual 86)) (n := 3) (g := 68) (pl := []) rfl rfl
set_option maxRecDepth 100000 in
theorem e151_650 {X : Nat × (Nat → Int32)} {S : List Value} {w : q_M} {a0 a1 a3 : Value} {x : Nat} : q_ex X (151, 650, [a0, a1, .ref x, a3], S, w) = q_ex X (151, 651, [a0, a1, .ref x, a3], .ref x :: S, w) := g_go (i := (.aload_n 2)) (n := 1) (g := 0) (pl := []) rfl rfl
set_option maxRecDepth 100000 in
theorem e151_651 {X : Nat × (Nat → Int32)} {S : List Value} {w : q_M} {a1 a2 a3 : Value} {x : UInt32} : q_ex X (151, 651, [.float x, a1, a2, a3], S, w) = q_ex X (151, 652, [.float x, a1, a2, a3], .float x :: S, w) := g_go (i := (.aload_n 0)) (n := 1) (g := 0) (pl := []) rfl rfl
set_option maxRecDepth 100000 in
theorem e151_652 {X : Nat × (Nat → Int32)} {S : List Value} {w : q_M} {a0 a1 a2 : Value} {x : Int32} : q_ex X (151, 652, [a0, a1, a2, .int x], S, w) = q_ex X (151, 653, [a0, a1, a2, .int x], .int x :: S, w) := g_go (i := (.iload_n 3)) (n := 1) (g := 0) (pl := []) rfl rfl
set_option maxRecDepth 100000 in
theorem e151_653 {X : Nat × (Nat → Int32)} {L S : List Value} {w : q_M} : q_ex X (151, 653, L, S, w) = q_ex X (151, 654, L, .int (nI 1) :: S, w) := g_go (i := (.iconst 1)) (n := 1) (g := 0) (pl := []) rfl rfl
set_option maxRecDepth 100000 in
theorem e151_654 {X : Nat × (Nat → Int32)} {L S : List Value} {w : q_M} {x y : Int32} : q_ex X (151, 654, L, .int y :: .int x :: S, w) = q_ex X (151, 655, L, .int (x + y) :: S, w) := g_go (i := .iadd) (n := 1) (g := 0) (pl := []) rfl rfl
set_option maxRecDepth 100000 in
theorem e151_655 {X : Nat × (Nat → Int32)} {L S : List Value} {w : q_M} {i : Nat} (hi : i < X.1) (hX : X.1 ≤ 100000) : q_ex X (151, 655, L, .int (nI i) :: .float 2 :: S, w) = q_ex X (151, 656, L, .int (X.2 i) :: S, w) := g_xld (v := 2) (n := 1) (g := 0) (pl := []) rfl hi hX
set_option maxRecDepth 100000 in
theorem e151_656 {X : Nat × (Nat → Int32)} {L : List Value} {t u : Nat} {F : Nat → Nat → Int32} {J : Nat → Int64} {x1 : Int32} {s0 : Value} : q_ex X (151, 656, L, [.int x1, .ref 72, s0], q_w t u F J) = (q_ex X (113, 0, [.ref 72, .int x1, .null, .null], [], q_w t u F J)).bind (fun r => q_ex X (151, 659, L, r.1.toList ++ [s0], r.2)) := g_call (i := (.invokevirtual 89)) (n := 3) (g := 113) (pl := []) rfl rfl
set_option maxRecDepth 100000 in
theorem e151_659 {X : Nat × (Nat → Int32)} {L S : List Value} {w : q_M} {x y : Int32} : q_ex X (151, 659, L, .int y :: .int x :: S, w) = if x = y then q_ex X (151, 825, L, S, w) else q_ex X (151, 662, L, S, w) := g_c2 (i := (.if_icmp .eq 166)) (n := 3) (g := 825) (pl := []) (P := fun x y => x = y) (fun _ _ => inferInstance) rfl rfl
set_option maxRecDepth 100000 in
theorem e151_662 {X : Nat × (Nat → Int32)} {L S : List Value} {w : q_M} : q_ex X (151, 662, L, S, w) = q_ex X (151, 663, L, .int (nI 0) :: S, w) := g_go (i := (.iconst 0)) (n := 1) (g := 0) (pl := []) rfl rfl
set_option maxRecDepth 100000 in
theorem e151_663 {X : Nat × (Nat → Int32)} {L : List Value} {w : q_M} {x : Int32} (hx : x = nI 0 ∨ x = nI 1) : q_ex X (151, 663, L, [.int x], w) = some (some (.int x), w) := g_retZ (n := 1) (g := 0) (pl := []) rfl rfl hx
set_option maxRecDepth 100000 in
theorem e151_664 {X : Nat × (Nat → Int32)} {S : List Value} {w : q_M} {a0 a2 a3 : Value} {x : Nat} : q_ex X (151, 664, [a0, .ref x, a2, a3], S, w) = q_ex X (151, 665, [a0, .ref x, a2, a3], .ref x :: S, w) := g_go (i := (.aload_n 1)) (n := 1) (g := 0) (pl := []) rfl rfl
set_option maxRecDepth 100000 in
theorem e151_665 {X : Nat × (Nat → Int32)} {S : List Value} {w : q_M} {a1 a2 a3 : Value} {x : UInt32} : q_ex X (151, 665, [.float x, a1, a2, a3], S, w) = q_ex X (151, 666, [.float x, a1, a2, a3], .float x :: S, w) := g_go (i := (.aload_n 0)) (n := 1) (g := 0) (pl := []) rfl rfl
set_option maxRecDepth 100000 in
theorem e151_666 {X : Nat × (Nat → Int32)} {S : List Value} {w : q_M} {a0 a1 a2 : Value} {x : Int32} : q_ex X (151, 666, [a0, a1, a2, .int x], S, w) = q_ex X (151, 667, [a0, a1, a2, .int x], .int x :: S, w) := g_go (i := (.iload_n 3)) (n := 1) (g := 0) (pl := []) rfl rfl
set_option maxRecDepth 100000 in
theorem e151_667 {X : Nat × (Nat → Int32)} {L S : List Value} {w : q_M} : q_ex X (151, 667, L, S, w) = q_ex X (151, 668, L, .int (nI 1) :: S, w) := g_go (i := (.iconst 1)) (n := 1) (g := 0) (pl := []) rfl rfl
set_option maxRecDepth 100000 in
theorem e151_668 {X : Nat × (Nat → Int32)} {L S : List Value} {w : q_M} {x y : Int32} : q_ex X (151, 668, L, .int y :: .int x :: S, w) = q_ex X (151, 669, L, .int (x + y) :: S, w) := g_go (i := .iadd) (n := 1) (g := 0) (pl := []) rfl rfl
set_option maxRecDepth 100000 in
theorem e151_669 {X : Nat × (Nat → Int32)} {L S : List Value} {w : q_M} {i : Nat} (hi : i < X.1) (hX : X.1 ≤ 100000) : q_ex X (151, 669, L, .int (nI i) :: .float 2 :: S, w) = q_ex X (151, 670, L, .int (X.2 i) :: S, w) := g_xld (v := 2) (n := 1) (g := 0) (pl := []) rfl hi hX
set_option maxRecDepth 100000 in
theorem e151_670 {X : Nat × (Nat → Int32)} {S : List Value} {w : q_M} {a1 a2 a3 : Value} {x : UInt32} : q_ex X (151, 670, [.float x, a1, a2, a3], S, w) = q_ex X (151, 671, [.float x, a1, a2, a3], .float x :: S, w) := g_go (i := (.aload_n 0)) (n := 1) (g := 0) (pl := []) rfl rfl
set_option maxRecDepth 100000 in
theorem e151_671 {X : Nat × (Nat → Int32)} {S : List Value} {w : q_M} {a0 a1 a2 : Value} {x : Int32} : q_ex X (151, 671, [a0, a1, a2, .int x], S, w) = q_ex X (151, 672, [a0, a1, a2, .int x], .int x :: S, w) := g_go (i := (.iload_n 3)) (n := 1) (g := 0) (pl := []) rfl rfl
set_option maxRecDepth 100000 in
theorem e151_672 {X : Nat × (Nat → Int32)} {L S : List Value} {w : q_M} : q_ex X (151, 672, L, S, w) = q_ex X (151, 673, L, .int (nI 2) :: S, w) := g_go (i := (.iconst 2)) (n := 1) (g := 0) (pl := []) rfl rfl
set_option maxRecDepth 100000 in
theorem e151_673 {X : Nat × (Nat → Int32)} {L S : List Value} {w : q_M} {x y : Int32} : q_ex X (151, 673, L, .int y :: .int x :: S, w) = q_ex X (151, 674, L, .int (x + y) :: S, w) := g_go (i := .iadd) (n := 1) (g := 0) (pl := []) rfl rfl
set_option maxRecDepth 100000 in
theorem e151_674 {X : Nat × (Nat → Int32)} {L S : List Value} {w : q_M} {i : Nat} (hi : i < X.1) (hX : X.1 ≤ 100000) : q_ex X (151, 674, L, .int (nI i) :: .float 2 :: S, w) = q_ex X (151, 675, L, .int (X.2 i) :: S, w) := g_xld (v := 2) (n := 1) (g := 0) (pl := []) rfl hi hX
set_option maxRecDepth 100000 in
theorem e151_675 {X : Nat × (Nat → Int32)} {S : List Value} {w : q_M} {a1 a2 a3 : Value} {x : UInt32} : q_ex X (151, 675, [.float x, a1, a2, a3], S, w) = q_ex X (151, 676, [.float x, a1, a2, a3], .float x :: S, w) := g_go (i := (.aload_n 0)) (n := 1) (g := 0) (pl := []) rfl rfl
set_option maxRecDepth 100000 in
theorem e151_676 {X : Nat × (Nat → Int32)} {S : List Value} {w : q_M} {a0 a1 a2 : Value} {x : Int32} : q_ex X (151, 676, [a0, a1, a2, .int x], S, w) = q_ex X (151, 677, [a0, a1, a2, .int x], .int x :: S, w) := g_go (i := (.iload_n 3)) (n := 1) (g := 0) (pl := []) rfl rfl
set_option maxRecDepth 100000 in
theorem e151_677 {X : Nat × (Nat → Int32)} {L S : List Value} {w : q_M} : q_ex X (151, 677, L, S, w) = q_ex X (151, 678, L, .int (nI 3) :: S, w) := g_go (i := (.iconst 3)) (n := 1) (g := 0) (pl := []) rfl rfl
set_option maxRecDepth 100000 in
theorem e151_678 {X : Nat × (Nat → Int32)} {L S : List Value} {w : q_M} {x y : Int32} : q_ex X (151, 678, L, .int y :: .int x :: S, w) = q_ex X (151, 679, L, .int (x + y) :: S, w) := g_go (i := .iadd) (n := 1) (g := 0) (pl := []) rfl rfl
set_option maxRecDepth 100000 in
theorem e151_679 {X : Nat × (Nat → Int32)} {L S : List Value} {w : q_M} {i : Nat} (hi : i < X.1) (hX : X.1 ≤ 100000) : q_ex X (151, 679, L, .int (nI i) :: .float 2 :: S, w) = q_ex X (151, 680, L, .int (X.2 i) :: S, w) := g_xld (v := 2) (n := 1) (g := 0) (pl := []) rfl hi hX
set_option maxRecDepth 100000 in
theorem e151_680 {X : Nat × (Nat → Int32)} {L : List Value} {t u : Nat} {F : Nat → Nat → Int32} {J : Nat → Int64} {x1 : Int32} {x2 : Int32} {x3 : Int32}  : q_ex X (151, 680, L, [.int x3, .int x2, .int x1, .ref 0], q_w t u F J) = (q_ex X (69, 0, [.ref 0, .int x1, .int x2, .int x3], [], q_w t u F J)).bind (fun r => q_ex X (151, 683, L, r.1.toList ++ [], r.2)) := g_call (i := (.invokevirtual 90)) (n := 3) (g := 69) (pl := []) rfl rfl
set_option maxRecDepth 100000 in
theorem e151_683 {X : Nat × (Nat → Int32)} {S : List Value} {w : q_M} {a0 a1 a3 : Value} {x : Nat} : q_ex X (151, 683, [a0, a1, .ref x, a3], S, w) = q_ex X (151, 684, [a0, a1, .ref x, a3], .ref x :: S, w) := g_go (i := (.aload_n 2)) (n := 1) (g := 0) (pl := []) rfl rfl
set_option maxRecDepth 100000 in
theorem e151_684 {X : Nat × (Nat → Int32)} {S : List Value} {w : q_M} {a1 a2 a3 : Value} {x : UInt32} : q_ex X (151, 684, [.float x, a1, a2, a3], S, w) = q_ex X (151, 685, [.float x, a1, a2, a3], .float x :: S, w) := g_go (i := (.aload_n 0)) (n := 1) (g := 0) (pl := []) rfl rfl
set_option maxRecDepth 100000 in
theorem e151_685 {X : Nat × (Nat → Int32)} {S : List Value} {w : q_M} {a0 a1 a2 : Value} {x : Int32} : q_ex X (151, 685, [a0, a1, a2, .int x], S, w) = q_ex X (151, 686, [a0, a1, a2, .int x], .int x :: S, w) := g_go (i := (.iload_n 3)) (n := 1) (g := 0) (pl := []) rfl rfl
set_option maxRecDepth 100000 in
theorem e151_686 {X : Nat × (Nat → Int32)} {L S : List Value} {w : q_M} : q_ex X (151, 686, L, S, w) = q_ex X (151, 687, L, .int (nI 1) :: S, w) := g_go (i := (.iconst 1)) (n := 1) (g := 0) (pl := []) rfl rfl
set_option maxRecDepth 100000 in
theorem e151_687 {X : Nat × (Nat → Int32)} {L S : List Value} {w : q_M} {x y : Int32} : q_ex X (151, 687, L, .int y :: .int x :: S, w) = q_ex X (151, 688, L, .int (x + y) :: S, w) := g_go (i := .iadd) (n := 1) (g := 0) (pl := []) rfl rfl
set_option maxRecDepth 100000 in
theorem e151_688 {X : Nat × (Nat → Int32)} {L S : List Value} {w : q_M} {i : Nat} (hi : i < X.1) (hX : X.1 ≤ 100000) : q_ex X (151, 688, L, .int (nI i) :: .float 2 :: S, w) = q_ex X (151, 689, L, .int (X.2 i) :: S, w) := g_xld (v := 2) (n := 1) (g := 0) (pl := []) rfl hi hX
set_option maxRecDepth 100000 in
theorem e151_689 {X : Nat × (Nat → Int32)} {S : List Value} {w : q_M} {a1 a2 a3 : Value} {x : UInt32} : q_ex X (151, 689, [.float x, a1, a2, a3], S, w) = q_ex X (151, 690, [.float x, a1, a2, a3], .float x :: S, w) := g_go (i := (.aload_n 0)) (n := 1) (g := 0) (pl := []) rfl rfl
set_option maxRecDepth 100000 in
theorem e151_690 {X : Nat × (Nat → Int32)} {S : List Value} {w : q_M} {a0 a1 a2 : Value} {x : Int32} : q_ex X (151, 690, [a0, a1, a2, .int x], S, w) = q_ex X (151, 691, [a0, a1, a2, .int x], .int x :: S, w) := g_go (i := (.iload_n 3)) (n := 1) (g := 0) (pl := []) rfl rfl
set_option maxRecDepth 100000 in
theorem e151_691 {X : Nat × (Nat → Int32)} {L S : List Value} {w : q_M} : q_ex X (151, 691, L, S, w) = q_ex X (151, 692, L, .int (nI 2) :: S, w) := g_go (i := (.iconst 2)) (n := 1) (g := 0) (pl := []) rfl rfl
set_option maxRecDepth 100000 in
theorem e151_692 {X : Nat × (Nat → Int32)} {L S : List Value} {w : q_M} {x y : Int32} : q_ex X (151, 692, L, .int y :: .int x :: S, w) = q_ex X (151, 693, L, .int (x + y) :: S, w) := g_go (i := .iadd) (n := 1) (g := 0) (pl := []) rfl rfl
set_option maxRecDepth 100000 in
theorem e151_693 {X : Nat × (Nat → Int32)} {L S : List Value} {w : q_M} {i : Nat} (hi : i < X.1) (hX : X.1 ≤ 100000) : q_ex X (151, 693, L, .int (nI i) :: .float 2 :: S, w) = q_ex X (151, 694, L, .int (X.2 i) :: S, w) := g_xld (v := 2) (n := 1) (g := 0) (pl := []) rfl hi hX
set_option maxRecDepth 100000 in
theorem e151_694 {X : Nat × (Nat → Int32)} {S : List Value} {w : q_M} {a1 a2 a3 : Value} {x : UInt32} : q_ex X (151, 694, [.float x, a1, a2, a3], S, w) = q_ex X (151, 695, [.float x, a1, a2, a3], .float x :: S, w) := g_go (i := (.aload_n 0)) (n := 1) (g := 0) (pl := []) rfl rfl
set_option maxRecDepth 100000 in
theorem e151_695 {X : Nat × (Nat → Int32)} {S : List Value} {w : q_M} {a0 a1 a2 : Value} {x : Int32} : q_ex X (151, 695, [a0, a1, a2, .int x], S, w) = q_ex X (151, 696, [a0, a1, a2, .int x], .int x :: S, w) := g_go (i := (.iload_n 3)) (n := 1) (g := 0) (pl := []) rfl rfl
set_option maxRecDepth 100000 in
theorem e151_696 {X : Nat × (Nat → Int32)} {L S : List Value} {w : q_M} : q_ex X (151, 696, L, S, w) = q_ex X (151, 697, L, .int (nI 3) :: S, w) := g_go (i := (.iconst 3)) (n := 1) (g := 0) (pl := []) rfl rfl
set_option maxRecDepth 100000 in
theorem e151_697 {X : Nat × (Nat → Int32)} {L S : List Value} {w : q_M} {x y : Int32} : q_ex X (151, 697, L, .int y :: .int x :: S, w) = q_ex X (151, 698, L, .int (x + y) :: S, w) := g_go (i := .iadd) (n := 1) (g := 0) (pl := []) rfl rfl
set_option maxRecDepth 100000 in
theorem e151_698 {X : Nat × (Nat → Int32)} {L S : List Value} {w : q_M} {i : Nat} (hi : i < X.1) (hX : X.1 ≤ 100000) : q_ex X (151, 698, L, .int (nI i) :: .float 2 :: S, w) = q_ex X (151, 699, L, .int (X.2 i) :: S, w) := g_xld (v := 2) (n := 1) (g := 0) (pl := []) rfl hi hX
set_option maxRecDepth 100000 in
theorem e151_699 {X : Nat × (Nat → Int32)} {L : List Value} {t u : Nat} {F : Nat → Nat → Int32} {J : Nat → Int64} {x1 : Int32} {x2 : Int32} {x3 : Int32} {s0 : Value} : q_ex X (151, 699, L, [.int x3, .int x2, .int x1, .ref 72, s0], q_w t u F J) = (q_ex X (130, 0, [.ref 72, .int x1, .int x2, .int x3], [], q_w t u F J)).bind (fun r => q_ex X (151, 702, L, r.1.toList ++ [s0], r.2)) := g_call (i := (.invokevirtual 93)) (n := 3) (g := 130) (pl := []) rfl rfl
set_option maxRecDepth 100000 in
theorem e151_702 {X : Nat × (Nat → Int32)} {L S : List Value} {w : q_M} {x y : Int32} : q_ex X (151, 702, L, .int y :: .int x :: S, w) = if x = y then q_ex X (151, 825, L, S, w) else q_ex X (151, 705, L, S, w) := g_c2 (i := (.if_icmp .eq 123)) (n := 3) (g := 825) (pl := []) (P := fun x y => x = y) (fun _ _ => inferInstance) rfl rfl
set_option maxRecDepth 100000 in
theorem e151_705 {X : Nat × (Nat → Int32)} {L S : List Value} {w : q_M} : q_ex X (151, 705, L, S, w) = q_ex X (151, 706, L, .int (nI 0) :: S, w) := g_go (i := (.iconst 0)) (n := 1) (g := 0) (pl := []) rfl rfl
set_option maxRecDepth 100000 in
theorem e151_706 {X : Nat × (Nat → Int32)} {L : List Value} {w : q_M} {x : Int32} (hx : x = nI 0 ∨ x = nI 1) : q_ex X (151, 706, L, [.int x], w) = some (some (.int x), w) := g_retZ (n := 1) (g := 0) (pl := []) rfl rfl hx
set_option maxRecDepth 100000 in
theorem e151_707 {X : Nat × (Nat → Int32)} {S : List Value} {w : q_M} {a0 a2 a3 : Value} {x : Nat} : q_ex X (151, 707, [a0, .ref x, a2, a3], S, w) = q_ex X (151, 708, [a0, .ref x, a2, a3], .ref x :: S, w) := g_go (i := (.aload_n 1)) (n := 1) (g := 0) (pl := []) rfl rfl
set_option maxRecDepth 100000 in
theorem e151_708 {X : Nat × (Nat → Int32)} {L : List Value} {t u : Nat} {F : Nat → Nat → Int32} {J : Nat → Int64}   : q_ex X (151, 708, L, [.ref 0], q_w t u F J) = (q_ex X (70, 0, [.ref 0, .null], [], q_w t u F J)).bind (fun r => q_ex X (151, 711, L, r.1.toList ++ [], r.2)) := g_call (i := (.invokevirtual 94)) (n := 3) (g := 70) (pl := []) rfl rfl
set_option maxRecDepth 100000 in
theorem e151_711 {X : Nat × (Nat → Int32)} {S : List Value} {w : q_M} {a0 a1 a3 : Value} {x : Nat} : q_ex X (151, 711, [a0, a1, .ref x, a3], S, w) = q_ex X (151, 712, [a0, a1, .ref x, a3], .ref x :: S, w) := g_go (i := (.aload_n 2)) (n := 1) (g := 0) (pl := []) rfl rfl
set_option maxRecDepth 100000 in
theorem e151_712 {X : Nat × (Nat → Int32)} {L : List Value} {t u : Nat} {F : Nat → Nat → Int32} {J : Nat → Int64}  {s0 : Value} : q_ex X (151, 712, L, [.ref 72, s0], q_w t u F J) = (q_ex X (131, 0, [.ref 72, .null], [], q_w t u F J)).bind (fun r => q_ex X (151, 715, L, r.1.toList ++ [s0], r.2)) := g_call (i := (.invokevirtual 97)) (n := 3) (g := 131) (pl := []) rfl rfl
set_option maxRecDepth 100000 in
theorem e151_715 {X : Nat × (Nat → Int32)} {L S : List Value} {w : q_M} {x y : Int32} : q_ex X (151, 715, L, .int y :: .int x :: S, w) = if x = y then q_ex X (151, 825, L, S, w) else q_ex X (151, 718, L, S, w) := g_c2 (i := (.if_icmp .eq 110)) (n := 3) (g := 825) (pl := []) (P := fun x y => x = y) (fun _ _ => inferInstance) rfl rfl
set_option maxRecDepth 100000 in
theorem e151_718 {X : Nat × (Nat → Int32)} {L S : List Value} {w : q_M} : q_ex X (151, 718, L, S, w) = q_ex X (151, 719, L, .int (nI 0) :: S, w) := g_go (i := (.iconst 0)) (n := 1) (g := 0) (pl := []) rfl rfl
set_option maxRecDepth 100000 in
theorem e151_719 {X : Nat × (Nat → Int32)} {L : List Value} {w : q_M} {x : Int32} (hx : x = nI 0 ∨ x = nI 1) : q_ex X (151, 719, L, [.int x], w) = some (some (.int x), w) := g_retZ (n := 1) (g := 0) (pl := []) rfl rfl hx
set_option maxRecDepth 100000 in
theorem e151_720 {X : Nat × (Nat → Int32)} {S : List Value} {w : q_M} {a0 a2 a3 : Value} {x : Nat} : q_ex X (151, 720, [a0, .ref x, a2, a3], S, w) = q_ex X (151, 721, [a0, .ref x, a2, a3], .ref x :: S, w) := g_go (i := (.aload_n 1)) (n := 1) (g := 0) (pl := []) rfl rfl
set_option maxRecDepth 100000 in
theorem e151_721 {X : Nat × (Nat → Int32)} {S : List Value} {w : q_M} {a1 a2 a3 : Value} {x : UInt32} : q_ex X (151, 721, [.float x, a1, a2, a3], S, w) = q_ex X (151, 722, [.float x, a1, a2, a3], .float x :: S, w) := g_go (i := (.aload_n 0)) (n := 1) (g := 0) (pl := []) rfl rfl
set_option maxRecDepth 100000 in
theorem e151_722 {X : Nat × (Nat → Int32)} {S : List Value} {w : q_M} {a0 a1 a2 : Value} {x : Int32} : q_ex X (151, 722, [a0, a1, a2, .int x], S, w) = q_ex X (151, 723, [a0, a1, a2, .int x], .int x :: S, w) := g_go (i := (.iload_n 3)) (n := 1) (g := 0) (pl := []) rfl rfl
set_option maxRecDepth 100000 in
theorem e151_723 {X : Nat × (Nat → Int32)} {L S : List Value} {w : q_M} : q_ex X (151, 723, L, S, w) = q_ex X (151, 724, L, .int (nI 1) :: S, w) := g_go (i := (.iconst 1)) (n := 1) (g := 0) (pl := []) rfl rfl
set_option maxRecDepth 100000 in
theorem e151_724 {X : Nat × (Nat → Int32)} {L S : List Value} {w : q_M} {x y : Int32} : q_ex X (151, 724, L, .int y :: .int x :: S, w) = q_ex X (151, 725, L, .int (x + y) :: S, w) := g_go (i := .iadd) (n := 1) (g := 0) (pl := []) rfl rfl
set_option maxRecDepth 100000 in
theorem e151_725 {X : Nat × (Nat → Int32)} {L S : List Value} {w : q_M} {i : Nat} (hi : i < X.1) (hX : X.1 ≤ 100000) : q_ex X (151, 725, L, .int (nI i) :: .float 2 :: S, w) = q_ex X (151, 726, L, .int (X.2 i) :: S, w) := g_xld (v := 2) (n := 1) (g := 0) (pl := []) rfl hi hX
set_option maxRecDepth 100000 in
theorem e151_726 {X : Nat × (Nat → Int32)} {L : List Value} {t u : Nat} {F : Nat → Nat → Int32} {J : Nat → Int64} {x1 : Int32}  : q_ex X (151, 726, L, [.int x1, .ref 0], q_w t u F J) = (q_ex X (71, 0, [.ref 0, .int x1], [], q_w t u F J)).bind (fun r => q_ex X (151, 729, L, r.1.toList ++ [], r.2)) := g_call (i := (.invokevirtual 98)) (n := 3) (g := 71) (pl := []) rfl rfl
set_option maxRecDepth 100000 in
theorem e151_729 {X : Nat × (Nat → Int32)} {S : List Value} {w : q_M} {a0 a1 a3 : Value} {x : Nat} : q_ex X (151, 729, [a0, a1, .ref x, a3], S, w) = q_ex X (151, 730, [a0, a1, .ref x, a3], .ref x :: S, w) := g_go (i := (.aload_n 2)) (n := 1) (g := 0) (pl := []) rfl rfl
set_option maxRecDepth 100000 in
theorem e151_730 {X : Nat × (Nat → Int32)} {S : List Value} {w : q_M} {a1 a2 a3 : Value} {x : UInt32} : q_ex X (151, 730, [.float x, a1, a2, a3], S, w) = q_ex X (151, 731, [.float x, a1, a2, a3], .float x :: S, w) := g_go (i := (.aload_n 0)) (n := 1) (g := 0) (pl := []) rfl rfl
set_option maxRecDepth 100000 in
theorem e151_731 {X : Nat × (Nat → Int32)} {S : List Value} {w : q_M} {a0 a1 a2 : Value} {x : Int32} : q_ex X (151, 731, [a0, a1, a2, .int x], S, w) = q_ex X (151, 732, [a0, a1, a2, .int x], .int x :: S, w) := g_go (i := (.iload_n 3)) (n := 1) (g := 0) (pl := []) rfl rfl
set_option maxRecDepth 100000 in
theorem e151_732 {X : Nat × (Nat → Int32)} {L S : List Value} {w : q_M} : q_ex X (151, 732, L, S, w) = q_ex X (151, 733, L, .int (nI 1) :: S, w) := g_go (i := (.iconst 1)) (n := 1) (g := 0) (pl := []) rfl rfl
set_option maxRecDepth 100000 in
theorem e151_733 {X : Nat × (Nat → Int32)} {L S : List Value} {w : q_M} {x y : Int32} : q_ex X (151, 733, L, .int y :: .int x :: S, w) = q_ex X (151, 734, L, .int (x + y) :: S, w) := g_go (i := .iadd) (n := 1) (g := 0) (pl := []) rfl rfl
set_option maxRecDepth 100000 in
theorem e151_734 {X : Nat × (Nat → Int32)} {L S : List Value} {w : q_M} {i : Nat} (hi : i < X.1) (hX : X.1 ≤ 100000) : q_ex X (151, 734, L, .int (nI i) :: .float 2 :: S, w) = q_ex X (151, 735, L, .int (X.2 i) :: S, w) := g_xld (v := 2) (n := 1) (g := 0) (pl := []) rfl hi hX
set_option maxRecDepth 100000 in
theorem e151_735 {X : Nat × (Nat → Int32)} {L : List Value} {t u : Nat} {F : Nat → Nat → Int32} {J : Nat → Int64} {x1 : Int32} {s0 : Value} : q_ex X (151, 735, L, [.int x1, .ref 72, s0], q_w t u F J) = (q_ex X (133, 0, [.ref 72, .int x1, .null, .null, .null], [], q_w t u F J)).bind (fun r => q_ex X (151, 738, L, r.1.toList ++ [s0], r.2)) := g_call (i := (.invokevirtual 101)) (n := 3) (g := 133) (pl := []) rfl rfl
set_option maxRecDepth 100000 in
theorem e151_738 {X : Nat × (Nat → Int32)} {L S : List Value} {w : q_M} {x y : Int32} : q_ex X (151, 738, L, .int y :: .int x :: S, w) = if x = y then q_ex X (151, 825, L, S, w) else q_ex X (151, 741, L, S, w) := g_c2 (i := (.if_icmp .eq 87)) (n := 3) (g := 825) (pl := []) (P := fun x y => x = y) (fun _ _ => inferInstance) rfl rfl
set_option maxRecDepth 100000 in
theorem e151_741 {X : Nat × (Nat → Int32)} {L S : List Value} {w : q_M} : q_ex X (151, 741, L, S, w) = q_ex X (151, 742, L, .int (nI 0) :: S, w) := g_go (i := (.iconst 0)) (n := 1) (g := 0) (pl := []) rfl rfl
set_option maxRecDepth 100000 in
theorem e151_742 {X : Nat × (Nat → Int32)} {L : List Value} {w : q_M} {x : Int32} (hx : x = nI 0 ∨ x = nI 1) : q_ex X (151, 742, L, [.int x], w) = some (some (.int x), w) := g_retZ (n := 1) (g := 0) (pl := []) rfl rfl hx
set_option maxRecDepth 100000 in
theorem e151_743 {X : Nat × (Nat → Int32)} {S : List Value} {w : q_M} {a0 a2 a3 : Value} {x : Nat} : q_ex X (151, 743, [a0, .ref x, a2, a3], S, w) = q_ex X (151, 744, [a0, .ref x, a2, a3], .ref x :: S, w) := g_go (i := (.aload_n 1)) (n := 1) (g := 0) (pl := []) rfl rfl
set_option maxRecDepth 100000 in
theorem e151_744 {X : Nat × (Nat → Int32)} {L : List Value} {t u : Nat} {F : Nat → Nat → Int32} {J : Nat → Int64}   : q_ex X (151, 744, L, [.ref 0], q_w t u F J) = (q_ex X (72, 0, [.ref 0], [], q_w t u F J)).bind (fun r => q_ex X (151, 747, L, r.1.toList ++ [], r.2)) := g_call (i := (.invokevirtual 102)) (n := 3) (g := 72) (pl := []) rfl rfl
set_option maxRecDepth 100000 in
theorem e151_747 {X : Nat × (Nat → Int32)} {S : List Value} {w : q_M} {a0 a1 a3 : Value} {x : Nat} : q_ex X (151, 747, [a0, a1, .ref x, a3], S, w) = q_ex X (151, 748, [a0, a1, .ref x, a3], .ref x :: S, w) := g_go (i := (.aload_n 2)) (n := 1) (g := 0) (pl := []) rfl rfl
set_option maxRecDepth 100000 in
theorem e151_748 {X : Nat × (Nat → Int32)} {L : List Value} {t u : Nat} {F : Nat → Nat → Int32} {J : Nat → Int64}  {s0 : Value} : q_ex X (151, 748, L, [.ref 72, s0], q_w t u F J) = (q_ex X (134, 0, [.ref 72, .null, .null, .null, .null, .null, .null, .null, .null], [], q_w t u F J)).bind (fun r => q_ex X (151, 751, L, r.1.toList ++ [s0], r.2)) := g_call (i := (.invokevirtual 105)) (n := 3) (g := 134) (pl := []) rfl rfl
set_option maxRecDepth 100000 in
theorem e151_751 {X : Nat × (Nat → Int32)} {L S : List Value} {w : q_M} {x y : Int32} : q_ex X (151, 751, L, .int y :: .int x :: S, w) = if x = y then q_ex X (151, 825, L, S, w) else q_ex X (151, 754, L, S, w) := g_c2 (i := (.if_icmp .eq 74)) (n := 3) (g := 825) (pl := []) (P := fun x y => x = y) (fun _ _ => inferInstance) rfl rfl
set_option maxRecDepth 100000 in
theorem e151_754 {X : Nat × (Nat → Int32)} {L S : List Value} {w : q_M} : q_ex X (151, 754, L, S, w) = q_ex X (151, 755, L, .int (nI 0) :: S, w) := g_go (i := (.iconst 0)) (n := 1) (g := 0) (pl := []) rfl rfl
set_option maxRecDepth 100000 in
theorem e151_755 {X : Nat × (Nat → Int32)} {L : List Value} {w : q_M} {x : Int32} (hx : x = nI 0 ∨ x = nI 1) : q_ex X (151, 755, L, [.int x], w) = some (some (.int x), w) := g_retZ (n := 1) (g := 0) (pl := []) rfl rfl hx
set_option maxRecDepth 100000 in
theorem e151_756 {X : Nat × (Nat → Int32)} {S : List Value} {w : q_M} {a0 a2 a3 : Value} {x : Nat} : q_ex X (151, 756, [a0, .ref x, a2, a3], S, w) = q_ex X (151, 757, [a0, .ref x, a2, a3], .ref x :: S, w) := g_go (i := (.aload_n 1)) (n := 1) (g := 0) (pl := []) rfl rfl
set_option maxRecDepth 100000 in
theorem e151_757 {X : Nat × (Nat → Int32)} {S : List Value} {w : q_M} {a1 a2 a3 : Value} {x : UInt32} : q_ex X (151, 757, [.float x, a1, a2, a3], S, w) = q_ex X (151, 758, [.float x, a1, a2, a3], .float x :: S, w) := g_go (i := (.aload_n 0)) (n := 1) (g := 0) (pl := []) rfl rfl
set_option maxRecDepth 100000 in
theorem e151_758 {X : Nat × (Nat → Int32)} {S : List Value} {w : q_M} {a0 a1 a2 : Value} {x : Int32} : q_ex X (151, 758, [a0, a1, a2, .int x], S, w) = q_ex X (151, 759, [a0, a1, a2, .int x], .int x :: S, w) := g_go (i := (.iload_n 3)) (n := 1) (g := 0) (pl := []) rfl rfl
set_option maxRecDepth 100000 in
theorem e151_759 {X : Nat × (Nat → Int32)} {L S : List Value} {w : q_M} : q_ex X (151, 759, L, S, w) = q_ex X (151, 760, L, .int (nI 1) :: S, w) := g_go (i := (.iconst 1)) (n := 1) (g := 0) (pl := []) rfl rfl
set_option maxRecDepth 100000 in
theorem e151_760 {X : Nat × (Nat → Int32)} {L S : List Value} {w : q_M} {x y : Int32} : q_ex X (151, 760, L, .int y :: .int x :: S, w) = q_ex X (151, 761, L, .int (x + y) :: S, w) := g_go (i := .iadd) (n := 1) (g := 0) (pl := []) rfl rfl
set_option maxRecDepth 100000 in
theorem e151_761 {X : Nat × (Nat → Int32)} {L S : List Value} {w : q_M} {i : Nat} (hi : i < X.1) (hX : X.1 ≤ 100000) : q_ex X (151, 761, L, .int (nI i) :: .float 2 :: S, w) = q_ex X (151, 762, L, .int (X.2 i) :: S, w) := g_xld (v := 2) (n := 1) (g := 0) (pl := []) rfl hi hX
set_option maxRecDepth 100000 in
theorem e151_762 {X : Nat × (Nat → Int32)} {L : List Value} {t u : Nat} {F : Nat → Nat → Int32} {J : Nat → Int64} {x1 : Int32}  : q_ex X (151, 762, L, [.int x1, .ref 0], q_w t u F J) = (q_ex X (73, 0, [.ref 0, .int x1], [], q_w t u F J)).bind (fun r => q_ex X (151, 765, L, r.1.toList ++ [], r.2)) := g_call (i := (.invokevirtual 106)) (n := 3) (g := 73) (pl := []) rfl rfl
set_option maxRecDepth 100000 in
theorem e151_765 {X : Nat × (Nat → Int32)} {S : List Value} {w : q_M} {a0 a1 a3 : Value} {x : Nat} : q_ex X (151, 765, [a0, a1, .ref x, a3], S, w) = q_ex X (151, 766, [a0, a1, .ref x, a3], .ref x :: S, w) := g_go (i := (.aload_n 2)) (n := 1) (g := 0) (pl := []) rfl rfl
set_option maxRecDepth 100000 in
theorem e151_766 {X : Nat × (Nat → Int32)} {S : List Value} {w : q_M} {a1 a2 a3 : Value} {x : UInt32} : q_ex X (151, 766, [.float x, a1, a2, a3], S, w) = q_ex X (151, 767, [.float x, a1, a2, a3], .float x :: S, w) := g_go (i := (.aload_n 0)) (n := 1) (g := 0) (pl := []) rfl rfl
set_option maxRecDepth 100000 in
theorem e151_767 {X : Nat × (Nat → Int32)} {S : List Value} {w : q_M} {a0 a1 a2 : Value} {x : Int32} : q_ex X (151, 767, [a0, a1, a2, .int x], S, w) = q_ex X (151, 768, [a0, a1, a2, .int x], .int x :: S, w) := g_go (i := (.iload_n 3)) (n := 1) (g := 0) (pl := []) rfl rfl
set_option maxRecDepth 100000 in
theorem e151_768 {X : Nat × (Nat → Int32)} {L S : List Value} {w : q_M} : q_ex X (151, 768, L, S, w) = q_ex X (151, 769, L, .int (nI 1) :: S, w) := g_go (i := (.iconst 1)) (n := 1) (g := 0) (pl := []) rfl rfl
set_option maxRecDepth 100000 in
theorem e151_769 {X : Nat × (Nat → Int32)} {L S : List Value} {w : q_M} {x y : Int32} : q_ex X (151, 769, L, .int y :: .int x :: S, w) = q_ex X (151, 770, L, .int (x + y) :: S, w) := g_go (i := .iadd) (n := 1) (g := 0) (pl := []) rfl rfl
set_option maxRecDepth 100000 in
theorem e151_770 {X : Nat × (Nat → Int32)} {L S : List Value} {w : q_M} {i : Nat} (hi : i < X.1) (hX : X.1 ≤ 100000) : q_ex X (151, 770, L, .int (nI i) :: .float 2 :: S, w) = q_ex X (151, 771, L, .int (X.2 i) :: S, w) := g_xld (v := 2) (n := 1) (g := 0) (pl := []) rfl hi hX
set_option maxRecDepth 100000 in
theorem e151_771 {X : Nat × (Nat → Int32)} {L : List Value} {t u : Nat} {F : Nat → Nat → Int32} {J : Nat → Int64} {x1 : Int32} {s0 : Value} : q_ex X (151, 771, L, [.int x1, .ref 72, s0], q_w t u F J) = (q_ex X (135, 0, [.ref 72, .int x1, .null], [], q_w t u F J)).bind (fun r => q_ex X (151, 774, L, r.1.toList ++ [s0], r.2)) := g_call (i := (.invokevirtual 109)) (n := 3) (g := 135) (pl := []) rfl rfl
set_option maxRecDepth 100000 in
theorem e151_774 {X : Nat × (Nat → Int32)} {L S : List Value} {w : q_M} {x y : Int32} : q_ex X (151, 774, L, .int y :: .int x :: S, w) = if x = y then q_ex X (151, 825, L, S, w) else q_ex X (151, 777, L, S, w) := g_c2 (i := (.if_icmp .eq 51)) (n := 3) (g := 825) (pl := []) (P := fun x y => x = y) (fun _ _ => inferInstance) rfl rfl
set_option maxRecDepth 100000 in
theorem e151_777 {X : Nat × (Nat → Int32)} {L S : List Value} {w : q_M} : q_ex X (151, 777, L, S, w) = q_ex X (151, 778, L, .int (nI 0) :: S, w) := g_go (i := (.iconst 0)) (n := 1) (g := 0) (pl := []) rfl rfl
set_option maxRecDepth 100000 in
theorem e151_778 {X : Nat × (Nat → Int32)} {L : List Value} {w : q_M} {x : Int32} (hx : x = nI 0 ∨ x = nI 1) : q_ex X (151, 778, L, [.int x], w) = some (some (.int x), w) := g_retZ (n := 1) (g := 0) (pl := []) rfl rfl hx
set_option maxRecDepth 100000 in
theorem e151_779 {X : Nat × (Nat → Int32)} {S : List Value} {w : q_M} {a0 a2 a3 : Value} {x : Nat} : q_ex X (151, 779, [a0, .ref x, a2, a3], S, w) = q_ex X (151, 780, [a0, .ref x, a2, a3], .ref x :: S, w) := g_go (i := (.aload_n 1)) (n := 1) (g := 0) (pl := []) rfl rfl
set_option maxRecDepth 100000 in
theorem e151_780 {X : Nat × (Nat → Int32)} {S : List Value} {w : q_M} {a1 a2 a3 : Value} {x : UInt32} : q_ex X (151, 780, [.float x, a1, a2, a3], S, w) = q_ex X (151, 781, [.float x, a1, a2, a3], .float x :: S, w) := g_go (i := (.aload_n 0)) (n := 1) (g := 0) (pl := []) rfl rfl
set_option maxRecDepth 100000 in
theorem e151_781 {X : Nat × (Nat → Int32)} {S : List Value} {w : q_M} {a0 a1 a2 : Value} {x : Int32} : q_ex X (151, 781, [a0, a1, a2, .int x], S, w) = q_ex X (151, 782, [a0, a1, a2, .int x], .int x :: S, w) := g_go (i := (.iload_n 3)) (n := 1) (g := 0) (pl := []) rfl rfl
set_option maxRecDepth 100000 in
theorem e151_782 {X : Nat × (Nat → Int32)} {L S : List Value} {w : q_M} : q_ex X (151, 782, L, S, w) = q_ex X (151, 783, L, .int (nI 1) :: S, w) := g_go (i := (.iconst 1)) (n := 1) (g := 0) (pl := []) rfl rfl
set_option maxRecDepth 100000 in
theorem e151_783 {X : Nat × (Nat → Int32)} {L S : List Value} {w : q_M} {x y : Int32} : q_ex X (151, 783, L, .int y :: .int x :: S, w) = q_ex X (151, 784, L, .int (x + y) :: S, w) := g_go (i := .iadd) (n := 1) (g := 0) (pl := []) rfl rfl
set_option maxRecDepth 100000 in
theorem e151_784 {X : Nat × (Nat → Int32)} {L S : List Value} {w : q_M} {i : Nat} (hi : i < X.1) (hX : X.1 ≤ 100000) : q_ex X (151, 784, L, .int (nI i) :: .float 2 :: S, w) = q_ex X (151, 785, L, .int (X.2 i) :: S, w) := g_xld (v := 2) (n := 1) (g := 0) (pl := []) rfl hi hX
set_option maxRecDepth 100000 in
theorem e151_785 {X : Nat × (Nat → Int32)} {L : List Value} {t u : Nat} {F : Nat → Nat → Int32} {J : Nat → Int64} {x1 : Int32}  : q_ex X (151, 785, L, [.int x1, .ref 0], q_w t u F J) = (q_ex X (74, 0, [.ref 0, .int x1], [], q_w t u F J)).bind (fun r => q_ex X (151, 788, L, r.1.toList ++ [], r.2)) := g_call (i := (.invokevirtual 110)) (n := 3) (g := 74) (pl := []) rfl rfl
set_option maxRecDepth 100000 in
theorem e151_788 {X : Nat × (Nat → Int32)} {S : List Value} {w : q_M} {a0 a1 a3 : Value} {x : Nat} : q_ex X (151, 788, [a0, a1, .ref x, a3], S, w) = q_ex X (151, 789, [a0, a1, .ref x, a3], .ref x :: S, w) := g_go (i := (.aload_n 2)) (n := 1) (g := 0) (pl := []) rfl rfl
set_option maxRecDepth 100000 in
theorem e151_789 {X : Nat × (Nat → Int32)} {S : List Value} {w : q_M} {a1 a2 a3 : Value} {x : UInt32} : q_ex X (151, 789, [.float x, a1, a2, a3], S, w) = q_ex X (151, 790, [.float x, a1, a2, a3], .float x :: S, w) := g_go (i := (.aload_n 0)) (n := 1) (g := 0) (pl := []) rfl rfl
set_option maxRecDepth 100000 in
theorem e151_790 {X : Nat × (Nat → Int32)} {S : List Value} {w : q_M} {a0 a1 a2 : Value} {x : Int32} : q_ex X (151, 790, [a0, a1, a2, .int x], S, w) = q_ex X (151, 791, [a0, a1, a2, .int x], .int x :: S, w) := g_go (i := (.iload_n 3)) (n := 1) (g := 0) (pl := []) rfl rfl
set_option maxRecDepth 100000 in
theorem e151_791 {X : Nat × (Nat → Int32)} {L S : List Value} {w : q_M} : q_ex X (151, 791, L, S, w) = q_ex X (151, 792, L, .int (nI 1) :: S, w) := g_go (i := (.iconst 1)) (n := 1) (g := 0) (pl := []) rfl rfl
set_option maxRecDepth 100000 in
theorem e151_792 {X : Nat × (Nat → Int32)} {L S : List Value} {w : q_M} {x y : Int32} : q_ex X (151, 792, L, .int y :: .int x :: S, w) = q_ex X (151, 793, L, .int (x + y) :: S, w) := g_go (i := .iadd) (n := 1) (g := 0) (pl := []) rfl rfl
set_option maxRecDepth 100000 in
theorem e151_793 {X : Nat × (Nat → Int32)} {L S : List Value} {w : q_M} {i : Nat} (hi : i < X.1) (hX : X.1 ≤ 100000) : q_ex X (151, 793, L, .int (nI i) :: .float 2 :: S, w) = q_ex X (151, 794, L, .int (X.2 i) :: S, w) := g_xld (v := 2) (n := 1) (g := 0) (pl := []) rfl hi hX
set_option maxRecDepth 100000 in
theorem e151_794 {X : Nat × (Nat → Int32)} {L : List Value} {t u : Nat} {F : Nat → Nat → Int32} {J : Nat → Int64} {x1 : Int32} {s0 : Value} : q_ex X (151, 794, L, [.int x1, .ref 72, s0], q_w t u F J) = (q_ex X (136, 0, [.ref 72, .int x1, .null], [], q_w t u F J)).bind (fun r => q_ex X (151, 797, L, r.1.toList ++ [s0], r.2)) := g_call (i := (.invokevirtual 113)) (n := 3) (g := 136) (pl := []) rfl rfl
set_option maxRecDepth 100000 in
theorem e151_797 {X : Nat × (Nat → Int32)} {L S : List Value} {w : q_M} {x y : Int32} : q_ex X (151, 797, L, .int y :: .int x :: S, w) = if x = y then q_ex X (151, 825, L, S, w) else q_ex X (151, 800, L, S, w) := g_c2 (i := (.if_icmp .eq 28)) (n := 3) (g := 825) (pl := []) (P := fun x y => x = y) (fun _ _ => inferInstance) rfl rfl
set_option maxRecDepth 100000 in
theorem e151_800 {X : Nat × (Nat → Int32)} {L S : List Value} {w : q_M} : q_ex X (151, 800, L, S, w) = q_ex X (151, 801, L, .int (nI 0) :: S, w) := g_go (i := (.iconst 0)) (n := 1) (g := 0) (pl := []) rfl rfl
set_option maxRecDepth 100000 in
theorem e151_801 {X : Nat × (Nat → Int32)} {L : List Value} {w : q_M} {x : Int32} (hx : x = nI 0 ∨ x = nI 1) : q_ex X (151, 801, L, [.int x], w) = some (some (.int x), w) := g_retZ (n := 1) (g := 0) (pl := []) rfl rfl hx
set_option maxRecDepth 100000 in
theorem e151_802 {X : Nat × (Nat → Int32)} {S : List Value} {w : q_M} {a0 a2 a3 : Value} {x : Nat} : q_ex X (151, 802, [a0, .ref x, a2, a3], S, w) = q_ex X (151, 803, [a0, .ref x, a2, a3], .ref x :: S, w) := g_go (i := (.aload_n 1)) (n := 1) (g := 0) (pl := []) rfl rfl
set_option maxRecDepth 100000 in
theorem e151_803 {X : Nat × (Nat → Int32)} {S : List Value} {w : q_M} {a1 a2 a3 : Value} {x : UInt32} : q_ex X (151, 803, [.float x, a1, a2, a3], S, w) = q_ex X (151, 804, [.float x, a1, a2, a3], .float x :: S, w) := g_go (i := (.aload_n 0)) (n := 1) (g := 0) (pl := []) rfl rfl
set_option maxRecDepth 100000 in
theorem e151_804 {X : Nat × (Nat → Int32)} {S : List Value} {w : q_M} {a0 a1 a2 : Value} {x : Int32} : q_ex X (151, 804, [a0, a1, a2, .int x], S, w) = q_ex X (151, 805, [a0, a1, a2, .int x], .int x :: S, w) := g_go (i := (.iload_n 3)) (n := 1) (g := 0) (pl := []) rfl rfl
set_option maxRecDepth 100000 in
theorem e151_805 {X : Nat × (Nat → Int32)} {L S : List Value} {w : q_M} : q_ex X (151, 805, L, S, w) = q_ex X (151, 806, L, .int (nI 1) :: S, w) := g_go (i := (.iconst 1)) (n := 1) (g := 0) (pl := []) rfl rfl
set_option maxRecDepth 100000 in
theorem e151_806 {X : Nat × (Nat → Int32)} {L S : List Value} {w : q_M} {x y : Int32} : q_ex X (151, 806, L, .int y :: .int x :: S, w) = q_ex X (151, 807, L, .int (x + y) :: S, w) := g_go (i := .iadd) (n := 1) (g := 0) (pl := []) rfl rfl
set_option maxRecDepth 100000 in
theorem e151_807 {X : Nat × (Nat → Int32)} {L S : List Value} {w : q_M} {i : Nat} (hi : i < X.1) (hX : X.1 ≤ 100000) : q_ex X (151, 807, L, .int (nI i) :: .float 2 :: S, w) = q_ex X (151, 808, L, .int (X.2 i) :: S, w) := g_xld (v := 2) (n := 1) (g := 0) (pl := []) rfl hi hX
set_option maxRecDepth 100000 in
theorem e151_808 {X : Nat × (Nat → Int32)} {L : List Value} {t u : Nat} {F : Nat → Nat → Int32} {J : Nat → Int64} {x1 : Int32}  : q_ex X (151, 808, L, [.int x1, .ref 0], q_w t u F J) = (q_ex X (75, 0, [.ref 0, .int x1], [], q_w t u F J)).bind (fun r => q_ex X (151, 811, L, r.1.toList ++ [], r.2)) := g_call (i := (.invokevirtual 114)) (n := 3) (g := 75) (pl := []) rfl rfl
set_option maxRecDepth 100000 in
theorem e151_811 {X : Nat × (Nat → Int32)} {S : List Value} {w : q_M} {a0 a1 a3 : Value} {x : Nat} : q_ex X (151, 811, [a0, a1, .ref x, a3], S, w) = q_ex X (151, 812, [a0, a1, .ref x, a3], .ref x :: S, w) := g_go (i := (.aload_n 2)) (n := 1) (g := 0) (pl := []) rfl rfl
set_option maxRecDepth 100000 in
theorem e151_812 {X : Nat × (Nat → Int32)} {S : List Value} {w : q_M} {a1 a2 a3 : Value} {x : UInt32} : q_ex X (151, 812, [.float x, a1, a2, a3], S, w) = q_ex X (151, 813, [.float x, a1, a2, a3], .float x :: S, w) := g_go (i := (.aload_n 0)) (n := 1) (g := 0) (pl := []) rfl rfl
set_option maxRecDepth 100000 in
theorem e151_813 {X : Nat × (Nat → Int32)} {S : List Value} {w : q_M} {a0 a1 a2 : Value} {x : Int32} : q_ex X (151, 813, [a0, a1, a2, .int x], S, w) = q_ex X (151, 814, [a0, a1, a2, .int x], .int x :: S, w) := g_go (i := (.iload_n 3)) (n := 1) (g := 0) (pl := []) rfl rfl
set_option maxRecDepth 100000 in
theorem e151_814 {X : Nat × (Nat → Int32)} {L S : List Value} {w : q_M} : q_ex X (151, 814, L, S, w) = q_ex X (151, 815, L, .int (nI 1) :: S, w) := g_go (i := (.iconst 1)) (n := 1) (g := 0) (pl := []) rfl rfl
set_option maxRecDepth 100000 in
theorem e151_815 {X : Nat × (Nat → Int32)} {L S : List Value} {w : q_M} {x y : Int32} : q_ex X (151, 815, L, .int y :: .int x :: S, w) = q_ex X (151, 816, L, .int (x + y) :: S, w) := g_go (i := .iadd) (n := 1) (g := 0) (pl := []) rfl rfl
set_option maxRecDepth 100000 in
theorem e151_816 {X : Nat × (Nat → Int32)} {L S : List Value} {w : q_M} {i : Nat} (hi : i < X.1) (hX : X.1 ≤ 100000) : q_ex X (151, 816, L, .int (nI i) :: .float 2 :: S, w) = q_ex X (151, 817, L, .int (X.2 i) :: S, w) := g_xld (v := 2) (n := 1) (g := 0) (pl := []) rfl hi hX
set_option maxRecDepth 100000 in
theorem e151_817 {X : Nat × (Nat → Int32)} {L : List Value} {t u : Nat} {F : Nat → Nat → Int32} {J : Nat → Int64} {x1 : Int32} {s0 : Value} : q_ex X (151, 817, L, [.int x1, .ref 72, s0], q_w t u F J) = (q_ex X (138, 0, [.ref 72, .int x1], [], q_w t u F J)).bind (fun r => q_ex X (151, 820, L, r.1.toList ++ [s0], r.2)) := g_call (i := (.invokevirtual 117)) (n := 3) (g := 138) (pl := []) rfl rfl
set_option maxRecDepth 100000 in
theorem e151_820 {X : Nat × (Nat → Int32)} {L S : List Value} {w : q_M} {x y : Int32} : q_ex X (151, 820, L, .int y :: .int x :: S, w) = if x = y then q_ex X (151, 825, L, S, w) else q_ex X (151, 823, L, S, w) := g_c2 (i := (.if_icmp .eq 5)) (n := 3) (g := 825) (pl := []) (P := fun x y => x = y) (fun _ _ => inferInstance) rfl rfl
set_option maxRecDepth 100000 in
theorem e151_823 {X : Nat × (Nat → Int32)} {L S : List Value} {w : q_M} : q_ex X (151, 823, L, S, w) = q_ex X (151, 824, L, .int (nI 0) :: S, w) := g_go (i := (.iconst 0)) (n := 1) (g := 0) (pl := []) rfl rfl
set_option maxRecDepth 100000 in
theorem e151_824 {X : Nat × (Nat → Int32)} {L : List Value} {w : q_M} {x : Int32} (hx : x = nI 0 ∨ x = nI 1) : q_ex X (151, 824, L, [.int x], w) = some (some (.int x), w) := g_retZ (n := 1) (g := 0) (pl := []) rfl rfl hx
set_option maxRecDepth 100000 in
theorem e151_825 {X : Nat × (Nat → Int32)} {S : List Value} {w : q_M} {a0 a1 a2 : Value} {x : Int32} : q_ex X (151, 825, [a0, a1, a2, .int x], S, w) = q_ex X (151, 828, [a0, a1, a2, .int (x + nI 7)], S, w) := g_go (i := (.iinc 3 7)) (n := 3) (g := 0) (pl := []) rfl rfl
set_option maxRecDepth 100000 in
theorem e151_828 {X : Nat × (Nat → Int32)} {L S : List Value} {w : q_M} : q_ex X (151, 828, L, S, w) = q_ex X (151, 18, L, S, w) := g_go (i := (.goto (-810))) (n := 3) (g := 18) (pl := []) rfl rfl
set_option maxRecDepth 100000 in
theorem e151_831 {X : Nat × (Nat → Int32)} {L S : List Value} {w : q_M} : q_ex X (151, 831, L, S, w) = q_ex X (151, 832, L, .int (nI 1) :: S, w) := g_go (i := (.iconst 1)) (n := 1) (g := 0) (pl := []) rfl rfl
set_option maxRecDepth 100000 in
theorem e151_832 {X : Nat × (Nat → Int32)} {L : List Value} {w : q_M} {x : Int32} (hx : x = nI 0 ∨ x = nI 1) : q_ex X (151, 832, L, [.int x], w) = some (some (.int x), w) := g_retZ (n := 1) (g := 0) (pl := []) rfl rfl hx
