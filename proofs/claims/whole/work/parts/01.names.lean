-- ===== PART A: goes FIRST, ahead of the names: the tables' words, and 'selects' of the private methods out of them =====
/-- a private method of a class that the tables say can be made, by its rows of tables_1 -/
def lw_okq (q : MethodName × Nat) : Prop := (q.1.cls ≠ "java/lang/invoke/MethodHandle" ∧ q.1.cls ≠ "java/lang/invoke/VarHandle") ∧ Cond.instantiable q.1.cls q.2 ∈ tables_1 ∧ Cond.privateMethod q.1 ∈ tables_1 ∧ Cond.instanceMethod q.1 ∈ tables_1
theorem lw_p0 : lw_okq (⟨"QuietPairs", "powerOf", "(I)I"⟩, 11) := ⟨⟨by decide +kernel, by decide +kernel⟩, List.mem_of_getElem? (i := 13) (by decide +kernel), List.mem_of_getElem? (i := 405) (by decide +kernel), List.mem_of_getElem? (i := 406) (by decide +kernel)⟩
theorem lw_p1 : lw_okq (⟨"QuietPairs", "levelsOf", "(I)I"⟩, 11) := ⟨⟨by decide +kernel, by decide +kernel⟩, List.mem_of_getElem? (i := 13) (by decide +kernel), List.mem_of_getElem? (i := 409) (by decide +kernel), List.mem_of_getElem? (i := 410) (by decide +kernel)⟩
theorem lw_p2 : lw_okq (⟨"QuietPairs", "isLineOn", "(I)Z"⟩, 11) := ⟨⟨by decide +kernel, by decide +kernel⟩, List.mem_of_getElem? (i := 13) (by decide +kernel), List.mem_of_getElem? (i := 422) (by decide +kernel), List.mem_of_getElem? (i := 423) (by decide +kernel)⟩
theorem lw_p3 : lw_okq (⟨"QuietPairs", "cleanAmong", "(I)I"⟩, 11) := ⟨⟨by decide +kernel, by decide +kernel⟩, List.mem_of_getElem? (i := 13) (by decide +kernel), List.mem_of_getElem? (i := 456) (by decide +kernel), List.mem_of_getElem? (i := 457) (by decide +kernel)⟩
theorem lw_p4 : lw_okq (⟨"QuietPairs", "learntOtherwise", "()I"⟩, 11) := ⟨⟨by decide +kernel, by decide +kernel⟩, List.mem_of_getElem? (i := 13) (by decide +kernel), List.mem_of_getElem? (i := 530) (by decide +kernel), List.mem_of_getElem? (i := 531) (by decide +kernel)⟩
theorem lw_p5 : lw_okq (⟨"QuietPairs", "powerOfAll", "()I"⟩, 11) := ⟨⟨by decide +kernel, by decide +kernel⟩, List.mem_of_getElem? (i := 13) (by decide +kernel), List.mem_of_getElem? (i := 534) (by decide +kernel), List.mem_of_getElem? (i := 535) (by decide +kernel)⟩
theorem lw_p6 : lw_okq (⟨"QuietPairsModel", "start", "()V"⟩, 21) := ⟨⟨by decide +kernel, by decide +kernel⟩, List.mem_of_getElem? (i := 538) (by decide +kernel), List.mem_of_getElem? (i := 547) (by decide +kernel), List.mem_of_getElem? (i := 548) (by decide +kernel)⟩
theorem lw_p7 : lw_okq (⟨"QuietPairsModel", "isOn", "(I)Z"⟩, 21) := ⟨⟨by decide +kernel, by decide +kernel⟩, List.mem_of_getElem? (i := 538) (by decide +kernel), List.mem_of_getElem? (i := 625) (by decide +kernel), List.mem_of_getElem? (i := 626) (by decide +kernel)⟩
theorem lw_p8 : lw_okq (⟨"QuietPairsModel", "note", "()V"⟩, 21) := ⟨⟨by decide +kernel, by decide +kernel⟩, List.mem_of_getElem? (i := 538) (by decide +kernel), List.mem_of_getElem? (i := 632) (by decide +kernel), List.mem_of_getElem? (i := 633) (by decide +kernel)⟩
theorem lw_p9 : lw_okq (⟨"QuietPairsModel", "clearPower", "(I)V"⟩, 21) := ⟨⟨by decide +kernel, by decide +kernel⟩, List.mem_of_getElem? (i := 538) (by decide +kernel), List.mem_of_getElem? (i := 643) (by decide +kernel), List.mem_of_getElem? (i := 644) (by decide +kernel)⟩
theorem lw_p10 : lw_okq (⟨"QuietPairsModel", "heard", "(II)I"⟩, 21) := ⟨⟨by decide +kernel, by decide +kernel⟩, List.mem_of_getElem? (i := 538) (by decide +kernel), List.mem_of_getElem? (i := 662) (by decide +kernel), List.mem_of_getElem? (i := 663) (by decide +kernel)⟩
theorem lw_p11 : lw_okq (⟨"QuietPairsModel", "round", "()V"⟩, 21) := ⟨⟨by decide +kernel, by decide +kernel⟩, List.mem_of_getElem? (i := 538) (by decide +kernel), List.mem_of_getElem? (i := 676) (by decide +kernel), List.mem_of_getElem? (i := 677) (by decide +kernel)⟩
theorem lw_p12 : lw_okq (⟨"QuietPairsModel", "fillLine", "(I)V"⟩, 21) := ⟨⟨by decide +kernel, by decide +kernel⟩, List.mem_of_getElem? (i := 538) (by decide +kernel), List.mem_of_getElem? (i := 680) (by decide +kernel), List.mem_of_getElem? (i := 681) (by decide +kernel)⟩
theorem lw_p13 : lw_okq (⟨"QuietPairsModel", "level", "(II)I"⟩, 21) := ⟨⟨by decide +kernel, by decide +kernel⟩, List.mem_of_getElem? (i := 538) (by decide +kernel), List.mem_of_getElem? (i := 684) (by decide +kernel), List.mem_of_getElem? (i := 685) (by decide +kernel)⟩
theorem lw_p14 : lw_okq (⟨"QuietPairsModel", "isSteady", "()Z"⟩, 21) := ⟨⟨by decide +kernel, by decide +kernel⟩, List.mem_of_getElem? (i := 538) (by decide +kernel), List.mem_of_getElem? (i := 688) (by decide +kernel), List.mem_of_getElem? (i := 689) (by decide +kernel)⟩
theorem lw_p15 : lw_okq (⟨"QuietPairsModel", "copyPower", "([I)V"⟩, 21) := ⟨⟨by decide +kernel, by decide +kernel⟩, List.mem_of_getElem? (i := 538) (by decide +kernel), List.mem_of_getElem? (i := 692) (by decide +kernel), List.mem_of_getElem? (i := 693) (by decide +kernel)⟩
def lw_privs_1 : List (MethodName × Nat) := [(⟨"QuietPairs", "powerOf", "(I)I"⟩, 11), (⟨"QuietPairs", "levelsOf", "(I)I"⟩, 11), (⟨"QuietPairs", "isLineOn", "(I)Z"⟩, 11), (⟨"QuietPairs", "cleanAmong", "(I)I"⟩, 11), (⟨"QuietPairs", "learntOtherwise", "()I"⟩, 11), (⟨"QuietPairs", "powerOfAll", "()I"⟩, 11), (⟨"QuietPairsModel", "start", "()V"⟩, 21), (⟨"QuietPairsModel", "isOn", "(I)Z"⟩, 21), (⟨"QuietPairsModel", "note", "()V"⟩, 21), (⟨"QuietPairsModel", "clearPower", "(I)V"⟩, 21), (⟨"QuietPairsModel", "heard", "(II)I"⟩, 21), (⟨"QuietPairsModel", "round", "()V"⟩, 21), (⟨"QuietPairsModel", "fillLine", "(I)V"⟩, 21), (⟨"QuietPairsModel", "level", "(II)I"⟩, 21), (⟨"QuietPairsModel", "isSteady", "()Z"⟩, 21), (⟨"QuietPairsModel", "copyPower", "([I)V"⟩, 21)]
theorem lw_r1 : ∀ q ∈ lw_privs_1, lw_okq q := List.forall_mem_cons.mpr ⟨lw_p0, List.forall_mem_cons.mpr ⟨lw_p1, List.forall_mem_cons.mpr ⟨lw_p2, List.forall_mem_cons.mpr ⟨lw_p3, List.forall_mem_cons.mpr ⟨lw_p4, List.forall_mem_cons.mpr ⟨lw_p5, List.forall_mem_cons.mpr ⟨lw_p6, List.forall_mem_cons.mpr ⟨lw_p7, List.forall_mem_cons.mpr ⟨lw_p8, List.forall_mem_cons.mpr ⟨lw_p9, List.forall_mem_cons.mpr ⟨lw_p10, List.forall_mem_cons.mpr ⟨lw_p11, List.forall_mem_cons.mpr ⟨lw_p12, List.forall_mem_cons.mpr ⟨lw_p13, List.forall_mem_cons.mpr ⟨lw_p14, List.forall_mem_cons.mpr ⟨lw_p15, fun _ h => absurd h List.not_mem_nil⟩⟩⟩⟩⟩⟩⟩⟩⟩⟩⟩⟩⟩⟩⟩⟩
theorem lw_p16 : lw_okq (⟨"QuietPairsModel", "isPower", "([I)Z"⟩, 21) := ⟨⟨by decide +kernel, by decide +kernel⟩, List.mem_of_getElem? (i := 538) (by decide +kernel), List.mem_of_getElem? (i := 696) (by decide +kernel), List.mem_of_getElem? (i := 697) (by decide +kernel)⟩
theorem lw_p17 : lw_okq (⟨"QuietPairsModel", "layPower", "([I)V"⟩, 21) := ⟨⟨by decide +kernel, by decide +kernel⟩, List.mem_of_getElem? (i := 538) (by decide +kernel), List.mem_of_getElem? (i := 700) (by decide +kernel), List.mem_of_getElem? (i := 701) (by decide +kernel)⟩
theorem lw_p18 : lw_okq (⟨"QuietPairsModel", "settledAfter", "()I"⟩, 21) := ⟨⟨by decide +kernel, by decide +kernel⟩, List.mem_of_getElem? (i := 538) (by decide +kernel), List.mem_of_getElem? (i := 708) (by decide +kernel), List.mem_of_getElem? (i := 709) (by decide +kernel)⟩
theorem lw_p19 : lw_okq (⟨"QuietPairsModel", "circle", "()I"⟩, 21) := ⟨⟨by decide +kernel, by decide +kernel⟩, List.mem_of_getElem? (i := 538) (by decide +kernel), List.mem_of_getElem? (i := 712) (by decide +kernel), List.mem_of_getElem? (i := 713) (by decide +kernel)⟩
theorem lw_p20 : lw_okq (⟨"QuietPairsModel", "powerOf", "(I)I"⟩, 21) := ⟨⟨by decide +kernel, by decide +kernel⟩, List.mem_of_getElem? (i := 538) (by decide +kernel), List.mem_of_getElem? (i := 728) (by decide +kernel), List.mem_of_getElem? (i := 729) (by decide +kernel)⟩
theorem lw_p21 : lw_okq (⟨"QuietPairsModel", "isSent", "(II)Z"⟩, 21) := ⟨⟨by decide +kernel, by decide +kernel⟩, List.mem_of_getElem? (i := 538) (by decide +kernel), List.mem_of_getElem? (i := 740) (by decide +kernel), List.mem_of_getElem? (i := 741) (by decide +kernel)⟩
theorem lw_p22 : lw_okq (⟨"QuietPairsModel", "canMake", "(I)Z"⟩, 21) := ⟨⟨by decide +kernel, by decide +kernel⟩, List.mem_of_getElem? (i := 538) (by decide +kernel), List.mem_of_getElem? (i := 744) (by decide +kernel), List.mem_of_getElem? (i := 745) (by decide +kernel)⟩
theorem lw_p23 : lw_okq (⟨"QuietPairsModel", "layGrid", "(I)V"⟩, 21) := ⟨⟨by decide +kernel, by decide +kernel⟩, List.mem_of_getElem? (i := 538) (by decide +kernel), List.mem_of_getElem? (i := 748) (by decide +kernel), List.mem_of_getElem? (i := 749) (by decide +kernel)⟩
theorem lw_p24 : lw_okq (⟨"QuietPairsModel", "isCleared", "(I)Z"⟩, 21) := ⟨⟨by decide +kernel, by decide +kernel⟩, List.mem_of_getElem? (i := 538) (by decide +kernel), List.mem_of_getElem? (i := 752) (by decide +kernel), List.mem_of_getElem? (i := 753) (by decide +kernel)⟩
theorem lw_p25 : lw_okq (⟨"QuietPairsModel", "made", "(IIIII)I"⟩, 21) := ⟨⟨by decide +kernel, by decide +kernel⟩, List.mem_of_getElem? (i := 538) (by decide +kernel), List.mem_of_getElem? (i := 756) (by decide +kernel), List.mem_of_getElem? (i := 757) (by decide +kernel)⟩
theorem lw_p26 : lw_okq (⟨"QuietPairsModel", "got", "(IIIIII)I"⟩, 21) := ⟨⟨by decide +kernel, by decide +kernel⟩, List.mem_of_getElem? (i := 538) (by decide +kernel), List.mem_of_getElem? (i := 760) (by decide +kernel), List.mem_of_getElem? (i := 761) (by decide +kernel)⟩
theorem lw_p27 : lw_okq (⟨"QuietPairsModel", "cleanBy", "(I)I"⟩, 21) := ⟨⟨by decide +kernel, by decide +kernel⟩, List.mem_of_getElem? (i := 538) (by decide +kernel), List.mem_of_getElem? (i := 772) (by decide +kernel), List.mem_of_getElem? (i := 773) (by decide +kernel)⟩
theorem lw_p28 : lw_okq (⟨"QuietPairsModel", "may", "(II)Z"⟩, 21) := ⟨⟨by decide +kernel, by decide +kernel⟩, List.mem_of_getElem? (i := 538) (by decide +kernel), List.mem_of_getElem? (i := 792) (by decide +kernel), List.mem_of_getElem? (i := 793) (by decide +kernel)⟩
theorem lw_p29 : lw_okq (⟨"QuietPairsModel", "unlike", "()I"⟩, 21) := ⟨⟨by decide +kernel, by decide +kernel⟩, List.mem_of_getElem? (i := 538) (by decide +kernel), List.mem_of_getElem? (i := 813) (by decide +kernel), List.mem_of_getElem? (i := 814) (by decide +kernel)⟩
theorem lw_p30 : lw_okq (⟨"QuietPairsModel", "next", "()V"⟩, 21) := ⟨⟨by decide +kernel, by decide +kernel⟩, List.mem_of_getElem? (i := 538) (by decide +kernel), List.mem_of_getElem? (i := 829) (by decide +kernel), List.mem_of_getElem? (i := 830) (by decide +kernel)⟩
theorem lw_p31 : lw_okq (⟨"QuietPairsModel", "readItem", "()V"⟩, 21) := ⟨⟨by decide +kernel, by decide +kernel⟩, List.mem_of_getElem? (i := 538) (by decide +kernel), List.mem_of_getElem? (i := 836) (by decide +kernel), List.mem_of_getElem? (i := 837) (by decide +kernel)⟩
def lw_privs_2 : List (MethodName × Nat) := [(⟨"QuietPairsModel", "isPower", "([I)Z"⟩, 21), (⟨"QuietPairsModel", "layPower", "([I)V"⟩, 21), (⟨"QuietPairsModel", "settledAfter", "()I"⟩, 21), (⟨"QuietPairsModel", "circle", "()I"⟩, 21), (⟨"QuietPairsModel", "powerOf", "(I)I"⟩, 21), (⟨"QuietPairsModel", "isSent", "(II)Z"⟩, 21), (⟨"QuietPairsModel", "canMake", "(I)Z"⟩, 21), (⟨"QuietPairsModel", "layGrid", "(I)V"⟩, 21), (⟨"QuietPairsModel", "isCleared", "(I)Z"⟩, 21), (⟨"QuietPairsModel", "made", "(IIIII)I"⟩, 21), (⟨"QuietPairsModel", "got", "(IIIIII)I"⟩, 21), (⟨"QuietPairsModel", "cleanBy", "(I)I"⟩, 21), (⟨"QuietPairsModel", "may", "(II)Z"⟩, 21), (⟨"QuietPairsModel", "unlike", "()I"⟩, 21), (⟨"QuietPairsModel", "next", "()V"⟩, 21), (⟨"QuietPairsModel", "readItem", "()V"⟩, 21)]
theorem lw_r2 : ∀ q ∈ lw_privs_2, lw_okq q := List.forall_mem_cons.mpr ⟨lw_p16, List.forall_mem_cons.mpr ⟨lw_p17, List.forall_mem_cons.mpr ⟨lw_p18, List.forall_mem_cons.mpr ⟨lw_p19, List.forall_mem_cons.mpr ⟨lw_p20, List.forall_mem_cons.mpr ⟨lw_p21, List.forall_mem_cons.mpr ⟨lw_p22, List.forall_mem_cons.mpr ⟨lw_p23, List.forall_mem_cons.mpr ⟨lw_p24, List.forall_mem_cons.mpr ⟨lw_p25, List.forall_mem_cons.mpr ⟨lw_p26, List.forall_mem_cons.mpr ⟨lw_p27, List.forall_mem_cons.mpr ⟨lw_p28, List.forall_mem_cons.mpr ⟨lw_p29, List.forall_mem_cons.mpr ⟨lw_p30, List.forall_mem_cons.mpr ⟨lw_p31, fun _ h => absurd h List.not_mem_nil⟩⟩⟩⟩⟩⟩⟩⟩⟩⟩⟩⟩⟩⟩⟩⟩
theorem lw_p32 : lw_okq (⟨"QuietPairsModel", "must", "(Z)I"⟩, 21) := ⟨⟨by decide +kernel, by decide +kernel⟩, List.mem_of_getElem? (i := 538) (by decide +kernel), List.mem_of_getElem? (i := 840) (by decide +kernel), List.mem_of_getElem? (i := 841) (by decide +kernel)⟩
theorem lw_p33 : lw_okq (⟨"QuietPairsModel", "number", "(II)I"⟩, 21) := ⟨⟨by decide +kernel, by decide +kernel⟩, List.mem_of_getElem? (i := 538) (by decide +kernel), List.mem_of_getElem? (i := 844) (by decide +kernel), List.mem_of_getElem? (i := 845) (by decide +kernel)⟩
theorem lw_p34 : lw_okq (⟨"QuietPairsModel", "lay", "(II)V"⟩, 21) := ⟨⟨by decide +kernel, by decide +kernel⟩, List.mem_of_getElem? (i := 538) (by decide +kernel), List.mem_of_getElem? (i := 848) (by decide +kernel), List.mem_of_getElem? (i := 849) (by decide +kernel)⟩
def lw_privs_3 : List (MethodName × Nat) := [(⟨"QuietPairsModel", "must", "(Z)I"⟩, 21), (⟨"QuietPairsModel", "number", "(II)I"⟩, 21), (⟨"QuietPairsModel", "lay", "(II)V"⟩, 21)]
theorem lw_r3 : ∀ q ∈ lw_privs_3, lw_okq q := List.forall_mem_cons.mpr ⟨lw_p32, List.forall_mem_cons.mpr ⟨lw_p33, List.forall_mem_cons.mpr ⟨lw_p34, fun _ h => absurd h List.not_mem_nil⟩⟩⟩
def lw_privs : List (MethodName × Nat) := lw_privs_1 ++ (lw_privs_2 ++ (lw_privs_3))
def lw_tbl : List Cond := k2_sels lw_privs ++ tables_1
theorem lw_privs_ok : ∀ q ∈ lw_privs, lw_okq q := by
  show ∀ q ∈ lw_privs_1 ++ (lw_privs_2 ++ (lw_privs_3)), lw_okq q
  exact List.forall_mem_append.mpr ⟨lw_r1, List.forall_mem_append.mpr ⟨lw_r2, lw_r3⟩⟩
/-! ===== BEGIN printed: names, fields, word lists, decode rows ===== -/
def RX0 : String := "QuietPairs$Done"
def TX0 : u_T := fun k => match k with
  | 0 => ("QuietPairs$Done", "on", "I", false)
  | 1 => ("QuietPairs$Done", "ears", "[I", true)
  | 2 => ("QuietPairs$Done", "learnt", "[I", true)
  | 3 => ("QuietPairs$Done", "struck", "[I", true)
  | _ => ("QuietPairs$Done", "power", "[I", true)
def tyX0 : Nat → FieldType := fun k => match k with
  | 0 => .int
  | 1 => .array .int
  | 2 => .array .int
  | 3 => .array .int
  | _ => .array .int
abbrev wsX00 : List Cond := u_ws RX0 TX0 5
theorem nmX0 : ∀ a, a < 5 → ∀ b, b < 5 → a ≠ b → (TX0 a).2.1 ≠ (TX0 b).2.1 := by decide +kernel
theorem tyX0_ok : ∀ k, k < 5 → parseFieldDescriptor (TX0 k).2.2.1 = some (tyX0 k) := by decide +kernel
abbrev cX0_init : ByteArray := prog_2_method_1_code
def yX0_init : MethodName := ⟨RX0, "<init>", "()V"⟩
abbrev cX0_becomeFirst : ByteArray := prog_2_method_2_code
def yX0_becomeFirst : MethodName := ⟨RX0, "becomeFirst", "([I)V"⟩
abbrev cX0_becomes : ByteArray := prog_2_method_3_code
def yX0_becomes : MethodName := ⟨RX0, "becomes", "(LQuietPairs$Done;)V"⟩
abbrev cX0_forgetsStruck : ByteArray := prog_2_method_4_code
def yX0_forgetsStruck : MethodName := ⟨RX0, "forgetsStruck", "()V"⟩
abbrev cX0_isOn : ByteArray := prog_2_method_5_code
def yX0_isOn : MethodName := ⟨RX0, "isOn", "(I)Z"⟩
abbrev cX0_otherEars : ByteArray := prog_2_method_6_code
def yX0_otherEars : MethodName := ⟨RX0, "otherEars", "(II)I"⟩
def RX1 : String := "QuietPairs$Past"
def TX1 : u_T := fun k => match k with
  | 0 => ("QuietPairs$Past", "ring", "[LQuietPairs$Done;", true)
  | 1 => ("QuietPairs$Past", "next", "I", false)
  | _ => ("QuietPairs$Past", "known", "I", false)
def tyX1 : Nat → FieldType := fun k => match k with
  | 0 => .array (.object "QuietPairs$Done")
  | 1 => .int
  | _ => .int
abbrev wsX10 : List Cond := u_ws RX1 TX1 3
theorem nmX1 : ∀ a, a < 3 → ∀ b, b < 3 → a ≠ b → (TX1 a).2.1 ≠ (TX1 b).2.1 := by decide +kernel
theorem tyX1_ok : ∀ k, k < 3 → parseFieldDescriptor (TX1 k).2.2.1 = some (tyX1 k) := by decide +kernel
abbrev cX1_init : ByteArray := prog_3_method_1_code
def yX1_init : MethodName := ⟨RX1, "<init>", "()V"⟩
abbrev cX1_remembers : ByteArray := prog_3_method_2_code
def yX1_remembers : MethodName := ⟨RX1, "remembers", "(LQuietPairs$Done;)V"⟩
abbrev cX1_givesLatest : ByteArray := prog_3_method_3_code
def yX1_givesLatest : MethodName := ⟨RX1, "givesLatest", "(LQuietPairs$Done;)V"⟩
def RX2 : String := "QuietPairs$Power"
def TX2 : u_T := fun k => match k with
  | 0 => ("QuietPairs$Power", "levels", "[I", true)
  | 1 => ("QuietPairs$Power", "spare", "[I", true)
  | _ => ("QuietPairs$Power", "mark", "J", false)
def tyX2 : Nat → FieldType := fun k => match k with
  | 0 => .array .int
  | 1 => .array .int
  | _ => .long
abbrev wsX20 : List Cond := u_ws RX2 TX2 3
theorem nmX2 : ∀ a, a < 3 → ∀ b, b < 3 → a ≠ b → (TX2 a).2.1 ≠ (TX2 b).2.1 := by decide +kernel
theorem tyX2_ok : ∀ k, k < 3 → parseFieldDescriptor (TX2 k).2.2.1 = some (tyX2 k) := by decide +kernel
abbrev cX2_init : ByteArray := prog_4_method_1_code
def yX2_init : MethodName := ⟨RX2, "<init>", "()V"⟩
abbrev cX2_level : ByteArray := prog_4_method_2_code
def yX2_level : MethodName := ⟨RX2, "level", "(LQuietPairs$Told;I[III)I"⟩
abbrev cX2_laysRound : ByteArray := prog_4_method_3_code
def yX2_laysRound : MethodName := ⟨RX2, "laysRound", "(LQuietPairs$Told;I[I)V"⟩
abbrev cX2_laysLine : ByteArray := prog_4_method_4_code
def yX2_laysLine : MethodName := ⟨RX2, "laysLine", "(LQuietPairs$Told;I[II)V"⟩
abbrev cX2_quietest : ByteArray := prog_4_method_5_code
def yX2_quietest : MethodName := ⟨RX2, "quietest", "([III)I"⟩
abbrev cX2_isSteady : ByteArray := prog_4_method_6_code
def yX2_isSteady : MethodName := ⟨RX2, "isSteady", "(LQuietPairs$Told;LQuietPairs$Done;)Z"⟩
abbrev cX2_settledAfter : ByteArray := prog_4_method_7_code
def yX2_settledAfter : MethodName := ⟨RX2, "settledAfter", "(LQuietPairs$Told;LQuietPairs$Done;)I"⟩
abbrev cX2_period : ByteArray := prog_4_method_8_code
def yX2_period : MethodName := ⟨RX2, "period", "(LQuietPairs$Told;LQuietPairs$Done;)I"⟩
abbrev cX2_startsSpare : ByteArray := prog_4_method_9_code
def yX2_startsSpare : MethodName := ⟨RX2, "startsSpare", "([I)V"⟩
abbrev cX2_changesSpare : ByteArray := prog_4_method_10_code
def yX2_changesSpare : MethodName := ⟨RX2, "changesSpare", "(LQuietPairs$Told;I)Z"⟩
abbrev cX2_packed : ByteArray := prog_4_method_11_code
def yX2_packed : MethodName := ⟨RX2, "packed", "([I)J"⟩
def RX3 : String := "QuietPairs$Symbols"
def TX3 : u_T := fun k => match k with
  | 0 => ("QuietPairs$Symbols", "got", "[I", true)
  | 1 => ("QuietPairs$Symbols", "made", "[I", true)
  | _ => ("QuietPairs$Symbols", "rows", "[I", true)
def tyX3 : Nat → FieldType := fun k => match k with
  | 0 => .array .int
  | 1 => .array .int
  | _ => .array .int
abbrev wsX30 : List Cond := u_ws RX3 TX3 3
theorem nmX3 : ∀ a, a < 3 → ∀ b, b < 3 → a ≠ b → (TX3 a).2.1 ≠ (TX3 b).2.1 := by decide +kernel
theorem tyX3_ok : ∀ k, k < 3 → parseFieldDescriptor (TX3 k).2.2.1 = some (tyX3 k) := by decide +kernel
abbrev cX3_init : ByteArray := prog_5_method_1_code
def yX3_init : MethodName := ⟨RX3, "<init>", "()V"⟩
abbrev cX3_learns : ByteArray := prog_5_method_2_code
def yX3_learns : MethodName := ⟨RX3, "learns", "(LQuietPairs$Done;)I"⟩
abbrev cX3_hearsBeats : ByteArray := prog_5_method_3_code
def yX3_hearsBeats : MethodName := ⟨RX3, "hearsBeats", "(LQuietPairs$Done;I)V"⟩
abbrev cX3_learnsLine : ByteArray := prog_5_method_4_code
def yX3_learnsLine : MethodName := ⟨RX3, "learnsLine", "(LQuietPairs$Done;I)I"⟩
abbrev cX3_makes : ByteArray := prog_5_method_5_code
def yX3_makes : MethodName := ⟨RX3, "makes", "([II[I)Z"⟩
abbrev cX3_setsRow : ByteArray := prog_5_method_6_code
def yX3_setsRow : MethodName := ⟨RX3, "setsRow", "([II[II)V"⟩
abbrev cX3_bringsPivot : ByteArray := prog_5_method_7_code
def yX3_bringsPivot : MethodName := ⟨RX3, "bringsPivot", "(I)Z"⟩
abbrev cX3_clearsColumn : ByteArray := prog_5_method_8_code
def yX3_clearsColumn : MethodName := ⟨RX3, "clearsColumn", "(I)V"⟩
abbrev cX3_gotBy : ByteArray := prog_5_method_9_code
def yX3_gotBy : MethodName := ⟨RX3, "gotBy", "(LQuietPairs$Done;I)I"⟩
def RX4 : String := "QuietPairs$Text"
def TX4 : u_T := fun k => match k with
  | 0 => ("QuietPairs$Text", "letters", "[I", true)
  | 1 => ("QuietPairs$Text", "length", "I", false)
  | 2 => ("QuietPairs$Text", "at", "I", false)
  | _ => ("QuietPairs$Text", "fault", "I", false)
def tyX4 : Nat → FieldType := fun k => match k with
  | 0 => .array .int
  | 1 => .int
  | 2 => .int
  | _ => .int
abbrev wsX40 : List Cond := u_ws RX4 TX4 4
theorem nmX4 : ∀ a, a < 4 → ∀ b, b < 4 → a ≠ b → (TX4 a).2.1 ≠ (TX4 b).2.1 := by decide +kernel
theorem tyX4_ok : ∀ k, k < 4 → parseFieldDescriptor (TX4 k).2.2.1 = some (tyX4 k) := by decide +kernel
abbrev cX4_init : ByteArray := prog_6_method_1_code
def yX4_init : MethodName := ⟨RX4, "<init>", "()V"⟩
abbrev cX4_takesLetter : ByteArray := prog_6_method_2_code
def yX4_takesLetter : MethodName := ⟨RX4, "takesLetter", "(I)Z"⟩
abbrev cX4_empties : ByteArray := prog_6_method_3_code
def yX4_empties : MethodName := ⟨RX4, "empties", "()I"⟩
abbrev cX4_readsInto : ByteArray := prog_6_method_4_code
def yX4_readsInto : MethodName := ⟨RX4, "readsInto", "(LQuietPairs$Told;)I"⟩
abbrev cX4_skipsBlanks : ByteArray := prog_6_method_5_code
def yX4_skipsBlanks : MethodName := ⟨RX4, "skipsBlanks", "()V"⟩
abbrev cX4_readsItem : ByteArray := prog_6_method_6_code
def yX4_readsItem : MethodName := ⟨RX4, "readsItem", "(LQuietPairs$Told;)V"⟩
abbrev cX4_readsEar : ByteArray := prog_6_method_7_code
def yX4_readsEar : MethodName := ⟨RX4, "readsEar", "(LQuietPairs$Told;)V"⟩
abbrev cX4_readsNoise : ByteArray := prog_6_method_8_code
def yX4_readsNoise : MethodName := ⟨RX4, "readsNoise", "(LQuietPairs$Told;)V"⟩
abbrev cX4_readsLeak : ByteArray := prog_6_method_9_code
def yX4_readsLeak : MethodName := ⟨RX4, "readsLeak", "(LQuietPairs$Told;)V"⟩
abbrev cX4_readsBudget : ByteArray := prog_6_method_10_code
def yX4_readsBudget : MethodName := ⟨RX4, "readsBudget", "(LQuietPairs$Told;)V"⟩
abbrev cX4_readsMask : ByteArray := prog_6_method_11_code
def yX4_readsMask : MethodName := ⟨RX4, "readsMask", "(LQuietPairs$Told;)V"⟩
abbrev cX4_readsNumber : ByteArray := prog_6_method_12_code
def yX4_readsNumber : MethodName := ⟨RX4, "readsNumber", "(III)I"⟩
abbrev cX4_readsFigures : ByteArray := prog_6_method_13_code
def yX4_readsFigures : MethodName := ⟨RX4, "readsFigures", "()I"⟩
abbrev cX4_readsEnd : ByteArray := prog_6_method_14_code
def yX4_readsEnd : MethodName := ⟨RX4, "readsEnd", "()Z"⟩
def RX5 : String := "QuietPairs$Told"
def TX5 : u_T := fun k => match k with
  | 0 => ("QuietPairs$Told", "ears", "[I", true)
  | 1 => ("QuietPairs$Told", "leaks", "[I", true)
  | 2 => ("QuietPairs$Told", "noises", "[I", true)
  | 3 => ("QuietPairs$Told", "budgets", "[I", true)
  | _ => ("QuietPairs$Told", "mask", "I", false)
def tyX5 : Nat → FieldType := fun k => match k with
  | 0 => .array .int
  | 1 => .array .int
  | 2 => .array .int
  | 3 => .array .int
  | _ => .int
abbrev wsX50 : List Cond := u_ws RX5 TX5 5
theorem nmX5 : ∀ a, a < 5 → ∀ b, b < 5 → a ≠ b → (TX5 a).2.1 ≠ (TX5 b).2.1 := by decide +kernel
theorem tyX5_ok : ∀ k, k < 5 → parseFieldDescriptor (TX5 k).2.2.1 = some (tyX5 k) := by decide +kernel
abbrev cX5_init : ByteArray := prog_7_method_1_code
def yX5_init : MethodName := ⟨RX5, "<init>", "()V"⟩
abbrev cX5_becomeFirst : ByteArray := prog_7_method_2_code
def yX5_becomeFirst : MethodName := ⟨RX5, "becomeFirst", "()V"⟩
def RX6 : String := "QuietPairs$Tried"
def TX6 : u_T := fun k => match k with
  | 0 => ("QuietPairs$Tried", "heard", "[I", true)
  | 1 => ("QuietPairs$Tried", "well", "[Z", true)
  | _ => ("QuietPairs$Tried", "size", "I", false)
def tyX6 : Nat → FieldType := fun k => match k with
  | 0 => .array .int
  | 1 => .array .boolean
  | _ => .int
abbrev wsX60 : List Cond := u_ws RX6 TX6 3
theorem nmX6 : ∀ a, a < 3 → ∀ b, b < 3 → a ≠ b → (TX6 a).2.1 ≠ (TX6 b).2.1 := by decide +kernel
theorem tyX6_ok : ∀ k, k < 3 → parseFieldDescriptor (TX6 k).2.2.1 = some (tyX6 k) := by decide +kernel
abbrev cX6_init : ByteArray := prog_8_method_1_code
def yX6_init : MethodName := ⟨RX6, "<init>", "()V"⟩
abbrev cX6_takes : ByteArray := prog_8_method_2_code
def yX6_takes : MethodName := ⟨RX6, "takes", "(III)Z"⟩
abbrev cX6_suspects : ByteArray := prog_8_method_3_code
def yX6_suspects : MethodName := ⟨RX6, "suspects", "(I)I"⟩
abbrev cX6_least : ByteArray := prog_8_method_4_code
def yX6_least : MethodName := ⟨RX6, "least", "(I)I"⟩
abbrev cX6_best : ByteArray := prog_8_method_5_code
def yX6_best : MethodName := ⟨RX6, "best", "(I)I"⟩
def RX7 : String := "QuietPairs"
def TX7 : u_T := fun k => match k with
  | 0 => ("QuietPairs", "text", "LQuietPairs$Text;", true)
  | 1 => ("QuietPairs", "told", "LQuietPairs$Told;", false)
  | 2 => ("QuietPairs", "toldNext", "LQuietPairs$Told;", false)
  | 3 => ("QuietPairs", "now", "LQuietPairs$Done;", true)
  | 4 => ("QuietPairs", "past", "LQuietPairs$Past;", true)
  | 5 => ("QuietPairs", "symbols", "LQuietPairs$Symbols;", true)
  | 6 => ("QuietPairs", "power", "LQuietPairs$Power;", true)
  | 7 => ("QuietPairs", "tried", "LQuietPairs$Tried;", true)
  | 8 => ("QuietPairs", "images", "[LQuietPairs$Done;", true)
  | 9 => ("QuietPairs", "imagesKept", "I", false)
  | _ => ("QuietPairs", "sent", "[I", true)
def tyX7 : Nat → FieldType := fun k => match k with
  | 0 => .object "QuietPairs$Text"
  | 1 => .object "QuietPairs$Told"
  | 2 => .object "QuietPairs$Told"
  | 3 => .object "QuietPairs$Done"
  | 4 => .object "QuietPairs$Past"
  | 5 => .object "QuietPairs$Symbols"
  | 6 => .object "QuietPairs$Power"
  | 7 => .object "QuietPairs$Tried"
  | 8 => .array (.object "QuietPairs$Done")
  | 9 => .int
  | _ => .array .int
abbrev wsX70 : List Cond := u_ws RX7 TX7 11
theorem nmX7 : ∀ a, a < 11 → ∀ b, b < 11 → a ≠ b → (TX7 a).2.1 ≠ (TX7 b).2.1 := by decide +kernel
theorem tyX7_ok : ∀ k, k < 11 → parseFieldDescriptor (TX7 k).2.2.1 = some (tyX7 k) := by decide +kernel
abbrev cX7_init : ByteArray := prog_1_method_1_code
def yX7_init : MethodName := ⟨RX7, "<init>", "()V"⟩
abbrev cX7_type : ByteArray := prog_1_method_2_code
def yX7_type : MethodName := ⟨RX7, "type", "(I)I"⟩
abbrev cX7_clear : ByteArray := prog_1_method_3_code
def yX7_clear : MethodName := ⟨RX7, "clear", "()I"⟩
abbrev cX7_tells : ByteArray := prog_1_method_4_code
def yX7_tells : MethodName := ⟨RX7, "tells", "()I"⟩
abbrev cX7_joins : ByteArray := prog_1_method_5_code
def yX7_joins : MethodName := ⟨RX7, "joins", "(I)I"⟩
abbrev cX7_leaves : ByteArray := prog_1_method_6_code
def yX7_leaves : MethodName := ⟨RX7, "leaves", "(I)I"⟩
abbrev cX7_drifts : ByteArray := prog_1_method_7_code
def yX7_drifts : MethodName := ⟨RX7, "drifts", "(III)I"⟩
abbrev cX7_strikes : ByteArray := prog_1_method_8_code
def yX7_strikes : MethodName := ⟨RX7, "strikes", "(III)I"⟩
abbrev cX7_trains : ByteArray := prog_1_method_9_code
def yX7_trains : MethodName := ⟨RX7, "trains", "()I"⟩
abbrev cX7_fills : ByteArray := prog_1_method_10_code
def yX7_fills : MethodName := ⟨RX7, "fills", "(I)I"⟩
abbrev cX7_undo : ByteArray := prog_1_method_11_code
def yX7_undo : MethodName := ⟨RX7, "undo", "()I"⟩
abbrev cX7_pair : ByteArray := prog_1_method_12_code
def yX7_pair : MethodName := ⟨RX7, "pair", "(III)I"⟩
abbrev cX7_line : ByteArray := prog_1_method_13_code
def yX7_line : MethodName := ⟨RX7, "line", "(II)I"⟩
abbrev cX7_tone : ByteArray := prog_1_method_14_code
def yX7_tone : MethodName := ⟨RX7, "tone", "(III)I"⟩
abbrev cX7_send : ByteArray := prog_1_method_15_code
def yX7_send : MethodName := ⟨RX7, "send", "(IIIIII)I"⟩
abbrev cX7_maker : ByteArray := prog_1_method_16_code
def yX7_maker : MethodName := ⟨RX7, "maker", "(II)I"⟩
abbrev cX7_clean : ByteArray := prog_1_method_17_code
def yX7_clean : MethodName := ⟨RX7, "clean", "()I"⟩
abbrev cX7_hurt : ByteArray := prog_1_method_18_code
def yX7_hurt : MethodName := ⟨RX7, "hurt", "(I)I"⟩
abbrev cX7_settled : ByteArray := prog_1_method_19_code
def yX7_settled : MethodName := ⟨RX7, "settled", "(I)I"⟩
abbrev cX7_tries : ByteArray := prog_1_method_20_code
def yX7_tries : MethodName := ⟨RX7, "tries", "(III)I"⟩
abbrev cX7_forget : ByteArray := prog_1_method_21_code
def yX7_forget : MethodName := ⟨RX7, "forget", "()I"⟩
abbrev cX7_which : ByteArray := prog_1_method_22_code
def yX7_which : MethodName := ⟨RX7, "which", "(I)I"⟩
abbrev cX7_ask : ByteArray := prog_1_method_23_code
def yX7_ask : MethodName := ⟨RX7, "ask", "()I"⟩
abbrev cX7_keep : ByteArray := prog_1_method_24_code
def yX7_keep : MethodName := ⟨RX7, "keep", "(I)I"⟩
abbrev cX7_back : ByteArray := prog_1_method_25_code
def yX7_back : MethodName := ⟨RX7, "back", "(I)I"⟩
abbrev cX7_count : ByteArray := prog_1_method_26_code
def yX7_count : MethodName := ⟨RX7, "count", "(I)I"⟩
abbrev cX7_isLine : ByteArray := prog_1_method_27_code
def yX7_isLine : MethodName := ⟨RX7, "isLine", "(I)Z"⟩
abbrev cX7_isSymbol : ByteArray := prog_1_method_28_code
def yX7_isSymbol : MethodName := ⟨RX7, "isSymbol", "(I)Z"⟩
abbrev cX7_isLineOn : ByteArray := prog_1_method_29_code
def yX7_isLineOn : MethodName := ⟨RX7, "isLineOn", "(I)Z"⟩
abbrev cX7_powerOf : ByteArray := prog_1_method_30_code
def yX7_powerOf : MethodName := ⟨RX7, "powerOf", "(I)I"⟩
abbrev cX7_powerOfAll : ByteArray := prog_1_method_31_code
def yX7_powerOfAll : MethodName := ⟨RX7, "powerOfAll", "()I"⟩
abbrev cX7_levelsOf : ByteArray := prog_1_method_32_code
def yX7_levelsOf : MethodName := ⟨RX7, "levelsOf", "(I)I"⟩
abbrev cX7_learntOtherwise : ByteArray := prog_1_method_33_code
def yX7_learntOtherwise : MethodName := ⟨RX7, "learntOtherwise", "()I"⟩
abbrev cX7_cleanAmong : ByteArray := prog_1_method_34_code
def yX7_cleanAmong : MethodName := ⟨RX7, "cleanAmong", "(I)I"⟩
def RX8 : String := "QuietPairsModel"
def TX8 : u_T := fun k => match k with
  | 0 => ("QuietPairsModel", "told", "[I", true)
  | 1 => ("QuietPairsModel", "draft", "[I", true)
  | 2 => ("QuietPairsModel", "now", "[I", true)
  | 3 => ("QuietPairsModel", "past", "[I", true)
  | 4 => ("QuietPairsModel", "pasts", "I", false)
  | 5 => ("QuietPairsModel", "images", "[I", true)
  | 6 => ("QuietPairsModel", "isKept", "[Z", true)
  | 7 => ("QuietPairsModel", "aside", "[I", true)
  | 8 => ("QuietPairsModel", "other", "[I", true)
  | 9 => ("QuietPairsModel", "grid", "[I", true)
  | 10 => ("QuietPairsModel", "tried", "I", false)
  | 11 => ("QuietPairsModel", "triedBy", "[I", true)
  | 12 => ("QuietPairsModel", "triedSet", "[I", true)
  | 13 => ("QuietPairsModel", "triedWell", "[I", true)
  | 14 => ("QuietPairsModel", "text", "[I", true)
  | 15 => ("QuietPairsModel", "typed", "I", false)
  | 16 => ("QuietPairsModel", "at", "I", false)
  | 17 => ("QuietPairsModel", "tokenAt", "I", false)
  | 18 => ("QuietPairsModel", "token", "I", false)
  | 19 => ("QuietPairsModel", "value", "I", false)
  | _ => ("QuietPairsModel", "fault", "I", false)
def tyX8 : Nat → FieldType := fun k => match k with
  | 0 => .array .int
  | 1 => .array .int
  | 2 => .array .int
  | 3 => .array .int
  | 4 => .int
  | 5 => .array .int
  | 6 => .array .boolean
  | 7 => .array .int
  | 8 => .array .int
  | 9 => .array .int
  | 10 => .int
  | 11 => .array .int
  | 12 => .array .int
  | 13 => .array .int
  | 14 => .array .int
  | 15 => .int
  | 16 => .int
  | 17 => .int
  | 18 => .int
  | 19 => .int
  | _ => .int
abbrev wsX80 : List Cond := u_ws RX8 TX8 21
theorem nmX8 : ∀ a, a < 21 → ∀ b, b < 21 → a ≠ b → (TX8 a).2.1 ≠ (TX8 b).2.1 := by decide +kernel
theorem tyX8_ok : ∀ k, k < 21 → parseFieldDescriptor (TX8 k).2.2.1 = some (tyX8 k) := by decide +kernel
abbrev cX8_init : ByteArray := prog_10_method_1_code
def yX8_init : MethodName := ⟨RX8, "<init>", "()V"⟩
abbrev cX8_in : ByteArray := prog_10_method_2_code
def yX8_in : MethodName := ⟨RX8, "in", "(III)Z"⟩
abbrev cX8_has : ByteArray := prog_10_method_3_code
def yX8_has : MethodName := ⟨RX8, "has", "(II)Z"⟩
abbrev cX8_isLine : ByteArray := prog_10_method_4_code
def yX8_isLine : MethodName := ⟨RX8, "isLine", "(I)Z"⟩
abbrev cX8_isOn : ByteArray := prog_10_method_5_code
def yX8_isOn : MethodName := ⟨RX8, "isOn", "(I)Z"⟩
abbrev cX8_bits : ByteArray := prog_10_method_6_code
def yX8_bits : MethodName := ⟨RX8, "bits", "(I)I"⟩
abbrev cX8_begin : ByteArray := prog_10_method_7_code
def yX8_begin : MethodName := ⟨RX8, "begin", "([I)V"⟩
abbrev cX8_start : ByteArray := prog_10_method_8_code
def yX8_start : MethodName := ⟨RX8, "start", "()V"⟩
abbrev cX8_symbol : ByteArray := prog_10_method_9_code
def yX8_symbol : MethodName := ⟨RX8, "symbol", "(I)I"⟩
abbrev cX8_by : ByteArray := prog_10_method_10_code
def yX8_by : MethodName := ⟨RX8, "by", "(II)I"⟩
abbrev cX8_mark : ByteArray := prog_10_method_11_code
def yX8_mark : MethodName := ⟨RX8, "mark", "(II)I"⟩
abbrev cX8_note : ByteArray := prog_10_method_12_code
def yX8_note : MethodName := ⟨RX8, "note", "()V"⟩
abbrev cX8_joins : ByteArray := prog_10_method_13_code
def yX8_joins : MethodName := ⟨RX8, "joins", "(I)I"⟩
abbrev cX8_leaves : ByteArray := prog_10_method_14_code
def yX8_leaves : MethodName := ⟨RX8, "leaves", "(I)I"⟩
abbrev cX8_drifts : ByteArray := prog_10_method_15_code
def yX8_drifts : MethodName := ⟨RX8, "drifts", "(III)I"⟩
abbrev cX8_strikes : ByteArray := prog_10_method_16_code
def yX8_strikes : MethodName := ⟨RX8, "strikes", "(III)I"⟩
abbrev cX8_heard : ByteArray := prog_10_method_17_code
def yX8_heard : MethodName := ⟨RX8, "heard", "(II)I"⟩
abbrev cX8_trains : ByteArray := prog_10_method_18_code
def yX8_trains : MethodName := ⟨RX8, "trains", "()I"⟩
abbrev cX8_clearPower : ByteArray := prog_10_method_19_code
def yX8_clearPower : MethodName := ⟨RX8, "clearPower", "(I)V"⟩
abbrev cX8_level : ByteArray := prog_10_method_20_code
def yX8_level : MethodName := ⟨RX8, "level", "(II)I"⟩
abbrev cX8_fillLine : ByteArray := prog_10_method_21_code
def yX8_fillLine : MethodName := ⟨RX8, "fillLine", "(I)V"⟩
abbrev cX8_round : ByteArray := prog_10_method_22_code
def yX8_round : MethodName := ⟨RX8, "round", "()V"⟩
abbrev cX8_copyPower : ByteArray := prog_10_method_23_code
def yX8_copyPower : MethodName := ⟨RX8, "copyPower", "([I)V"⟩
abbrev cX8_layPower : ByteArray := prog_10_method_24_code
def yX8_layPower : MethodName := ⟨RX8, "layPower", "([I)V"⟩
abbrev cX8_isPower : ByteArray := prog_10_method_25_code
def yX8_isPower : MethodName := ⟨RX8, "isPower", "([I)Z"⟩
abbrev cX8_isSteady : ByteArray := prog_10_method_26_code
def yX8_isSteady : MethodName := ⟨RX8, "isSteady", "()Z"⟩
abbrev cX8_fills : ByteArray := prog_10_method_27_code
def yX8_fills : MethodName := ⟨RX8, "fills", "(I)I"⟩
abbrev cX8_settledAfter : ByteArray := prog_10_method_28_code
def yX8_settledAfter : MethodName := ⟨RX8, "settledAfter", "()I"⟩
abbrev cX8_circle : ByteArray := prog_10_method_29_code
def yX8_circle : MethodName := ⟨RX8, "circle", "()I"⟩
abbrev cX8_settled : ByteArray := prog_10_method_30_code
def yX8_settled : MethodName := ⟨RX8, "settled", "(I)I"⟩
abbrev cX8_undo : ByteArray := prog_10_method_31_code
def yX8_undo : MethodName := ⟨RX8, "undo", "()I"⟩
abbrev cX8_pair : ByteArray := prog_10_method_32_code
def yX8_pair : MethodName := ⟨RX8, "pair", "(III)I"⟩
abbrev cX8_powerOf : ByteArray := prog_10_method_33_code
def yX8_powerOf : MethodName := ⟨RX8, "powerOf", "(I)I"⟩
abbrev cX8_line : ByteArray := prog_10_method_34_code
def yX8_line : MethodName := ⟨RX8, "line", "(II)I"⟩
abbrev cX8_tone : ByteArray := prog_10_method_35_code
def yX8_tone : MethodName := ⟨RX8, "tone", "(III)I"⟩
abbrev cX8_layGrid : ByteArray := prog_10_method_36_code
def yX8_layGrid : MethodName := ⟨RX8, "layGrid", "(I)V"⟩
abbrev cX8_isCleared : ByteArray := prog_10_method_37_code
def yX8_isCleared : MethodName := ⟨RX8, "isCleared", "(I)Z"⟩
abbrev cX8_canMake : ByteArray := prog_10_method_38_code
def yX8_canMake : MethodName := ⟨RX8, "canMake", "(I)Z"⟩
abbrev cX8_made : ByteArray := prog_10_method_39_code
def yX8_made : MethodName := ⟨RX8, "made", "(IIIII)I"⟩
abbrev cX8_got : ByteArray := prog_10_method_40_code
def yX8_got : MethodName := ⟨RX8, "got", "(IIIIII)I"⟩
abbrev cX8_isSent : ByteArray := prog_10_method_41_code
def yX8_isSent : MethodName := ⟨RX8, "isSent", "(II)Z"⟩
abbrev cX8_send : ByteArray := prog_10_method_42_code
def yX8_send : MethodName := ⟨RX8, "send", "(IIIIII)I"⟩
abbrev cX8_maker : ByteArray := prog_10_method_43_code
def yX8_maker : MethodName := ⟨RX8, "maker", "(II)I"⟩
abbrev cX8_cleanBy : ByteArray := prog_10_method_44_code
def yX8_cleanBy : MethodName := ⟨RX8, "cleanBy", "(I)I"⟩
abbrev cX8_clean : ByteArray := prog_10_method_45_code
def yX8_clean : MethodName := ⟨RX8, "clean", "()I"⟩
abbrev cX8_hurt : ByteArray := prog_10_method_46_code
def yX8_hurt : MethodName := ⟨RX8, "hurt", "(I)I"⟩
abbrev cX8_tries : ByteArray := prog_10_method_47_code
def yX8_tries : MethodName := ⟨RX8, "tries", "(III)I"⟩
abbrev cX8_forget : ByteArray := prog_10_method_48_code
def yX8_forget : MethodName := ⟨RX8, "forget", "()I"⟩
abbrev cX8_may : ByteArray := prog_10_method_49_code
def yX8_may : MethodName := ⟨RX8, "may", "(II)Z"⟩
abbrev cX8_which : ByteArray := prog_10_method_50_code
def yX8_which : MethodName := ⟨RX8, "which", "(I)I"⟩
abbrev cX8_ask : ByteArray := prog_10_method_51_code
def yX8_ask : MethodName := ⟨RX8, "ask", "()I"⟩
abbrev cX8_keep : ByteArray := prog_10_method_52_code
def yX8_keep : MethodName := ⟨RX8, "keep", "(I)I"⟩
abbrev cX8_back : ByteArray := prog_10_method_53_code
def yX8_back : MethodName := ⟨RX8, "back", "(I)I"⟩
abbrev cX8_unlike : ByteArray := prog_10_method_54_code
def yX8_unlike : MethodName := ⟨RX8, "unlike", "()I"⟩
abbrev cX8_count : ByteArray := prog_10_method_55_code
def yX8_count : MethodName := ⟨RX8, "count", "(I)I"⟩
abbrev cX8_type : ByteArray := prog_10_method_56_code
def yX8_type : MethodName := ⟨RX8, "type", "(I)I"⟩
abbrev cX8_clear : ByteArray := prog_10_method_57_code
def yX8_clear : MethodName := ⟨RX8, "clear", "()I"⟩
abbrev cX8_isItem : ByteArray := prog_10_method_58_code
def yX8_isItem : MethodName := ⟨RX8, "isItem", "(I)Z"⟩
abbrev cX8_next : ByteArray := prog_10_method_59_code
def yX8_next : MethodName := ⟨RX8, "next", "()V"⟩
abbrev cX8_must : ByteArray := prog_10_method_60_code
def yX8_must : MethodName := ⟨RX8, "must", "(Z)I"⟩
abbrev cX8_number : ByteArray := prog_10_method_61_code
def yX8_number : MethodName := ⟨RX8, "number", "(II)I"⟩
abbrev cX8_lay : ByteArray := prog_10_method_62_code
def yX8_lay : MethodName := ⟨RX8, "lay", "(II)V"⟩
abbrev cX8_readItem : ByteArray := prog_10_method_63_code
def yX8_readItem : MethodName := ⟨RX8, "readItem", "()V"⟩
abbrev cX8_tells : ByteArray := prog_10_method_64_code
def yX8_tells : MethodName := ⟨RX8, "tells", "()I"⟩
def RJ6 : String := "java/lang/Integer"
abbrev cJ6_bitCount_0f7a4 : ByteArray := prog_11_method_49_code
def yJ6_bitCount_0f7a4 : MethodName := ⟨RJ6, "bitCount", "(I)I"⟩
def RJ9 : String := "java/lang/Math"
abbrev cJ9_max_7cf53 : ByteArray := prog_12_method_65_code
def yJ9_max_7cf53 : MethodName := ⟨RJ9, "max", "(II)I"⟩
abbrev cJ9_min_7cf53 : ByteArray := prog_12_method_69_code
def yJ9_min_7cf53 : MethodName := ⟨RJ9, "min", "(II)I"⟩
def RL : String := "QuietPairsLaw"
abbrev cL_law : ByteArray := code
def yL_law : MethodName := ⟨RL, "law", "([I)Z"⟩
abbrev vwCl : List vw_C := [(RX0, TX0, 5), (RX1, TX1, 3), (RX2, TX2, 3), (RX3, TX3, 3), (RX4, TX4, 4), (RX5, TX5, 5), (RX6, TX6, 3), (RX7, TX7, 11), (RX8, TX8, 21)]
