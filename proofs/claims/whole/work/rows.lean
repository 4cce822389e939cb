section
-- ===== PART A: goes FIRST, ahead of the names: the tables' words, and 'selects' of the private methods out of them =====
/-- a private method of a class that the tables say can be made, by its rows of tables_1 -/
def lw_okq (q : MethodName × Nat) : Prop := (q.1.cls ≠ "java/lang/invoke/MethodHandle" ∧ q.1.cls ≠ "java/lang/invoke/VarHandle") ∧ Cond.instantiable q.1.cls q.2 ∈ tables_1 ∧ Cond.privateMethod q.1 ∈ tables_1 ∧ Cond.instanceMethod q.1 ∈ tables_1
theorem lw_p0 : lw_okq (⟨"QuietPairs", "powerOf", "(I)I"⟩, 11) := ⟨⟨by decide +kernel, by decide +kernel⟩, List.mem_of_getElem? (i := 13) (by decide +kernel), List.mem_of_getElem? (i := 405) (by decide +kernel), List.mem_of_getElem? (i := 406) (by decide +kernel)⟩
theorem lw_p1 : lw_okq (⟨"QuietPairs", "levelsOf", "(I)I"⟩, 11) := ⟨⟨by decide +kernel, by decide +kernel⟩, List.mem_of_getElem? (i := 13) (by decide +kernel), List.mem_of_getElem? (i := 409) (by decide +kernel), List.mem_of_getElem? (i := 410) (by decide +kernel)⟩
theorem lw_p2 : lw_okq (⟨"QuietPairs", "isLineOn", "(I)Z"⟩, 11) := ⟨⟨by decide +kernel, by decide +kernel⟩, List.mem_of_getElem? (i := 13) (by decide +kernel), List.mem_of_getElem? (i := 422) (by decide +kernel), List.mem_of_getElem? (i := 423) (by decide +kernel)⟩
theorem lw_p3 : lw_okq (⟨"QuietPairs", "cleanAmong", "(I)I"⟩, 11) := ⟨⟨by decide +kernel, by decide +kernel⟩, List.mem_of_getElem? (i := 13) (by decide +kernel), List.mem_of_getElem? (i := 456) (by decide +kernel), List.mem_of_getElem? (i := 457) (by decide +kernel)⟩
theorem lw_p4 : lw_okq (⟨"QuietPairs", "learntOtherwise", "()I"⟩, 11) := ⟨⟨by decide +kernel, by decide +kernel⟩, List.mem_of_getElem? (i := 13) (by decide +kernel), List.mem_of_getElem? (i := 530) (by decide +kernel), List.mem_of_getElem? (i := 531) (by decide +kernel)⟩
theorem lw_p5 : lw_okq (⟨"QuietPairs", "powerOfAll", "()I"⟩, 11) := ⟨⟨by decide +kernel, by decide +kernel⟩, List.mem_of_getElem? (i := 13) (by decide +kernel), List.mem_of_getElem? (i := 534) (by decide +kernel), List.mem_of_getElem? (i := 535) (by decide +kernel)⟩
theorem lw_p6 : lw_okq (⟨"QuietPairsModel", "start", "()V"⟩, 21) := ⟨⟨by decide +kernel, by decide +kernel⟩, List.mem_of_getElem? (i := 538) (by decide +kernel), List.mem_of_getElem? (i := 547) (by decide +kernel), List.mem_of_getElem? (i := 548) (by decide +kernel)⟩
theorem lw_p7 : lw_okq (⟨"QuietPairsModel", "isOn", "(I)Z"⟩, 21) := ⟨⟨by decide +kernel, by decide +kernel⟩, List.mem_of_getElem? (i := 538) (by decide +kernel), List.mem_of_getElem? (i := 625) (by decide +kernel), List.mem_of_getElem? (i := 626) (by decide +kernel)⟩
theorem lw_p8 : lw_okq (⟨"QuietPairsModel", "note", "()V"⟩, 21) := ⟨⟨by decide +kernel, by decide +kernel⟩, List.mem_of_getElem? (i := 538) (by decide +kernel), List.mem_of_getElem? (i := 632) (by decide +kernel), List.mem_of_getElem? (i := 633) (by decide +kernel)⟩
theorem lw_p9 : lw_okq (⟨"QuietPairsModel", "clearPower", "(I)V"⟩, 21) := ⟨⟨by decide +kernel, by decide +kernel⟩, List.mem_of_getElem? (i := 538) (by decide +kernel), List.mem_of_getElem? (i := 643) (by decide +kernel), List.mem_of_getElem? (i := 644) (by decide +kernel)⟩
theorem lw_p10 : lw_okq (⟨"QuietPairsModel", "heard", "(II)I"⟩, 21) := ⟨⟨by decide +kernel, by decide +kernel⟩, List.mem_of_getElem? (i := 538) (by decide +kernel), List.mem_of_getElem? (i := 662) (by decide +kernel), List.mem_of_getElem? (i := 663) (by decide +kernel)⟩
theorem lw_p11 : lw_okq (⟨"QuietPairsModel", "round", "()V"⟩, 21) := ⟨⟨by decide +kernel, by decide +kernel⟩, List.mem_of_getElem? (i := 538) (by decide +kernel), List.mem_of_getElem? (i := 676) (by decide +kernel), List.mem_of_getElem? (i := 677) (by decide +kernel)⟩
theorem lw_p12 : lw_okq (⟨"QuietPairsModel", "fillLine", "(I)V"⟩, 21) := ⟨⟨by decide +kernel, by decide +kernel⟩, List.mem_of_getElem? (i := 538) (by decide +kernel), List.mem_of_getElem? (i := 680) (by decide +kernel), List.mem_of_getElem? (i := 681) (by decide +kernel)⟩
theorem lw_p13 : lw_okq (⟨"QuietPairsModel", "level", "(II)I"⟩, 21) := ⟨⟨by decide +kernel, by decide +kernel⟩, List.mem_of_getElem? (i := 538) (by decide +kernel), List.mem_of_getElem? (i := 684) (by decide +kernel), List.mem_of_getElem? (i := 685) (by decide +kernel)⟩
theorem lw_p14 : lw_okq (⟨"QuietPairsModel", "isSteady", "()Z"⟩, 21) := ⟨⟨by decide +kernel, by decide +kernel⟩, List.mem_of_getElem? (i := 538) (by decide +kernel), List.mem_of_getElem? (i := 688) (by decide +kernel), List.mem_of_getElem? (i := 689) (by decide +kernel)⟩
theorem lw_p15 : lw_okq (⟨"QuietPairsModel", "copyPower", "([I)V"⟩, 21) := ⟨⟨by decide +kernel, by decide +kernel⟩, List.mem_of_getElem? (i := 538) (by decide +kernel), List.mem_of_getElem? (i := 692) (by decide +kernel), List.mem_of_getElem? (i := 693) (by decide +kernel)⟩
def lw_privs_1 : List (MethodName × Nat) := [(⟨"QuietPairs", "powerOf", "(I)I"⟩, 11), (⟨"QuietPairs", "levelsOf", "(I)I"⟩, 11), (⟨"QuietPairs", "isLineOn", "(I)Z"⟩, 11), (⟨"QuietPairs", "cleanAmong", "(I)I"⟩, 11), (⟨"QuietPairs", "learntOtherwise", "()I"⟩, 11), (⟨"QuietPairs", "powerOfAll", "()I"⟩, 11), (⟨"QuietPairsModel", "start", "()V"⟩, 21), (⟨"QuietPairsModel", "isOn", "(I)Z"⟩, 21), (⟨"QuietPairsModel", "note", "()V"⟩, 21), (⟨"QuietPairsModel", "clearPower", "(I)V"⟩, 21), (⟨"QuietPairsModel", "heard", "(II)I"⟩, 21), (⟨"QuietPairsModel", "round", "()V"⟩, 21), (⟨"QuietPairsModel", "fillLine", "(I)V"⟩, 21), (⟨"QuietPairsModel", "level", "(II)I"⟩, 21), (⟨"QuietPairsModel", "isSteady", "()Z"⟩, 21), (⟨"QuietPairsModel", "copyPower", "([I)V"⟩, 21)]
theorem lw_r1 : ∀ q ∈ lw_privs_1, lw_okq q := List.forall_mem_cons.mpr ⟨lw_p0, List.forall_mem_cons.mpr ⟨lw_p1, List.forall_mem_cons.mpr ⟨lw_p2, List.forall_mem_cons.mpr ⟨lw_p3, List.forall_mem_cons.mpr ⟨lw_p4, List.forall_mem_cons.mpr ⟨lw_p5, List.forall_mem_cons.mpr ⟨lw_p6, List.forall_mem_cons.mpr ⟨lw_p7, List.forall_mem_cons.mpr ⟨lw_p8, List.forall_mem_cons.mpr ⟨lw_p9, List.forall_mem_cons.mpr ⟨lw_p10, List.forall_mem_cons.mpr ⟨lw_p11, List.forall_mem_cons.mpr ⟨lw_p12, List.forall_mem_cons.mpr ⟨lw_p13, List.forall_mem_cons.mpr ⟨lw_p14, List.forall_mem_cons.mpr ⟨lw_p15, fun _ h => absurd h List.not_mem_nil⟩⟩⟩⟩⟩⟩⟩⟩⟩⟩⟩⟩⟩⟩⟩⟩
theorem lw_p16 : lw_okq (⟨"QuietPairsModel", "isPower", "([I)Z"⟩, 21) := ⟨⟨by decide +kernel, by decide +kernel⟩, List.mem_of_getElem? (i := 538) (by decide +kernel), List.mem_of_getElem? (i := 696) (by decide +kernel), List.mem_of_getElem? (i := 697) (by decide +kernel)⟩
theorem lw_p17 : lw_okq (⟨"QuietPairsModel", "layPower", "([I)V"⟩, 21) := ⟨⟨by decide +kernel, by decide +kernel⟩, List.mem_of_getElem? (i := 538) (by decide +kernel), List.mem_of_getElem? (i := 700) (by decide +kernel), List.mem_of_getElem? (i := 701) (by decide +kernel)⟩
theorem lw_p18 : lw_okq (⟨"QuietPairsModel", "settledAfter", "()I"⟩, 21) := ⟨⟨by decide +kernel, by decide +kernel⟩, List.mem_of_getElem? (i := 538) (by decide +kernel), List.mem_of_getElem? (i := 708) (by decide +kernel), List.mem_of_getElem? (i := 709) (by decide +kernel)⟩
theorem lw_p19 : lw_okq (⟨"QuietPairsModel", "circle", "()I"⟩, 21) := ⟨⟨by decide +kernel, by decide +kernel⟩, List.mem_of_getElem? (i := 538) (by decide +kernel), List.mem_of_getElem? (i := 712) (by decide +kernel), List.mem_of_getElem? (i := 713) (by decide +kernel)⟩
theorem lw_p20 : lw_okq (⟨"QuietPairsModel", "powerOf", "(I)I"⟩, 21) := ⟨⟨by decide +kernel, by decide +kernel⟩, List.mem_of_getElem? (i := 538) (by decide +kernel), List.mem_of_getElem? (i := 728) (by decide +kernel), List.mem_of_getElem? (i := 729) (by decide +kernel)⟩
theorem lw_p21 : lw_okq (⟨"QuietPairsModel", "isSent", "(II)Z"⟩, 21) := ⟨⟨by decide +kernel, by decide +kernel⟩, List.mem_of_getElem? (i := 538) (by decide +kernel), List.mem_of_getElem? (i := 740) (by decide +kernel), List.mem_of_getElem? (i := 741) (by decide +kernel)⟩
theorem lw_p22 : lw_okq (⟨"QuietPairsModel", "canMake", "(I)Z"⟩, 21) := ⟨⟨by decide +kernel, by decide +kernel⟩, List.mem_of_getElem? (i := 538) (by decide +kernel), List.mem_of_getElem? (i := 744) (by decide +kernel), List.mem_of_getElem? (i := 745) (by decide +kernel)⟩
theorem lw_p23 : lw_okq (⟨"QuietPairsModel", "layGrid", "(I)V"⟩, 21) := ⟨⟨by decide +kernel, by decide +kernel⟩, List.mem_of_getElem? (i := 538) (by decide +kernel), List.mem_of_getElem? (i := 748) (by decide +kernel), List.mem_of_getElem? (i := 749) (by decide +kernel)⟩
theorem lw_p24 : lw_okq (⟨"QuietPairsModel", "isCleared", "(I)Z"⟩, 21) := ⟨⟨by decide +kernel, by decide +kernel⟩, List.mem_of_getElem? (i := 538) (by decide +kernel), List.mem_of_getElem? (i := 752) (by decide +kernel), List.mem_of_getElem? (i := 753) (by decide +kernel)⟩
theorem lw_p25 : lw_okq (⟨"QuietPairsModel", "made", "(IIIII)I"⟩, 21) := ⟨⟨by decide +kernel, by decide +kernel⟩, List.mem_of_getElem? (i := 538) (by decide +kernel), List.mem_of_getElem? (i := 756) (by decide +kernel), List.mem_of_getElem? (i := 757) (by decide +kernel)⟩
theorem lw_p26 : lw_okq (⟨"QuietPairsModel", "got", "(IIIIII)I"⟩, 21) := ⟨⟨by decide +kernel, by decide +kernel⟩, List.mem_of_getElem? (i := 538) (by decide +kernel), List.mem_of_getElem? (i := 760) (by decide +kernel), List.mem_of_getElem? (i := 761) (by decide +kernel)⟩
theorem lw_p27 : lw_okq (⟨"QuietPairsModel", "cleanBy", "(I)I"⟩, 21) := ⟨⟨by decide +kernel, by decide +kernel⟩, List.mem_of_getElem? (i := 538) (by decide +kernel), List.mem_of_getElem? (i := 772) (by decide +kernel), List.mem_of_getElem? (i := 773) (by decide +kernel)⟩
theorem lw_p28 : lw_okq (⟨"QuietPairsModel", "may", "(II)Z"⟩, 21) := ⟨⟨by decide +kernel, by decide +kernel⟩, List.mem_of_getElem? (i := 538) (by decide +kernel), List.mem_of_getElem? (i := 792) (by decide +kernel), List.mem_of_getElem? (i := 793) (by decide +kernel)⟩
theorem lw_p29 : lw_okq (⟨"QuietPairsModel", "unlike", "()I"⟩, 21) := ⟨⟨by decide +kernel, by decide +kernel⟩, List.mem_of_getElem? (i := 538) (by decide +kernel), List.mem_of_getElem? (i := 813) (by decide +kernel), List.mem_of_getElem? (i := 814) (by decide +kernel)⟩
theorem lw_p30 : lw_okq (⟨"QuietPairsModel", "next", "()V"⟩, 21) := ⟨⟨by decide +kernel, by decide +kernel⟩, List.mem_of_getElem? (i := 538) (by decide +kernel), List.mem_of_getElem? (i := 829) (by decide +kernel), List.mem_of_getElem? (i := 830) (by decide +kernel)⟩
theorem lw_p31 : lw_okq (⟨"QuietPairsModel", "readItem", "()V"⟩, 21) := ⟨⟨by decide +kernel, by decide +kernel⟩, List.mem_of_getElem? (i := 538) (by decide +kernel), List.mem_of_getElem? (i := 836) (by decide +kernel), List.mem_of_getElem? (i := 837) (by decide +kernel)⟩
def lw_privs_2 : List (MethodName × Nat) := [(⟨"QuietPairsModel", "isPower", "([I)Z"⟩, 21), (⟨"QuietPairsModel", "layPower", "([I)V"⟩, 21), (⟨"QuietPairsModel", "settledAfter", "()I"⟩, 21), (⟨"QuietPairsModel", "circle", "()I"⟩, 21), (⟨"QuietPairsModel", "powerOf", "(I)I"⟩, 21), (⟨"QuietPairsModel", "isSent", "(II)Z"⟩, 21), (⟨"QuietPairsModel", "canMake", "(I)Z"⟩, 21), (⟨"QuietPairsModel", "layGrid", "(I)V"⟩, 21), (⟨"QuietPairsModel", "isCleared", "(I)Z"⟩, 21), (⟨"QuietPairsModel", "made", "(IIIII)I"⟩, 21), (⟨"QuietPairsModel", "got", "(IIIIII)I"⟩, 21), (⟨"QuietPairsModel", "cleanBy", "(I)I"⟩, 21), (⟨"QuietPairsModel", "may", "(II)Z"⟩, 21), (⟨"QuietPairsModel", "unlike", "()I"⟩, 21), (⟨"QuietPairsModel", "next", "()V"⟩, 21), (⟨"QuietPairsModel", "readItem", "()V"⟩, 21)]
theorem lw_r2 : ∀ q ∈ lw_privs_2, lw_okq q := List.forall_mem_cons.mpr ⟨lw_p16, List.forall_mem_cons.mpr ⟨lw_p17, List.forall_mem_cons.mpr ⟨lw_p18, List.forall_mem_cons.mpr ⟨lw_p19, List.forall_mem_cons.mpr ⟨lw_p20, List.forall_mem_cons.mpr ⟨lw_p21, List.forall_mem_cons.mpr ⟨lw_p22, List.forall_mem_cons.mpr ⟨lw_p23, List.forall_mem_cons.mpr ⟨lw_p24, List.forall_mem_cons.mpr ⟨lw_p25, List.forall_mem_cons.mpr ⟨lw_p26, List.forall_mem_cons.mpr ⟨lw_p27, List.forall_mem_cons.mpr ⟨lw_p28, List.forall_mem_cons.mpr ⟨lw_p29, List.forall_mem_cons.mpr ⟨lw_p30, List.forall_mem_cons.mpr ⟨lw_p31, fun _ h => absurd h List.not_mem_nil⟩⟩⟩⟩⟩⟩⟩⟩⟩⟩⟩⟩⟩⟩⟩⟩
theorem lw_p32 : lw_okq (⟨"QuietPairsModel", "must", "(Z)I"⟩, 21) := ⟨⟨by decide +kernel, by decide +kernel⟩, List.mem_of_getElem? (i := 538) (by decide +kernel), List.mem_of_getElem? (i := 840) (by decide +kernel), List.mem_of_getElem? (i := 841) (by decide +kernel)⟩
theorem lw_p33 : lw_okq (⟨"QuietPairsModel", "number", "(II)I"⟩, 21) := ⟨⟨by decide +kernel, by decide +kernel⟩, List.mem_of_getElem? (i := 538) (by decide +kernel), List.mem_of_getElem? (i := 844) (by decide +kernel), List.mem_of_getElem? (i := 845) (by decide +kernel)⟩
theorem lw_p34 : lw_okq (⟨"QuietPairsModel", "lay", "(II)V"⟩, 21) := ⟨⟨by decide +kernel, by decide +kernel⟩, List.mem_of_getElem? (i := 538) (by decide +kernel), List.mem_of_getElem? (i := 848) (by decide +kernel), List.mem_of_getElem? (i := 849) (by decide +kernel)⟩
def lw_privs_3 : List (MethodName × Nat) := [(⟨"QuietPairsModel", "must", "(Z)I"⟩, 21), (⟨"QuietPairsModel", "number", "(II)I"⟩, 21), (⟨"QuietPairsModel", "lay", "(II)V"⟩, 21)]
theorem lw_r3 : ∀ q ∈ lw_privs_3, lw_okq q := List.forall_mem_cons.mpr ⟨lw_p32, List.forall_mem_cons.mpr ⟨lw_p33, List.forall_mem_cons.mpr ⟨lw_p34, fun _ h => absurd h List.not_mem_nil⟩⟩⟩
def lw_privs : List (MethodName × Nat) := lw_privs_1 ++ (lw_privs_2 ++ (lw_privs_3))
def lw_tbl : List Cond := k2_sels lw_privs ++ tables_1
theorem lw_privs_ok : ∀ q ∈ lw_privs, lw_okq q := by
  show ∀ q ∈ lw_privs_1 ++ (lw_privs_2 ++ (lw_privs_3)), lw_okq q
  exact List.forall_mem_append.mpr ⟨lw_r1, List.forall_mem_append.mpr ⟨lw_r2, lw_r3⟩⟩
/-! ===== BEGIN printed: names, fields, word lists, decode rows ===== -/
def RX0 : String := "QuietPairs$Done"
def TX0 : u_T := fun k => match k with
  | 0 => ("QuietPairs$Done", "on", "I", false)
  | 1 => ("QuietPairs$Done", "ears", "[I", true)
  | 2 => ("QuietPairs$Done", "learnt", "[I", true)
  | 3 => ("QuietPairs$Done", "struck", "[I", true)
  | _ => ("QuietPairs$Done", "power", "[I", true)
def tyX0 : Nat → FieldType := fun k => match k with
  | 0 => .int
  | 1 => .array .int
  | 2 => .array .int
  | 3 => .array .int
  | _ => .array .int
abbrev wsX00 : List Cond := u_ws RX0 TX0 5
theorem nmX0 : ∀ a, a < 5 → ∀ b, b < 5 → a ≠ b → (TX0 a).2.1 ≠ (TX0 b).2.1 := by decide +kernel
theorem tyX0_ok : ∀ k, k < 5 → parseFieldDescriptor (TX0 k).2.2.1 = some (tyX0 k) := by decide +kernel
abbrev cX0_init : ByteArray := prog_2_method_1_code
def yX0_init : MethodName := ⟨RX0, "<init>", "()V"⟩
abbrev cX0_becomeFirst : ByteArray := prog_2_method_2_code
def yX0_becomeFirst : MethodName := ⟨RX0, "becomeFirst", "([I)V"⟩
abbrev cX0_becomes : ByteArray := prog_2_method_3_code
def yX0_becomes : MethodName := ⟨RX0, "becomes", "(LQuietPairs$Done;)V"⟩
abbrev cX0_forgetsStruck : ByteArray := prog_2_method_4_code
def yX0_forgetsStruck : MethodName := ⟨RX0, "forgetsStruck", "()V"⟩
abbrev cX0_isOn : ByteArray := prog_2_method_5_code
def yX0_isOn : MethodName := ⟨RX0, "isOn", "(I)Z"⟩
abbrev cX0_otherEars : ByteArray := prog_2_method_6_code
def yX0_otherEars : MethodName := ⟨RX0, "otherEars", "(II)I"⟩
def RX1 : String := "QuietPairs$Past"
def TX1 : u_T := fun k => match k with
  | 0 => ("QuietPairs$Past", "ring", "[LQuietPairs$Done;", true)
  | 1 => ("QuietPairs$Past", "next", "I", false)
  | _ => ("QuietPairs$Past", "known", "I", false)
def tyX1 : Nat → FieldType := fun k => match k with
  | 0 => .array (.object "QuietPairs$Done")
  | 1 => .int
  | _ => .int
abbrev wsX10 : List Cond := u_ws RX1 TX1 3
theorem nmX1 : ∀ a, a < 3 → ∀ b, b < 3 → a ≠ b → (TX1 a).2.1 ≠ (TX1 b).2.1 := by decide +kernel
theorem tyX1_ok : ∀ k, k < 3 → parseFieldDescriptor (TX1 k).2.2.1 = some (tyX1 k) := by decide +kernel
abbrev cX1_init : ByteArray := prog_3_method_1_code
def yX1_init : MethodName := ⟨RX1, "<init>", "()V"⟩
abbrev cX1_remembers : ByteArray := prog_3_method_2_code
def yX1_remembers : MethodName := ⟨RX1, "remembers", "(LQuietPairs$Done;)V"⟩
abbrev cX1_givesLatest : ByteArray := prog_3_method_3_code
def yX1_givesLatest : MethodName := ⟨RX1, "givesLatest", "(LQuietPairs$Done;)V"⟩
def RX2 : String := "QuietPairs$Power"
def TX2 : u_T := fun k => match k with
  | 0 => ("QuietPairs$Power", "levels", "[I", true)
  | 1 => ("QuietPairs$Power", "spare", "[I", true)
  | _ => ("QuietPairs$Power", "mark", "J", false)
def tyX2 : Nat → FieldType := fun k => match k with
  | 0 => .array .int
  | 1 => .array .int
  | _ => .long
abbrev wsX20 : List Cond := u_ws RX2 TX2 3
theorem nmX2 : ∀ a, a < 3 → ∀ b, b < 3 → a ≠ b → (TX2 a).2.1 ≠ (TX2 b).2.1 := by decide +kernel
theorem tyX2_ok : ∀ k, k < 3 → parseFieldDescriptor (TX2 k).2.2.1 = some (tyX2 k) := by decide +kernel
abbrev cX2_init : ByteArray := prog_4_method_1_code
def yX2_init : MethodName := ⟨RX2, "<init>", "()V"⟩
abbrev cX2_level : ByteArray := prog_4_method_2_code
def yX2_level : MethodName := ⟨RX2, "level", "(LQuietPairs$Told;I[III)I"⟩
abbrev cX2_laysRound : ByteArray := prog_4_method_3_code
def yX2_laysRound : MethodName := ⟨RX2, "laysRound", "(LQuietPairs$Told;I[I)V"⟩
abbrev cX2_laysLine : ByteArray := prog_4_method_4_code
def yX2_laysLine : MethodName := ⟨RX2, "laysLine", "(LQuietPairs$Told;I[II)V"⟩
abbrev cX2_quietest : ByteArray := prog_4_method_5_code
def yX2_quietest : MethodName := ⟨RX2, "quietest", "([III)I"⟩
abbrev cX2_isSteady : ByteArray := prog_4_method_6_code
def yX2_isSteady : MethodName := ⟨RX2, "isSteady", "(LQuietPairs$Told;LQuietPairs$Done;)Z"⟩
abbrev cX2_settledAfter : ByteArray := prog_4_method_7_code
def yX2_settledAfter : MethodName := ⟨RX2, "settledAfter", "(LQuietPairs$Told;LQuietPairs$Done;)I"⟩
abbrev cX2_period : ByteArray := prog_4_method_8_code
def yX2_period : MethodName := ⟨RX2, "period", "(LQuietPairs$Told;LQuietPairs$Done;)I"⟩
abbrev cX2_startsSpare : ByteArray := prog_4_method_9_code
def yX2_startsSpare : MethodName := ⟨RX2, "startsSpare", "([I)V"⟩
abbrev cX2_changesSpare : ByteArray := prog_4_method_10_code
def yX2_changesSpare : MethodName := ⟨RX2, "changesSpare", "(LQuietPairs$Told;I)Z"⟩
abbrev cX2_packed : ByteArray := prog_4_method_11_code
def yX2_packed : MethodName := ⟨RX2, "packed", "([I)J"⟩
def RX3 : String := "QuietPairs$Symbols"
def TX3 : u_T := fun k => match k with
  | 0 => ("QuietPairs$Symbols", "got", "[I", true)
  | 1 => ("QuietPairs$Symbols", "made", "[I", true)
  | _ => ("QuietPairs$Symbols", "rows", "[I", true)
def tyX3 : Nat → FieldType := fun k => match k with
  | 0 => .array .int
  | 1 => .array .int
  | _ => .array .int
abbrev wsX30 : List Cond := u_ws RX3 TX3 3
theorem nmX3 : ∀ a, a < 3 → ∀ b, b < 3 → a ≠ b → (TX3 a).2.1 ≠ (TX3 b).2.1 := by decide +kernel
theorem tyX3_ok : ∀ k, k < 3 → parseFieldDescriptor (TX3 k).2.2.1 = some (tyX3 k) := by decide +kernel
abbrev cX3_init : ByteArray := prog_5_method_1_code
def yX3_init : MethodName := ⟨RX3, "<init>", "()V"⟩
abbrev cX3_learns : ByteArray := prog_5_method_2_code
def yX3_learns : MethodName := ⟨RX3, "learns", "(LQuietPairs$Done;)I"⟩
abbrev cX3_hearsBeats : ByteArray := prog_5_method_3_code
def yX3_hearsBeats : MethodName := ⟨RX3, "hearsBeats", "(LQuietPairs$Done;I)V"⟩
abbrev cX3_learnsLine : ByteArray := prog_5_method_4_code
def yX3_learnsLine : MethodName := ⟨RX3, "learnsLine", "(LQuietPairs$Done;I)I"⟩
abbrev cX3_makes : ByteArray := prog_5_method_5_code
def yX3_makes : MethodName := ⟨RX3, "makes", "([II[I)Z"⟩
abbrev cX3_setsRow : ByteArray := prog_5_method_6_code
def yX3_setsRow : MethodName := ⟨RX3, "setsRow", "([II[II)V"⟩
abbrev cX3_bringsPivot : ByteArray := prog_5_method_7_code
def yX3_bringsPivot : MethodName := ⟨RX3, "bringsPivot", "(I)Z"⟩
abbrev cX3_clearsColumn : ByteArray := prog_5_method_8_code
def yX3_clearsColumn : MethodName := ⟨RX3, "clearsColumn", "(I)V"⟩
abbrev cX3_gotBy : ByteArray := prog_5_method_9_code
def yX3_gotBy : MethodName := ⟨RX3, "gotBy", "(LQuietPairs$Done;I)I"⟩
def RX4 : String := "QuietPairs$Text"
def TX4 : u_T := fun k => match k with
  | 0 => ("QuietPairs$Text", "letters", "[I", true)
  | 1 => ("QuietPairs$Text", "length", "I", false)
  | 2 => ("QuietPairs$Text", "at", "I", false)
  | _ => ("QuietPairs$Text", "fault", "I", false)
def tyX4 : Nat → FieldType := fun k => match k with
  | 0 => .array .int
  | 1 => .int
  | 2 => .int
  | _ => .int
abbrev wsX40 : List Cond := u_ws RX4 TX4 4
theorem nmX4 : ∀ a, a < 4 → ∀ b, b < 4 → a ≠ b → (TX4 a).2.1 ≠ (TX4 b).2.1 := by decide +kernel
theorem tyX4_ok : ∀ k, k < 4 → parseFieldDescriptor (TX4 k).2.2.1 = some (tyX4 k) := by decide +kernel
abbrev cX4_init : ByteArray := prog_6_method_1_code
def yX4_init : MethodName := ⟨RX4, "<init>", "()V"⟩
abbrev cX4_takesLetter : ByteArray := prog_6_method_2_code
def yX4_takesLetter : MethodName := ⟨RX4, "takesLetter", "(I)Z"⟩
abbrev cX4_empties : ByteArray := prog_6_method_3_code
def yX4_empties : MethodName := ⟨RX4, "empties", "()I"⟩
abbrev cX4_readsInto : ByteArray := prog_6_method_4_code
def yX4_readsInto : MethodName := ⟨RX4, "readsInto", "(LQuietPairs$Told;)I"⟩
abbrev cX4_skipsBlanks : ByteArray := prog_6_method_5_code
def yX4_skipsBlanks : MethodName := ⟨RX4, "skipsBlanks", "()V"⟩
abbrev cX4_readsItem : ByteArray := prog_6_method_6_code
def yX4_readsItem : MethodName := ⟨RX4, "readsItem", "(LQuietPairs$Told;)V"⟩
abbrev cX4_readsEar : ByteArray := prog_6_method_7_code
def yX4_readsEar : MethodName := ⟨RX4, "readsEar", "(LQuietPairs$Told;)V"⟩
abbrev cX4_readsNoise : ByteArray := prog_6_method_8_code
def yX4_readsNoise : MethodName := ⟨RX4, "readsNoise", "(LQuietPairs$Told;)V"⟩
abbrev cX4_readsLeak : ByteArray := prog_6_method_9_code
def yX4_readsLeak : MethodName := ⟨RX4, "readsLeak", "(LQuietPairs$Told;)V"⟩
abbrev cX4_readsBudget : ByteArray := prog_6_method_10_code
def yX4_readsBudget : MethodName := ⟨RX4, "readsBudget", "(LQuietPairs$Told;)V"⟩
abbrev cX4_readsMask : ByteArray := prog_6_method_11_code
def yX4_readsMask : MethodName := ⟨RX4, "readsMask", "(LQuietPairs$Told;)V"⟩
abbrev cX4_readsNumber : ByteArray := prog_6_method_12_code
def yX4_readsNumber : MethodName := ⟨RX4, "readsNumber", "(III)I"⟩
abbrev cX4_readsFigures : ByteArray := prog_6_method_13_code
def yX4_readsFigures : MethodName := ⟨RX4, "readsFigures", "()I"⟩
abbrev cX4_readsEnd : ByteArray := prog_6_method_14_code
def yX4_readsEnd : MethodName := ⟨RX4, "readsEnd", "()Z"⟩
def RX5 : String := "QuietPairs$Told"
def TX5 : u_T := fun k => match k with
  | 0 => ("QuietPairs$Told", "ears", "[I", true)
  | 1 => ("QuietPairs$Told", "leaks", "[I", true)
  | 2 => ("QuietPairs$Told", "noises", "[I", true)
  | 3 => ("QuietPairs$Told", "budgets", "[I", true)
  | _ => ("QuietPairs$Told", "mask", "I", false)
def tyX5 : Nat → FieldType := fun k => match k with
  | 0 => .array .int
  | 1 => .array .int
  | 2 => .array .int
  | 3 => .array .int
  | _ => .int
abbrev wsX50 : List Cond := u_ws RX5 TX5 5
theorem nmX5 : ∀ a, a < 5 → ∀ b, b < 5 → a ≠ b → (TX5 a).2.1 ≠ (TX5 b).2.1 := by decide +kernel
theorem tyX5_ok : ∀ k, k < 5 → parseFieldDescriptor (TX5 k).2.2.1 = some (tyX5 k) := by decide +kernel
abbrev cX5_init : ByteArray := prog_7_method_1_code
def yX5_init : MethodName := ⟨RX5, "<init>", "()V"⟩
abbrev cX5_becomeFirst : ByteArray := prog_7_method_2_code
def yX5_becomeFirst : MethodName := ⟨RX5, "becomeFirst", "()V"⟩
def RX6 : String := "QuietPairs$Tried"
def TX6 : u_T := fun k => match k with
  | 0 => ("QuietPairs$Tried", "heard", "[I", true)
  | 1 => ("QuietPairs$Tried", "well", "[Z", true)
  | _ => ("QuietPairs$Tried", "size", "I", false)
def tyX6 : Nat → FieldType := fun k => match k with
  | 0 => .array .int
  | 1 => .array .boolean
  | _ => .int
abbrev wsX60 : List Cond := u_ws RX6 TX6 3
theorem nmX6 : ∀ a, a < 3 → ∀ b, b < 3 → a ≠ b → (TX6 a).2.1 ≠ (TX6 b).2.1 := by decide +kernel
theorem tyX6_ok : ∀ k, k < 3 → parseFieldDescriptor (TX6 k).2.2.1 = some (tyX6 k) := by decide +kernel
abbrev cX6_init : ByteArray := prog_8_method_1_code
def yX6_init : MethodName := ⟨RX6, "<init>", "()V"⟩
abbrev cX6_takes : ByteArray := prog_8_method_2_code
def yX6_takes : MethodName := ⟨RX6, "takes", "(III)Z"⟩
abbrev cX6_suspects : ByteArray := prog_8_method_3_code
def yX6_suspects : MethodName := ⟨RX6, "suspects", "(I)I"⟩
abbrev cX6_least : ByteArray := prog_8_method_4_code
def yX6_least : MethodName := ⟨RX6, "least", "(I)I"⟩
abbrev cX6_best : ByteArray := prog_8_method_5_code
def yX6_best : MethodName := ⟨RX6, "best", "(I)I"⟩
def RX7 : String := "QuietPairs"
def TX7 : u_T := fun k => match k with
  | 0 => ("QuietPairs", "text", "LQuietPairs$Text;", true)
  | 1 => ("QuietPairs", "told", "LQuietPairs$Told;", false)
  | 2 => ("QuietPairs", "toldNext", "LQuietPairs$Told;", false)
  | 3 => ("QuietPairs", "now", "LQuietPairs$Done;", true)
  | 4 => ("QuietPairs", "past", "LQuietPairs$Past;", true)
  | 5 => ("QuietPairs", "symbols", "LQuietPairs$Symbols;", true)
  | 6 => ("QuietPairs", "power", "LQuietPairs$Power;", true)
  | 7 => ("QuietPairs", "tried", "LQuietPairs$Tried;", true)
  | 8 => ("QuietPairs", "images", "[LQuietPairs$Done;", true)
  | 9 => ("QuietPairs", "imagesKept", "I", false)
  | _ => ("QuietPairs", "sent", "[I", true)
def tyX7 : Nat → FieldType := fun k => match k with
  | 0 => .object "QuietPairs$Text"
  | 1 => .object "QuietPairs$Told"
  | 2 => .object "QuietPairs$Told"
  | 3 => .object "QuietPairs$Done"
  | 4 => .object "QuietPairs$Past"
  | 5 => .object "QuietPairs$Symbols"
  | 6 => .object "QuietPairs$Power"
  | 7 => .object "QuietPairs$Tried"
  | 8 => .array (.object "QuietPairs$Done")
  | 9 => .int
  | _ => .array .int
abbrev wsX70 : List Cond := u_ws RX7 TX7 11
theorem nmX7 : ∀ a, a < 11 → ∀ b, b < 11 → a ≠ b → (TX7 a).2.1 ≠ (TX7 b).2.1 := by decide +kernel
theorem tyX7_ok : ∀ k, k < 11 → parseFieldDescriptor (TX7 k).2.2.1 = some (tyX7 k) := by decide +kernel
abbrev cX7_init : ByteArray := prog_1_method_1_code
def yX7_init : MethodName := ⟨RX7, "<init>", "()V"⟩
abbrev cX7_type : ByteArray := prog_1_method_2_code
def yX7_type : MethodName := ⟨RX7, "type", "(I)I"⟩
abbrev cX7_clear : ByteArray := prog_1_method_3_code
def yX7_clear : MethodName := ⟨RX7, "clear", "()I"⟩
abbrev cX7_tells : ByteArray := prog_1_method_4_code
def yX7_tells : MethodName := ⟨RX7, "tells", "()I"⟩
abbrev cX7_joins : ByteArray := prog_1_method_5_code
def yX7_joins : MethodName := ⟨RX7, "joins", "(I)I"⟩
abbrev cX7_leaves : ByteArray := prog_1_method_6_code
def yX7_leaves : MethodName := ⟨RX7, "leaves", "(I)I"⟩
abbrev cX7_drifts : ByteArray := prog_1_method_7_code
def yX7_drifts : MethodName := ⟨RX7, "drifts", "(III)I"⟩
abbrev cX7_strikes : ByteArray := prog_1_method_8_code
def yX7_strikes : MethodName := ⟨RX7, "strikes", "(III)I"⟩
abbrev cX7_trains : ByteArray := prog_1_method_9_code
def yX7_trains : MethodName := ⟨RX7, "trains", "()I"⟩
abbrev cX7_fills : ByteArray := prog_1_method_10_code
def yX7_fills : MethodName := ⟨RX7, "fills", "(I)I"⟩
abbrev cX7_undo : ByteArray := prog_1_method_11_code
def yX7_undo : MethodName := ⟨RX7, "undo", "()I"⟩
abbrev cX7_pair : ByteArray := prog_1_method_12_code
def yX7_pair : MethodName := ⟨RX7, "pair", "(III)I"⟩
abbrev cX7_line : ByteArray := prog_1_method_13_code
def yX7_line : MethodName := ⟨RX7, "line", "(II)I"⟩
abbrev cX7_tone : ByteArray := prog_1_method_14_code
def yX7_tone : MethodName := ⟨RX7, "tone", "(III)I"⟩
abbrev cX7_send : ByteArray := prog_1_method_15_code
def yX7_send : MethodName := ⟨RX7, "send", "(IIIIII)I"⟩
abbrev cX7_maker : ByteArray := prog_1_method_16_code
def yX7_maker : MethodName := ⟨RX7, "maker", "(II)I"⟩
abbrev cX7_clean : ByteArray := prog_1_method_17_code
def yX7_clean : MethodName := ⟨RX7, "clean", "()I"⟩
abbrev cX7_hurt : ByteArray := prog_1_method_18_code
def yX7_hurt : MethodName := ⟨RX7, "hurt", "(I)I"⟩
abbrev cX7_settled : ByteArray := prog_1_method_19_code
def yX7_settled : MethodName := ⟨RX7, "settled", "(I)I"⟩
abbrev cX7_tries : ByteArray := prog_1_method_20_code
def yX7_tries : MethodName := ⟨RX7, "tries", "(III)I"⟩
abbrev cX7_forget : ByteArray := prog_1_method_21_code
def yX7_forget : MethodName := ⟨RX7, "forget", "()I"⟩
abbrev cX7_which : ByteArray := prog_1_method_22_code
def yX7_which : MethodName := ⟨RX7, "which", "(I)I"⟩
abbrev cX7_ask : ByteArray := prog_1_method_23_code
def yX7_ask : MethodName := ⟨RX7, "ask", "()I"⟩
abbrev cX7_keep : ByteArray := prog_1_method_24_code
def yX7_keep : MethodName := ⟨RX7, "keep", "(I)I"⟩
abbrev cX7_back : ByteArray := prog_1_method_25_code
def yX7_back : MethodName := ⟨RX7, "back", "(I)I"⟩
abbrev cX7_count : ByteArray := prog_1_method_26_code
def yX7_count : MethodName := ⟨RX7, "count", "(I)I"⟩
abbrev cX7_isLine : ByteArray := prog_1_method_27_code
def yX7_isLine : MethodName := ⟨RX7, "isLine", "(I)Z"⟩
abbrev cX7_isSymbol : ByteArray := prog_1_method_28_code
def yX7_isSymbol : MethodName := ⟨RX7, "isSymbol", "(I)Z"⟩
abbrev cX7_isLineOn : ByteArray := prog_1_method_29_code
def yX7_isLineOn : MethodName := ⟨RX7, "isLineOn", "(I)Z"⟩
abbrev cX7_powerOf : ByteArray := prog_1_method_30_code
def yX7_powerOf : MethodName := ⟨RX7, "powerOf", "(I)I"⟩
abbrev cX7_powerOfAll : ByteArray := prog_1_method_31_code
def yX7_powerOfAll : MethodName := ⟨RX7, "powerOfAll", "()I"⟩
abbrev cX7_levelsOf : ByteArray := prog_1_method_32_code
def yX7_levelsOf : MethodName := ⟨RX7, "levelsOf", "(I)I"⟩
abbrev cX7_learntOtherwise : ByteArray := prog_1_method_33_code
def yX7_learntOtherwise : MethodName := ⟨RX7, "learntOtherwise", "()I"⟩
abbrev cX7_cleanAmong : ByteArray := prog_1_method_34_code
def yX7_cleanAmong : MethodName := ⟨RX7, "cleanAmong", "(I)I"⟩
def RX8 : String := "QuietPairsModel"
def TX8 : u_T := fun k => match k with
  | 0 => ("QuietPairsModel", "told", "[I", true)
  | 1 => ("QuietPairsModel", "draft", "[I", true)
  | 2 => ("QuietPairsModel", "now", "[I", true)
  | 3 => ("QuietPairsModel", "past", "[I", true)
  | 4 => ("QuietPairsModel", "pasts", "I", false)
  | 5 => ("QuietPairsModel", "images", "[I", true)
  | 6 => ("QuietPairsModel", "isKept", "[Z", true)
  | 7 => ("QuietPairsModel", "aside", "[I", true)
  | 8 => ("QuietPairsModel", "other", "[I", true)
  | 9 => ("QuietPairsModel", "grid", "[I", true)
  | 10 => ("QuietPairsModel", "tried", "I", false)
  | 11 => ("QuietPairsModel", "triedBy", "[I", true)
  | 12 => ("QuietPairsModel", "triedSet", "[I", true)
  | 13 => ("QuietPairsModel", "triedWell", "[I", true)
  | 14 => ("QuietPairsModel", "text", "[I", true)
  | 15 => ("QuietPairsModel", "typed", "I", false)
  | 16 => ("QuietPairsModel", "at", "I", false)
  | 17 => ("QuietPairsModel", "tokenAt", "I", false)
  | 18 => ("QuietPairsModel", "token", "I", false)
  | 19 => ("QuietPairsModel", "value", "I", false)
  | _ => ("QuietPairsModel", "fault", "I", false)
def tyX8 : Nat → FieldType := fun k => match k with
  | 0 => .array .int
  | 1 => .array .int
  | 2 => .array .int
  | 3 => .array .int
  | 4 => .int
  | 5 => .array .int
  | 6 => .array .boolean
  | 7 => .array .int
  | 8 => .array .int
  | 9 => .array .int
  | 10 => .int
  | 11 => .array .int
  | 12 => .array .int
  | 13 => .array .int
  | 14 => .array .int
  | 15 => .int
  | 16 => .int
  | 17 => .int
  | 18 => .int
  | 19 => .int
  | _ => .int
abbrev wsX80 : List Cond := u_ws RX8 TX8 21
theorem nmX8 : ∀ a, a < 21 → ∀ b, b < 21 → a ≠ b → (TX8 a).2.1 ≠ (TX8 b).2.1 := by decide +kernel
theorem tyX8_ok : ∀ k, k < 21 → parseFieldDescriptor (TX8 k).2.2.1 = some (tyX8 k) := by decide +kernel
abbrev cX8_init : ByteArray := prog_10_method_1_code
def yX8_init : MethodName := ⟨RX8, "<init>", "()V"⟩
abbrev cX8_in : ByteArray := prog_10_method_2_code
def yX8_in : MethodName := ⟨RX8, "in", "(III)Z"⟩
abbrev cX8_has : ByteArray := prog_10_method_3_code
def yX8_has : MethodName := ⟨RX8, "has", "(II)Z"⟩
abbrev cX8_isLine : ByteArray := prog_10_method_4_code
def yX8_isLine : MethodName := ⟨RX8, "isLine", "(I)Z"⟩
abbrev cX8_isOn : ByteArray := prog_10_method_5_code
def yX8_isOn : MethodName := ⟨RX8, "isOn", "(I)Z"⟩
abbrev cX8_bits : ByteArray := prog_10_method_6_code
def yX8_bits : MethodName := ⟨RX8, "bits", "(I)I"⟩
abbrev cX8_begin : ByteArray := prog_10_method_7_code
def yX8_begin : MethodName := ⟨RX8, "begin", "([I)V"⟩
abbrev cX8_start : ByteArray := prog_10_method_8_code
def yX8_start : MethodName := ⟨RX8, "start", "()V"⟩
abbrev cX8_symbol : ByteArray := prog_10_method_9_code
def yX8_symbol : MethodName := ⟨RX8, "symbol", "(I)I"⟩
abbrev cX8_by : ByteArray := prog_10_method_10_code
def yX8_by : MethodName := ⟨RX8, "by", "(II)I"⟩
abbrev cX8_mark : ByteArray := prog_10_method_11_code
def yX8_mark : MethodName := ⟨RX8, "mark", "(II)I"⟩
abbrev cX8_note : ByteArray := prog_10_method_12_code
def yX8_note : MethodName := ⟨RX8, "note", "()V"⟩
abbrev cX8_joins : ByteArray := prog_10_method_13_code
def yX8_joins : MethodName := ⟨RX8, "joins", "(I)I"⟩
abbrev cX8_leaves : ByteArray := prog_10_method_14_code
def yX8_leaves : MethodName := ⟨RX8, "leaves", "(I)I"⟩
abbrev cX8_drifts : ByteArray := prog_10_method_15_code
def yX8_drifts : MethodName := ⟨RX8, "drifts", "(III)I"⟩
abbrev cX8_strikes : ByteArray := prog_10_method_16_code
def yX8_strikes : MethodName := ⟨RX8, "strikes", "(III)I"⟩
abbrev cX8_heard : ByteArray := prog_10_method_17_code
def yX8_heard : MethodName := ⟨RX8, "heard", "(II)I"⟩
abbrev cX8_trains : ByteArray := prog_10_method_18_code
def yX8_trains : MethodName := ⟨RX8, "trains", "()I"⟩
abbrev cX8_clearPower : ByteArray := prog_10_method_19_code
def yX8_clearPower : MethodName := ⟨RX8, "clearPower", "(I)V"⟩
abbrev cX8_level : ByteArray := prog_10_method_20_code
def yX8_level : MethodName := ⟨RX8, "level", "(II)I"⟩
abbrev cX8_fillLine : ByteArray := prog_10_method_21_code
def yX8_fillLine : MethodName := ⟨RX8, "fillLine", "(I)V"⟩
abbrev cX8_round : ByteArray := prog_10_method_22_code
def yX8_round : MethodName := ⟨RX8, "round", "()V"⟩
abbrev cX8_copyPower : ByteArray := prog_10_method_23_code
def yX8_copyPower : MethodName := ⟨RX8, "copyPower", "([I)V"⟩
abbrev cX8_layPower : ByteArray := prog_10_method_24_code
def yX8_layPower : MethodName := ⟨RX8, "layPower", "([I)V"⟩
abbrev cX8_isPower : ByteArray := prog_10_method_25_code
def yX8_isPower : MethodName := ⟨RX8, "isPower", "([I)Z"⟩
abbrev cX8_isSteady : ByteArray := prog_10_method_26_code
def yX8_isSteady : MethodName := ⟨RX8, "isSteady", "()Z"⟩
abbrev cX8_fills : ByteArray := prog_10_method_27_code
def yX8_fills : MethodName := ⟨RX8, "fills", "(I)I"⟩
abbrev cX8_settledAfter : ByteArray := prog_10_method_28_code
def yX8_settledAfter : MethodName := ⟨RX8, "settledAfter", "()I"⟩
abbrev cX8_circle : ByteArray := prog_10_method_29_code
def yX8_circle : MethodName := ⟨RX8, "circle", "()I"⟩
abbrev cX8_settled : ByteArray := prog_10_method_30_code
def yX8_settled : MethodName := ⟨RX8, "settled", "(I)I"⟩
abbrev cX8_undo : ByteArray := prog_10_method_31_code
def yX8_undo : MethodName := ⟨RX8, "undo", "()I"⟩
abbrev cX8_pair : ByteArray := prog_10_method_32_code
def yX8_pair : MethodName := ⟨RX8, "pair", "(III)I"⟩
abbrev cX8_powerOf : ByteArray := prog_10_method_33_code
def yX8_powerOf : MethodName := ⟨RX8, "powerOf", "(I)I"⟩
abbrev cX8_line : ByteArray := prog_10_method_34_code
def yX8_line : MethodName := ⟨RX8, "line", "(II)I"⟩
abbrev cX8_tone : ByteArray := prog_10_method_35_code
def yX8_tone : MethodName := ⟨RX8, "tone", "(III)I"⟩
abbrev cX8_layGrid : ByteArray := prog_10_method_36_code
def yX8_layGrid : MethodName := ⟨RX8, "layGrid", "(I)V"⟩
abbrev cX8_isCleared : ByteArray := prog_10_method_37_code
def yX8_isCleared : MethodName := ⟨RX8, "isCleared", "(I)Z"⟩
abbrev cX8_canMake : ByteArray := prog_10_method_38_code
def yX8_canMake : MethodName := ⟨RX8, "canMake", "(I)Z"⟩
abbrev cX8_made : ByteArray := prog_10_method_39_code
def yX8_made : MethodName := ⟨RX8, "made", "(IIIII)I"⟩
abbrev cX8_got : ByteArray := prog_10_method_40_code
def yX8_got : MethodName := ⟨RX8, "got", "(IIIIII)I"⟩
abbrev cX8_isSent : ByteArray := prog_10_method_41_code
def yX8_isSent : MethodName := ⟨RX8, "isSent", "(II)Z"⟩
abbrev cX8_send : ByteArray := prog_10_method_42_code
def yX8_send : MethodName := ⟨RX8, "send", "(IIIIII)I"⟩
abbrev cX8_maker : ByteArray := prog_10_method_43_code
def yX8_maker : MethodName := ⟨RX8, "maker", "(II)I"⟩
abbrev cX8_cleanBy : ByteArray := prog_10_method_44_code
def yX8_cleanBy : MethodName := ⟨RX8, "cleanBy", "(I)I"⟩
abbrev cX8_clean : ByteArray := prog_10_method_45_code
def yX8_clean : MethodName := ⟨RX8, "clean", "()I"⟩
abbrev cX8_hurt : ByteArray := prog_10_method_46_code
def yX8_hurt : MethodName := ⟨RX8, "hurt", "(I)I"⟩
abbrev cX8_tries : ByteArray := prog_10_method_47_code
def yX8_tries : MethodName := ⟨RX8, "tries", "(III)I"⟩
abbrev cX8_forget : ByteArray := prog_10_method_48_code
def yX8_forget : MethodName := ⟨RX8, "forget", "()I"⟩
abbrev cX8_may : ByteArray := prog_10_method_49_code
def yX8_may : MethodName := ⟨RX8, "may", "(II)Z"⟩
abbrev cX8_which : ByteArray := prog_10_method_50_code
def yX8_which : MethodName := ⟨RX8, "which", "(I)I"⟩
abbrev cX8_ask : ByteArray := prog_10_method_51_code
def yX8_ask : MethodName := ⟨RX8, "ask", "()I"⟩
abbrev cX8_keep : ByteArray := prog_10_method_52_code
def yX8_keep : MethodName := ⟨RX8, "keep", "(I)I"⟩
abbrev cX8_back : ByteArray := prog_10_method_53_code
def yX8_back : MethodName := ⟨RX8, "back", "(I)I"⟩
abbrev cX8_unlike : ByteArray := prog_10_method_54_code
def yX8_unlike : MethodName := ⟨RX8, "unlike", "()I"⟩
abbrev cX8_count : ByteArray := prog_10_method_55_code
def yX8_count : MethodName := ⟨RX8, "count", "(I)I"⟩
abbrev cX8_type : ByteArray := prog_10_method_56_code
def yX8_type : MethodName := ⟨RX8, "type", "(I)I"⟩
abbrev cX8_clear : ByteArray := prog_10_method_57_code
def yX8_clear : MethodName := ⟨RX8, "clear", "()I"⟩
abbrev cX8_isItem : ByteArray := prog_10_method_58_code
def yX8_isItem : MethodName := ⟨RX8, "isItem", "(I)Z"⟩
abbrev cX8_next : ByteArray := prog_10_method_59_code
def yX8_next : MethodName := ⟨RX8, "next", "()V"⟩
abbrev cX8_must : ByteArray := prog_10_method_60_code
def yX8_must : MethodName := ⟨RX8, "must", "(Z)I"⟩
abbrev cX8_number : ByteArray := prog_10_method_61_code
def yX8_number : MethodName := ⟨RX8, "number", "(II)I"⟩
abbrev cX8_lay : ByteArray := prog_10_method_62_code
def yX8_lay : MethodName := ⟨RX8, "lay", "(II)V"⟩
abbrev cX8_readItem : ByteArray := prog_10_method_63_code
def yX8_readItem : MethodName := ⟨RX8, "readItem", "()V"⟩
abbrev cX8_tells : ByteArray := prog_10_method_64_code
def yX8_tells : MethodName := ⟨RX8, "tells", "()I"⟩
def RJ6 : String := "java/lang/Integer"
abbrev cJ6_bitCount_0f7a4 : ByteArray := prog_11_method_49_code
def yJ6_bitCount_0f7a4 : MethodName := ⟨RJ6, "bitCount", "(I)I"⟩
def RJ9 : String := "java/lang/Math"
abbrev cJ9_max_7cf53 : ByteArray := prog_12_method_65_code
def yJ9_max_7cf53 : MethodName := ⟨RJ9, "max", "(II)I"⟩
abbrev cJ9_min_7cf53 : ByteArray := prog_12_method_69_code
def yJ9_min_7cf53 : MethodName := ⟨RJ9, "min", "(II)I"⟩
def RL : String := "QuietPairsLaw"
abbrev cL_law : ByteArray := code
def yL_law : MethodName := ⟨RL, "law", "([I)Z"⟩
abbrev vwCl : List vw_C := [(RX0, TX0, 5), (RX1, TX1, 3), (RX2, TX2, 3), (RX3, TX3, 3), (RX4, TX4, 4), (RX5, TX5, 5), (RX6, TX6, 3), (RX7, TX7, 11), (RX8, TX8, 21)]
end
section
/-! ===== a pure machine: cells are numbered, cell k lies at address base + k ===== -/
abbrev q_K : Type := List (Nat × Nat)
abbrev q_M : Type := q_K × (Nat → Nat → Int32) × (Nat → Nat → Option Nat) × (Nat → Int64)
abbrev q_S : Type := Nat × Nat × List Value × List Value × q_M
abbrev q_E : Type := Instr × Nat × Nat × List Nat
abbrev q_D : Type := (Option Value × q_M) ⊕ (q_S ⊕ (q_S × Nat × Nat × List Value × List Value))
/-- an int of a cell is set -/
def q_up (F : Nat → Nat → Int32) (a i : Nat) (x : Int32) : Nat → Nat → Int32 := va_up F a (upd (F a) i x)
def q_upP (P : Nat → Nat → Option Nat) (a i : Nat) (x : Option Nat) : Nat → Nat → Option Nat := va_up P a (va_up (P a) i x)
/-- a local of one slot is set -/
def q_st1 (L : List Value) (i : Nat) (v : Value) : List Value := L.set i v
def q_st2 (L : List Value) (i : Nat) (v : Value) : List Value := (L.set i v).set (i + 1) .null
def q_go (M pc : Nat) (L S : List Value) (w : q_M) : Option q_D := some (.inr (.inl (M, pc, L, S, w)))
def q_i2 (M pc : Nat) (L S : List Value) (w : q_M) (f : Int32 → Int32 → Int32) : Option q_D := match S with
  | .int y :: .int x :: S => q_go M pc L (.int (f x y) :: S) w
  | _ => none
def q_c1 (M pc tg : Nat) (L S : List Value) (w : q_M) (f : Int32 → Bool) : Option q_D := match S with
  | .int x :: S => if f x = true then q_go M tg L S w else q_go M pc L S w
  | _ => none
def q_c2 (M pc tg : Nat) (L S : List Value) (w : q_M) (f : Int32 → Int32 → Bool) : Option q_D := match S with
  | .int y :: .int x :: S => if f x y = true then q_go M tg L S w else q_go M pc L S w
  | _ => none
def q_ldi (M pc : Nat) (L S : List Value) (w : q_M) (k : Nat) : Option q_D := match L[k]? with
  | some (.int x) => q_go M pc L (.int x :: S) w
  | _ => none
def q_lda (M pc : Nat) (L S : List Value) (w : q_M) (k : Nat) : Option q_D := match L[k]? with
  | some (.ref x) => q_go M pc L (.ref x :: S) w
  | some (.float x) => q_go M pc L (.float x :: S) w
  | _ => none
def q_ldl (M pc : Nat) (L S : List Value) (w : q_M) (k : Nat) : Option q_D := match L[k]? with
  | some (.long x) => q_go M pc L (.long x :: S) w
  | _ => none
def q_sti (M pc : Nat) (L S : List Value) (w : q_M) (k : Nat) : Option q_D := match S with
  | .int x :: S => if k < L.length ∧ ¬ (M = 19 ∧ k = 2) then q_go M pc (q_st1 L k (.int x)) S w else none
  | _ => none
def q_sta (M pc : Nat) (L S : List Value) (w : q_M) (k : Nat) : Option q_D := match S with
  | .ref x :: S => if k < L.length ∧ ¬ (M = 19 ∧ k = 2) then q_go M pc (q_st1 L k (.ref x)) S w else none
  | _ => none
def q_stl (M pc : Nat) (L S : List Value) (w : q_M) (k : Nat) : Option q_D := match S with
  | .long x :: S => if k + 1 < L.length ∧ M = 19 ∧ k = 1 then q_go M pc (q_st2 L k (.long x)) S w else none
  | _ => none
def q_x0 (j : Nat) : Int32 := ([1, 1, 1, 1, 1, 30, 1, 30, 1, 1, 30, 30, 1, 30, 30, 1] : List Int32).getD j 0
def q_x1 (j : Nat) : Int32 := ([0, 1, 16, 21, 8, 25, 26, 9, 4, 7, 28, 17, 13, 12, 20, 29, 2, 11, 19, 18, 14, 3, 24, 27, 22, 5, 6, 23, 10, 15, 30] : List Int32).getD j 0
/-- the arrays that stand outside: two tables, and the script -/
def q_xt (X : Nat × (Nat → Int32)) (u : UInt32) : Nat × (Nat → Int32) := if u = 0 then (16, q_x0) else if u = 1 then (31, q_x1) else X
/-- the kinds of fields: 0 an int, 1 a reference, 2 a long -/
def q_ft (c : Nat) : List Nat := match c with
  | 0 => [0, 1, 1, 1, 1]
  | 1 => [1, 0, 0]
  | 2 => [1, 1, 2]
  | 3 => [1, 1, 1]
  | 4 => [1, 0, 0, 0]
  | 5 => [1, 1, 1, 1, 0]
  | 6 => [1, 1, 0]
  | 7 => [1, 1, 1, 1, 1, 1, 1, 1, 1, 0, 1]
  | 8 => [1, 1, 1, 1, 0, 1, 1, 1, 1, 1, 0, 1, 1, 1, 1, 0, 0, 0, 0, 0, 0]
  | _ => []
def q_sz (k : Nat × Nat) : Nat := if k.1 < 9 then (q_ft k.1).length else k.2
def q_sl (K : q_K) : Nat := (K.map q_sz).sum
/-- getfield: g is 32 times the class and the field's place -/
def q_gf (M pc : Nat) (L S : List Value) (w : q_M) (ci k : Nat) : Option q_D := match S with
  | .ref a :: S => if (w.1[a]?).map Prod.fst = some ci then
      match (q_ft ci)[k]? with
      | some 0 => q_go M pc L (.int (w.2.1 a k) :: S) w
      | some 1 => (match w.2.2.1 a k with
        | some r => q_go M pc L (.ref r :: S) w
        | none => none)
      | some 2 => q_go M pc L (.long (w.2.2.2 a) :: S) w
      | _ => none
    else none
  | _ => none
def q_pf (M pc : Nat) (L S : List Value) (w : q_M) (ci k : Nat) : Option q_D := match S with
  | .int x :: .ref a :: S => if (w.1[a]?).map Prod.fst = some ci ∧ (q_ft ci)[k]? = some 0 then q_go M pc L S (w.1, q_up w.2.1 a k x, w.2.2.1, w.2.2.2) else none
  | .ref x :: .ref a :: S => if (w.1[a]?).map Prod.fst = some ci ∧ (q_ft ci)[k]? = some 1 then q_go M pc L S (w.1, w.2.1, q_upP w.2.2.1 a k (some x), w.2.2.2) else none
  | .long x :: .ref a :: S => if (w.1[a]?).map Prod.fst = some ci ∧ (q_ft ci)[k]? = some 2 then q_go M pc L S (w.1, w.2.1, w.2.2.1, va_up w.2.2.2 a x) else none
  | _ => none
def q_inb (x : Int32) (n : Nat) : Bool := decide (¬ x < 0) && decide (x.toNatClampNeg < n)
/-- an int array (kind 9), a boolean array (kind 10): reading -/
def q_ald (X : Nat × (Nat → Int32)) (M pc : Nat) (L S : List Value) (w : q_M) (kd : Nat) : Option q_D := match S with
  | .int x :: .ref a :: S => (match w.1[a]? with
    | some (k, n) => if k = kd ∧ q_inb x n = true then q_go M pc L (.int (w.2.1 a x.toNatClampNeg) :: S) w else none
    | none => none)
  | .int x :: .float u :: S => if kd = 9 ∧ q_inb x (q_xt X u).1 = true then q_go M pc L (.int ((q_xt X u).2 x.toNatClampNeg) :: S) w else none
  | _ => none
def q_ast (M pc : Nat) (L S : List Value) (w : q_M) (kd : Nat) : Option q_D := match S with
  | .int v :: .int x :: .ref a :: S => (match w.1[a]? with
    | some (k, n) => if k = kd ∧ q_inb x n = true ∧ (kd = 9 ∨ v = 0 ∨ v = 1) then q_go M pc L S (w.1, q_up w.2.1 a x.toNatClampNeg v, w.2.2.1, w.2.2.2) else none
    | none => none)
  | _ => none
def q_ald2 (M pc : Nat) (L S : List Value) (w : q_M) : Option q_D := match S with
  | .int x :: .ref a :: S => (match w.1[a]? with
    | some (k, n) => if k = 11 ∧ q_inb x n = true then
        (match w.2.2.1 a x.toNatClampNeg with
        | some r => q_go M pc L (.ref r :: S) w
        | none => none)
      else none
    | none => none)
  | _ => none
def q_ast2 (M pc : Nat) (L S : List Value) (w : q_M) : Option q_D := match S with
  | .ref v :: .int x :: .ref a :: S => (match w.1[a]? with
    | some (k, n) => if k = 11 ∧ q_inb x n = true ∧ (w.1[v]?).map Prod.fst = some 0 then q_go M pc L S (w.1, w.2.1, q_upP w.2.2.1 a x.toNatClampNeg (some v), w.2.2.2) else none
    | none => none)
  | _ => none
/-- a new cell: all of it as by default -/
def q_nw (w : q_M) (k n : Nat) : q_M := (w.1 ++ [(k, n)], va_up w.2.1 w.1.length (fun _ => 0), va_up w.2.2.1 w.1.length (fun _ => none), va_up w.2.2.2 w.1.length 0)
def q_new (M pc : Nat) (L S : List Value) (w : q_M) (ci : Nat) : Option q_D := if ci < 9 then q_go M pc L (.ref w.1.length :: S) (q_nw w ci 0) else none
def q_newa (M pc : Nat) (L S : List Value) (w : q_M) (kd : Nat) : Option q_D := match S with
  | .int x :: S => if ¬ x < 0 ∧ x.toNatClampNeg ≤ 100000 then q_go M pc L (.ref w.1.length :: S) (q_nw w kd x.toNatClampNeg) else none
  | _ => none
def q_alen (X : Nat × (Nat → Int32)) (M pc : Nat) (L S : List Value) (w : q_M) : Option q_D := match S with
  | .float u :: S => q_go M pc L (.int (Int32.ofNat (q_xt X u).1) :: S) w
  | _ => none
/-- the first n of a stack are a call's arguments -/
def q_call (M pc : Nat) (L S : List Value) (w : q_M) (y n ml : Nat) : Option q_D :=
  if n ≤ S.length ∧ (S.drop n).length ≤ 4 ∧ n ≤ ml ∧ (S.take n).all (fun v => v.category == 1) = true then some (.inr (.inr ((y, 0, (S.take n).reverse ++ List.replicate (ml - n) .null, [], w), M, pc, L, S.drop n))) else none
/-- an instance call: the receiver's class is the method's -/
def q_callV (M pc : Nat) (L S : List Value) (w : q_M) (y n ml ci : Nat) : Option q_D := match S[n - 1]? with
  | some (.ref a) => if (w.1[a]?).map Prod.fst = some ci ∧ 0 < n then q_call M pc L S w y n ml else none
  | _ => none
def q_ret1 (S : List Value) (w : q_M) (rt : Nat) : Option q_D := match S with
  | [.int x] => if rt = 1 ∨ (rt = 2 ∧ (x = 0 ∨ x = 1)) then some (.inl (some (.int x), w)) else none
  | _ => none
def q_sw (M : Nat) (L S : List Value) (w : q_M) (lo hi : Int) (ts : List Nat) (d : Nat) : Option q_D := match S with
  | .int x :: S => if x.toInt < lo ∨ hi < x.toInt then q_go M d L S w else
      (match ts[(x.toInt - lo).toNat]? with
      | some t => q_go M t L S w
      | none => none)
  | _ => none
def q_lsw (ps : List (Int × Int)) (ts : List Nat) (d : Nat) (x : Int32) : Nat := match ps, ts with
  | (k, _) :: ps, t :: ts => if x.toInt = k then t else q_lsw ps ts d x
  | _, _ => d
/-- Math.max, Math.min -/
def q_mm (M pc : Nat) (L S : List Value) (w : q_M) (f : Int32 → Int32 → Int32) : Option q_D := match S with
  | .int y :: .int x :: S => if S.length ≤ 4 then q_go M pc L (.int (f x y) :: S) w else none
  | _ => none
end
section
/-! ===== the methods, by number: their code, resolved; their facts ===== -/
def q_k0 : List (Nat × q_E) := [(0, (.aload_n 0), 1, 0, []), (1, (.invokespecial 3), 3, 999, []), (4, (.aload_n 0), 1, 0, []), (5, (.bipush 16), 2, 0, []), (7, (.newarray .int), 2, 9, []), (9, (.putfield 9), 3, 1, []), (12, (.aload_n 0), 1, 0, []), (13, (.bipush 16), 2, 0, []), (15, (.newarray .int), 2, 9, []), (17, (.putfield 15), 3, 2, []), (20, (.aload_n 0), 1, 0, []), (21, (.bipush 16), 2, 0, []), (23, (.newarray .int), 2, 9, []), (25, (.putfield 18), 3, 3, []), (28, (.aload_n 0), 1, 0, []), (29, (.bipush 12), 2, 0, []), (31, (.newarray .int), 2, 9, []), (33, (.putfield 21), 3, 4, []), (36, .return_, 1, 0, [])]
def q_k1 : List (Nat × q_E) := [(0, (.aload_n 0), 1, 0, []), (1, (.iconst 0), 1, 0, []), (2, (.putfield 24), 3, 0, []), (5, (.iconst 0), 1, 0, []), (6, (.istore_n 2), 1, 0, []), (7, (.iload_n 2), 1, 0, []), (8, (.bipush 16), 2, 0, []), (10, (.if_icmp .ge 38), 3, 48, []), (13, (.aload_n 0), 1, 0, []), (14, (.getfield 9), 3, 1, []), (17, (.iload_n 2), 1, 0, []), (18, (.aload_n 1), 1, 0, []), (19, (.iload_n 2), 1, 0, []), (20, .iaload, 1, 0, []), (21, .iastore, 1, 0, []), (22, (.aload_n 0), 1, 0, []), (23, (.getfield 15), 3, 2, []), (26, (.iload_n 2), 1, 0, []), (27, (.iload_n 2), 1, 0, []), (28, (.iconst 4), 1, 0, []), (29, .idiv, 1, 0, []), (30, (.iload_n 2), 1, 0, []), (31, (.iconst 4), 1, 0, []), (32, .irem, 1, 0, []), (33, (.if_icmp .ne 7), 3, 40, []), (36, (.iconst 1), 1, 0, []), (37, (.goto 4), 3, 41, []), (40, (.iconst 0), 1, 0, []), (41, .iastore, 1, 0, []), (42, (.iinc 2 1), 3, 0, []), (45, (.goto (-38)), 3, 7, []), (48, (.aload_n 0), 1, 0, []), (49, (.invokevirtual 28), 3, 3, []), (52, (.iconst 0), 1, 0, []), (53, (.istore_n 2), 1, 0, []), (54, (.iload_n 2), 1, 0, []), (55, (.bipush 12), 2, 0, []), (57, (.if_icmp .ge 16), 3, 73, []), (60, (.aload_n 0), 1, 0, []), (61, (.getfield 21), 3, 4, []), (64, (.iload_n 2), 1, 0, []), (65, (.iconst 0), 1, 0, []), (66, .iastore, 1, 0, []), (67, (.iinc 2 1), 3, 0, []), (70, (.goto (-16)), 3, 54, []), (73, .return_, 1, 0, [])]
def q_k2 : List (Nat × q_E) := [(0, (.aload_n 0), 1, 0, []), (1, (.aload_n 1), 1, 0, []), (2, (.getfield 24), 3, 0, []), (5, (.putfield 24), 3, 0, []), (8, (.iconst 0), 1, 0, []), (9, (.istore_n 2), 1, 0, []), (10, (.iload_n 2), 1, 0, []), (11, (.bipush 16), 2, 0, []), (13, (.if_icmp .ge 33), 3, 46, []), (16, (.aload_n 0), 1, 0, []), (17, (.getfield 9), 3, 1, []), (20, (.iload_n 2), 1, 0, []), (21, (.aload_n 1), 1, 0, []), (22, (.getfield 9), 3, 1, []), (25, (.iload_n 2), 1, 0, []), (26, .iaload, 1, 0, []), (27, .iastore, 1, 0, []), (28, (.aload_n 0), 1, 0, []), (29, (.getfield 15), 3, 2, []), (32, (.iload_n 2), 1, 0, []), (33, (.aload_n 1), 1, 0, []), (34, (.getfield 15), 3, 2, []), (37, (.iload_n 2), 1, 0, []), (38, .iaload, 1, 0, []), (39, .iastore, 1, 0, []), (40, (.iinc 2 1), 3, 0, []), (43, (.goto (-33)), 3, 10, []), (46, (.iconst 0), 1, 0, []), (47, (.istore_n 2), 1, 0, []), (48, (.iload_n 2), 1, 0, []), (49, (.bipush 16), 2, 0, []), (51, (.if_icmp .ge 21), 3, 72, []), (54, (.aload_n 0), 1, 0, []), (55, (.getfield 18), 3, 3, []), (58, (.iload_n 2), 1, 0, []), (59, (.aload_n 1), 1, 0, []), (60, (.getfield 18), 3, 3, []), (63, (.iload_n 2), 1, 0, []), (64, .iaload, 1, 0, []), (65, .iastore, 1, 0, []), (66, (.iinc 2 1), 3, 0, []), (69, (.goto (-21)), 3, 48, []), (72, (.iconst 0), 1, 0, []), (73, (.istore_n 2), 1, 0, []), (74, (.iload_n 2), 1, 0, []), (75, (.bipush 12), 2, 0, []), (77, (.if_icmp .ge 21), 3, 98, []), (80, (.aload_n 0), 1, 0, []), (81, (.getfield 21), 3, 4, []), (84, (.iload_n 2), 1, 0, []), (85, (.aload_n 1), 1, 0, []), (86, (.getfield 21), 3, 4, []), (89, (.iload_n 2), 1, 0, []), (90, .iaload, 1, 0, []), (91, .iastore, 1, 0, []), (92, (.iinc 2 1), 3, 0, []), (95, (.goto (-21)), 3, 74, []), (98, .return_, 1, 0, [])]
def q_k3 : List (Nat × q_E) := [(0, (.iconst 0), 1, 0, []), (1, (.istore_n 1), 1, 0, []), (2, (.iload_n 1), 1, 0, []), (3, (.bipush 16), 2, 0, []), (5, (.if_icmp .ge 16), 3, 21, []), (8, (.aload_n 0), 1, 0, []), (9, (.getfield 18), 3, 3, []), (12, (.iload_n 1), 1, 0, []), (13, (.iconst 0), 1, 0, []), (14, .iastore, 1, 0, []), (15, (.iinc 1 1), 3, 0, []), (18, (.goto (-16)), 3, 2, []), (21, .return_, 1, 0, [])]
def q_k4 : List (Nat × q_E) := [(0, (.aload_n 0), 1, 0, []), (1, (.getfield 24), 3, 0, []), (4, (.iload_n 1), 1, 0, []), (5, .ishr, 1, 0, []), (6, (.iconst 1), 1, 0, []), (7, .iand, 1, 0, []), (8, (.iconst 1), 1, 0, []), (9, (.if_icmp .ne 7), 3, 16, []), (12, (.iconst 1), 1, 0, []), (13, (.goto 4), 3, 17, []), (16, (.iconst 0), 1, 0, []), (17, .ireturn, 1, 0, [])]
def q_k5 : List (Nat × q_E) := [(0, (.iconst 0), 1, 0, []), (1, (.istore_n 3), 1, 0, []), (2, (.iconst 0), 1, 0, []), (3, (.istore 4), 2, 0, []), (5, (.iload 4), 2, 0, []), (7, (.iconst 4), 1, 0, []), (8, (.if_icmp .ge 47), 3, 55, []), (11, (.iload_n 2), 1, 0, []), (12, (.iload 4), 2, 0, []), (14, .ishr, 1, 0, []), (15, (.iconst 1), 1, 0, []), (16, .iand, 1, 0, []), (17, (.iconst 1), 1, 0, []), (18, (.if_icmp .ne 31), 3, 49, []), (21, (.aload_n 0), 1, 0, []), (22, (.getfield 9), 3, 1, []), (25, (.iconst 4), 1, 0, []), (26, (.iload_n 1), 1, 0, []), (27, .imul, 1, 0, []), (28, (.iload 4), 2, 0, []), (30, .iadd, 1, 0, []), (31, .iaload, 1, 0, []), (32, (.aload_n 0), 1, 0, []), (33, (.getfield 15), 3, 2, []), (36, (.iconst 4), 1, 0, []), (37, (.iload_n 1), 1, 0, []), (38, .imul, 1, 0, []), (39, (.iload 4), 2, 0, []), (41, .iadd, 1, 0, []), (42, .iaload, 1, 0, []), (43, (.if_icmp .eq 6), 3, 49, []), (46, (.iinc 3 1), 3, 0, []), (49, (.iinc 4 1), 3, 0, []), (52, (.goto (-47)), 3, 5, []), (55, (.iload_n 3), 1, 0, []), (56, .ireturn, 1, 0, [])]
def q_k6 : List (Nat × q_E) := [(0, (.aload_n 0), 1, 0, []), (1, (.invokespecial 1), 3, 999, []), (4, (.aload_n 0), 1, 0, []), (5, (.bipush 6), 2, 0, []), (7, (.anewarray 9), 3, 11, []), (10, (.putfield 11), 3, 32, []), (13, (.iconst 0), 1, 0, []), (14, (.istore_n 1), 1, 0, []), (15, (.iload_n 1), 1, 0, []), (16, (.bipush 6), 2, 0, []), (18, (.if_icmp .ge 22), 3, 40, []), (21, (.aload_n 0), 1, 0, []), (22, (.getfield 11), 3, 32, []), (25, (.iload_n 1), 1, 0, []), (26, (.new 9), 3, 0, []), (29, .dup, 1, 0, []), (30, (.invokespecial 15), 3, 200, []), (33, .aastore, 1, 0, []), (34, (.iinc 1 1), 3, 0, []), (37, (.goto (-22)), 3, 15, []), (40, .return_, 1, 0, [])]
def q_k7 : List (Nat × q_E) := [(0, (.aload_n 0), 1, 0, []), (1, (.getfield 11), 3, 32, []), (4, (.aload_n 0), 1, 0, []), (5, (.getfield 16), 3, 33, []), (8, .aaload, 1, 0, []), (9, (.aload_n 1), 1, 0, []), (10, (.invokevirtual 20), 3, 2, []), (13, (.aload_n 0), 1, 0, []), (14, (.aload_n 0), 1, 0, []), (15, (.getfield 16), 3, 33, []), (18, (.iconst 1), 1, 0, []), (19, .iadd, 1, 0, []), (20, (.bipush 6), 2, 0, []), (22, (.if_icmp .ge 12), 3, 34, []), (25, (.aload_n 0), 1, 0, []), (26, (.getfield 16), 3, 33, []), (29, (.iconst 1), 1, 0, []), (30, .iadd, 1, 0, []), (31, (.goto 4), 3, 35, []), (34, (.iconst 0), 1, 0, []), (35, (.putfield 16), 3, 33, []), (38, (.aload_n 0), 1, 0, []), (39, (.aload_n 0), 1, 0, []), (40, (.getfield 24), 3, 34, []), (43, (.iconst 1), 1, 0, []), (44, .iadd, 1, 0, []), (45, (.bipush 6), 2, 0, []), (47, (.invokestatic 27), 3, 150, []), (50, (.putfield 24), 3, 34, []), (53, .return_, 1, 0, [])]
def q_k8 : List (Nat × q_E) := [(0, (.aload_n 0), 1, 0, []), (1, (.aload_n 0), 1, 0, []), (2, (.getfield 16), 3, 33, []), (5, (.ifCond .le 12), 3, 17, []), (8, (.aload_n 0), 1, 0, []), (9, (.getfield 16), 3, 33, []), (12, (.iconst 1), 1, 0, []), (13, .isub, 1, 0, []), (14, (.goto 4), 3, 18, []), (17, (.iconst 5), 1, 0, []), (18, (.putfield 16), 3, 33, []), (21, (.aload_n 1), 1, 0, []), (22, (.aload_n 0), 1, 0, []), (23, (.getfield 11), 3, 32, []), (26, (.aload_n 0), 1, 0, []), (27, (.getfield 16), 3, 33, []), (30, .aaload, 1, 0, []), (31, (.invokevirtual 20), 3, 2, []), (34, (.aload_n 0), 1, 0, []), (35, .dup, 1, 0, []), (36, (.getfield 24), 3, 34, []), (39, (.iconst 1), 1, 0, []), (40, .isub, 1, 0, []), (41, (.putfield 24), 3, 34, []), (44, .return_, 1, 0, [])]
def q_k9 : List (Nat × q_E) := [(0, (.aload_n 0), 1, 0, []), (1, (.invokespecial 3), 3, 999, []), (4, (.aload_n 0), 1, 0, []), (5, (.iconst 3), 1, 0, []), (6, (.newarray .int), 2, 9, []), (8, (.putfield 9), 3, 64, []), (11, (.aload_n 0), 1, 0, []), (12, (.bipush 12), 2, 0, []), (14, (.newarray .int), 2, 9, []), (16, (.putfield 15), 3, 65, []), (19, .return_, 1, 0, [])]
def q_k10 : List (Nat × q_E) := [(0, (.aload_n 0), 1, 0, []), (1, (.getfield 18), 3, 162, []), (4, (.iconst 3), 1, 0, []), (5, (.iload_n 3), 1, 0, []), (6, .imul, 1, 0, []), (7, (.iload 4), 2, 0, []), (9, .iadd, 1, 0, []), (10, .iaload, 1, 0, []), (11, (.aload_n 2), 1, 0, []), (12, (.iconst 3), 1, 0, []), (13, (.iload_n 3), 1, 0, []), (14, .imul, 1, 0, []), (15, (.iload 4), 2, 0, []), (17, .iadd, 1, 0, []), (18, .iaload, 1, 0, []), (19, .iadd, 1, 0, []), (20, (.istore 5), 2, 0, []), (22, (.iconst 0), 1, 0, []), (23, (.istore 6), 2, 0, []), (25, (.iload 6), 2, 0, []), (27, (.iconst 4), 1, 0, []), (28, (.if_icmp .ge 51), 3, 79, []), (31, (.iload 6), 2, 0, []), (33, (.iload_n 3), 1, 0, []), (34, (.if_icmp .eq 39), 3, 73, []), (37, (.iload_n 1), 1, 0, []), (38, (.iload 6), 2, 0, []), (40, .ishr, 1, 0, []), (41, (.iconst 1), 1, 0, []), (42, .iand, 1, 0, []), (43, (.iconst 1), 1, 0, []), (44, (.if_icmp .ne 29), 3, 73, []), (47, (.iload 5), 2, 0, []), (49, (.aload_n 0), 1, 0, []), (50, (.getfield 23), 3, 161, []), (53, (.iconst 4), 1, 0, []), (54, (.iload_n 3), 1, 0, []), (55, .imul, 1, 0, []), (56, (.iload 6), 2, 0, []), (58, .iadd, 1, 0, []), (59, .iaload, 1, 0, []), (60, (.aload_n 2), 1, 0, []), (61, (.iconst 3), 1, 0, []), (62, (.iload 6), 2, 0, []), (64, .imul, 1, 0, []), (65, (.iload 4), 2, 0, []), (67, .iadd, 1, 0, []), (68, .iaload, 1, 0, []), (69, .imul, 1, 0, []), (70, .iadd, 1, 0, []), (71, (.istore 5), 2, 0, []), (73, (.iinc 6 1), 3, 0, []), (76, (.goto (-51)), 3, 25, []), (79, (.iload 5), 2, 0, []), (81, .ireturn, 1, 0, [])]
def q_k11 : List (Nat × q_E) := [(0, (.iconst 0), 1, 0, []), (1, (.istore 4), 2, 0, []), (3, (.iload 4), 2, 0, []), (5, (.iconst 4), 1, 0, []), (6, (.if_icmp .ge 28), 3, 34, []), (9, (.iload_n 2), 1, 0, []), (10, (.iload 4), 2, 0, []), (12, .ishr, 1, 0, []), (13, (.iconst 1), 1, 0, []), (14, .iand, 1, 0, []), (15, (.iconst 1), 1, 0, []), (16, (.if_icmp .ne 12), 3, 28, []), (19, (.aload_n 0), 1, 0, []), (20, (.aload_n 1), 1, 0, []), (21, (.iload_n 2), 1, 0, []), (22, (.aload_n 3), 1, 0, []), (23, (.iload 4), 2, 0, []), (25, (.invokevirtual 26), 3, 12, []), (28, (.iinc 4 1), 3, 0, []), (31, (.goto (-28)), 3, 3, []), (34, .return_, 1, 0, [])]
def q_k12 : List (Nat × q_E) := [(0, (.iconst 0), 1, 0, []), (1, (.istore 5), 2, 0, []), (3, (.iload 5), 2, 0, []), (5, (.iconst 3), 1, 0, []), (6, (.if_icmp .ge 36), 3, 42, []), (9, (.aload_n 3), 1, 0, []), (10, (.iconst 3), 1, 0, []), (11, (.iload 4), 2, 0, []), (13, .imul, 1, 0, []), (14, (.iload 5), 2, 0, []), (16, .iadd, 1, 0, []), (17, (.iconst 0), 1, 0, []), (18, .iastore, 1, 0, []), (19, (.aload_n 0), 1, 0, []), (20, (.getfield 9), 3, 64, []), (23, (.iload 5), 2, 0, []), (25, (.aload_n 1), 1, 0, []), (26, (.iload_n 2), 1, 0, []), (27, (.aload_n 3), 1, 0, []), (28, (.iload 4), 2, 0, []), (30, (.iload 5), 2, 0, []), (32, (.invokestatic 30), 3, 10, []), (35, .iastore, 1, 0, []), (36, (.iinc 5 1), 3, 0, []), (39, (.goto (-36)), 3, 3, []), (42, (.iconst 0), 1, 0, []), (43, (.istore 5), 2, 0, []), (45, (.iload 5), 2, 0, []), (47, (.aload_n 1), 1, 0, []), (48, (.getfield 34), 3, 163, []), (51, (.iload 4), 2, 0, []), (53, .iaload, 1, 0, []), (54, (.if_icmp .ge 54), 3, 108, []), (57, (.aload_n 0), 1, 0, []), (58, (.aload_n 3), 1, 0, []), (59, (.iload 4), 2, 0, []), (61, (.aload_n 1), 1, 0, []), (62, (.getfield 37), 3, 164, []), (65, (.invokevirtual 41), 3, 13, []), (68, (.istore 6), 2, 0, []), (70, (.iload 6), 2, 0, []), (72, (.bipush (-9)), 2, 0, []), (74, (.if_icmp .ne 4), 3, 78, []), (77, .return_, 1, 0, []), (78, (.aload_n 3), 1, 0, []), (79, (.iconst 3), 1, 0, []), (80, (.iload 4), 2, 0, []), (82, .imul, 1, 0, []), (83, (.iload 6), 2, 0, []), (85, .iadd, 1, 0, []), (86, .dup2, 1, 0, []), (87, .iaload, 1, 0, []), (88, (.iconst 1), 1, 0, []), (89, .iadd, 1, 0, []), (90, .iastore, 1, 0, []), (91, (.aload_n 0), 1, 0, []), (92, (.getfield 9), 3, 64, []), (95, (.iload 6), 2, 0, []), (97, .dup2, 1, 0, []), (98, .iaload, 1, 0, []), (99, (.iconst 1), 1, 0, []), (100, .iadd, 1, 0, []), (101, .iastore, 1, 0, []), (102, (.iinc 5 1), 3, 0, []), (105, (.goto (-60)), 3, 45, []), (108, .return_, 1, 0, [])]
def q_k13 : List (Nat × q_E) := [(0, (.bipush (-9)), 2, 0, []), (2, (.istore 4), 2, 0, []), (4, (.iconst 0), 1, 0, []), (5, (.istore 5), 2, 0, []), (7, (.iload 5), 2, 0, []), (9, (.iconst 3), 1, 0, []), (10, (.if_icmp .ge 49), 3, 59, []), (13, (.aload_n 1), 1, 0, []), (14, (.iconst 3), 1, 0, []), (15, (.iload_n 2), 1, 0, []), (16, .imul, 1, 0, []), (17, (.iload 5), 2, 0, []), (19, .iadd, 1, 0, []), (20, .iaload, 1, 0, []), (21, (.iload_n 3), 1, 0, []), (22, (.if_icmp .ge 31), 3, 53, []), (25, (.iload 4), 2, 0, []), (27, (.bipush (-9)), 2, 0, []), (29, (.if_icmp .eq 20), 3, 49, []), (32, (.aload_n 0), 1, 0, []), (33, (.getfield 9), 3, 64, []), (36, (.iload 5), 2, 0, []), (38, .iaload, 1, 0, []), (39, (.aload_n 0), 1, 0, []), (40, (.getfield 9), 3, 64, []), (43, (.iload 4), 2, 0, []), (45, .iaload, 1, 0, []), (46, (.if_icmp .ge 7), 3, 53, []), (49, (.iload 5), 2, 0, []), (51, (.istore 4), 2, 0, []), (53, (.iinc 5 1), 3, 0, []), (56, (.goto (-49)), 3, 7, []), (59, (.iload 4), 2, 0, []), (61, .ireturn, 1, 0, [])]
def q_k14 : List (Nat × q_E) := [(0, (.aload_n 0), 1, 0, []), (1, (.aload_n 2), 1, 0, []), (2, (.getfield 45), 3, 4, []), (5, (.invokevirtual 50), 3, 17, []), (8, (.aload_n 0), 1, 0, []), (9, (.aload_n 1), 1, 0, []), (10, (.aload_n 2), 1, 0, []), (11, (.getfield 54), 3, 0, []), (14, (.invokevirtual 57), 3, 18, []), (17, (.ifCond .ne 7), 3, 24, []), (20, (.iconst 1), 1, 0, []), (21, (.goto 4), 3, 25, []), (24, (.iconst 0), 1, 0, []), (25, .ireturn, 1, 0, [])]
def q_k15 : List (Nat × q_E) := [(0, (.aload_n 0), 1, 0, []), (1, (.aload_n 2), 1, 0, []), (2, (.getfield 45), 3, 4, []), (5, (.invokevirtual 50), 3, 17, []), (8, (.iconst 0), 1, 0, []), (9, (.istore_n 3), 1, 0, []), (10, (.iload_n 3), 1, 0, []), (11, (.bipush 60), 2, 0, []), (13, (.if_icmp .gt 23), 3, 36, []), (16, (.aload_n 0), 1, 0, []), (17, (.aload_n 1), 1, 0, []), (18, (.aload_n 2), 1, 0, []), (19, (.getfield 54), 3, 0, []), (22, (.invokevirtual 57), 3, 18, []), (25, (.ifCond .ne 5), 3, 30, []), (28, (.iload_n 3), 1, 0, []), (29, .ireturn, 1, 0, []), (30, (.iinc 3 1), 3, 0, []), (33, (.goto (-23)), 3, 10, []), (36, (.bipush (-9)), 2, 0, []), (38, .ireturn, 1, 0, [])]
def q_k16 : List (Nat × q_E) := [(0, (.aload_n 0), 1, 0, []), (1, (.aload_n 1), 1, 0, []), (2, (.aload_n 2), 1, 0, []), (3, (.invokevirtual 61), 3, 15, []), (6, (.bipush (-9)), 2, 0, []), (8, (.if_icmp .eq 6), 3, 14, []), (11, (.bipush (-9)), 2, 0, []), (13, .ireturn, 1, 0, []), (14, (.iconst 2), 1, 0, []), (15, (.istore_n 3), 1, 0, []), (16, (.iload_n 3), 1, 0, []), (17, (.bipush 60), 2, 0, []), (19, (.if_icmp .gt 39), 3, 58, []), (22, (.aload_n 0), 1, 0, []), (23, (.aload_n 1), 1, 0, []), (24, (.aload_n 2), 1, 0, []), (25, (.getfield 54), 3, 0, []), (28, (.aload_n 0), 1, 0, []), (29, (.getfield 15), 3, 65, []), (32, (.invokevirtual 65), 3, 11, []), (35, (.aload_n 0), 1, 0, []), (36, (.getfield 15), 3, 65, []), (39, (.invokestatic 69), 3, 19, []), (42, (.aload_n 0), 1, 0, []), (43, (.getfield 73), 3, 66, []), (46, .lcmp, 1, 0, []), (47, (.ifCond .ne 5), 3, 52, []), (50, (.iload_n 3), 1, 0, []), (51, .ireturn, 1, 0, []), (52, (.iinc 3 1), 3, 0, []), (55, (.goto (-39)), 3, 16, []), (58, (.bipush (-9)), 2, 0, []), (60, .ireturn, 1, 0, [])]
def q_k17 : List (Nat × q_E) := [(0, (.iconst 0), 1, 0, []), (1, (.istore_n 2), 1, 0, []), (2, (.iload_n 2), 1, 0, []), (3, (.bipush 12), 2, 0, []), (5, (.if_icmp .ge 18), 3, 23, []), (8, (.aload_n 0), 1, 0, []), (9, (.getfield 15), 3, 65, []), (12, (.iload_n 2), 1, 0, []), (13, (.aload_n 1), 1, 0, []), (14, (.iload_n 2), 1, 0, []), (15, .iaload, 1, 0, []), (16, .iastore, 1, 0, []), (17, (.iinc 2 1), 3, 0, []), (20, (.goto (-18)), 3, 2, []), (23, .return_, 1, 0, [])]
def q_k18 : List (Nat × q_E) := [(0, (.aload_n 0), 1, 0, []), (1, (.aload_n 0), 1, 0, []), (2, (.getfield 15), 3, 65, []), (5, (.invokestatic 69), 3, 19, []), (8, (.putfield 73), 3, 66, []), (11, (.aload_n 0), 1, 0, []), (12, (.aload_n 1), 1, 0, []), (13, (.iload_n 2), 1, 0, []), (14, (.aload_n 0), 1, 0, []), (15, (.getfield 15), 3, 65, []), (18, (.invokevirtual 65), 3, 11, []), (21, (.aload_n 0), 1, 0, []), (22, (.getfield 15), 3, 65, []), (25, (.invokestatic 69), 3, 19, []), (28, (.aload_n 0), 1, 0, []), (29, (.getfield 73), 3, 66, []), (32, .lcmp, 1, 0, []), (33, (.ifCond .eq 7), 3, 40, []), (36, (.iconst 1), 1, 0, []), (37, (.goto 4), 3, 41, []), (40, (.iconst 0), 1, 0, []), (41, .ireturn, 1, 0, [])]
def q_k19 : List (Nat × q_E) := [(0, (.lconst 0), 1, 0, []), (1, (.lstore_n 1), 1, 0, []), (2, (.iconst 0), 1, 0, []), (3, (.istore_n 3), 1, 0, []), (4, (.iload_n 3), 1, 0, []), (5, (.bipush 12), 2, 0, []), (7, (.if_icmp .ge 18), 3, 25, []), (10, (.lload_n 1), 1, 0, []), (11, (.iconst 4), 1, 0, []), (12, .lshl, 1, 0, []), (13, (.aload_n 0), 1, 0, []), (14, (.iload_n 3), 1, 0, []), (15, .iaload, 1, 0, []), (16, .i2l, 1, 0, []), (17, .lor, 1, 0, []), (18, (.lstore_n 1), 1, 0, []), (19, (.iinc 3 1), 3, 0, []), (22, (.goto (-18)), 3, 4, []), (25, (.lload_n 1), 1, 0, []), (26, .lreturn, 1, 0, [])]
def q_k20 : List (Nat × q_E) := [(0, (.aload_n 0), 1, 0, []), (1, (.invokespecial 3), 3, 999, []), (4, (.aload_n 0), 1, 0, []), (5, (.iconst 4), 1, 0, []), (6, (.newarray .int), 2, 9, []), (8, (.putfield 9), 3, 96, []), (11, (.aload_n 0), 1, 0, []), (12, (.iconst 4), 1, 0, []), (13, (.newarray .int), 2, 9, []), (15, (.putfield 15), 3, 97, []), (18, (.aload_n 0), 1, 0, []), (19, (.bipush 20), 2, 0, []), (21, (.newarray .int), 2, 9, []), (23, (.putfield 18), 3, 98, []), (26, .return_, 1, 0, [])]
def q_k21 : List (Nat × q_E) := [(0, (.iconst 0), 1, 0, []), (1, (.istore_n 2), 1, 0, []), (2, (.iconst 0), 1, 0, []), (3, (.istore_n 3), 1, 0, []), (4, (.iload_n 3), 1, 0, []), (5, (.iconst 4), 1, 0, []), (6, (.if_icmp .ge 32), 3, 38, []), (9, (.aload_n 1), 1, 0, []), (10, (.iload_n 3), 1, 0, []), (11, (.invokevirtual 21), 3, 4, []), (14, (.ifCond .eq 18), 3, 32, []), (17, (.aload_n 0), 1, 0, []), (18, (.aload_n 1), 1, 0, []), (19, (.iload_n 3), 1, 0, []), (20, (.invokevirtual 27), 3, 22, []), (23, (.iload_n 2), 1, 0, []), (24, (.aload_n 0), 1, 0, []), (25, (.aload_n 1), 1, 0, []), (26, (.iload_n 3), 1, 0, []), (27, (.invokevirtual 31), 3, 23, []), (30, .iadd, 1, 0, []), (31, (.istore_n 2), 1, 0, []), (32, (.iinc 3 1), 3, 0, []), (35, (.goto (-31)), 3, 4, []), (38, (.aload_n 1), 1, 0, []), (39, (.invokevirtual 35), 3, 3, []), (42, (.iload_n 2), 1, 0, []), (43, .ireturn, 1, 0, [])]
def q_k22 : List (Nat × q_E) := [(0, (.iconst 0), 1, 0, []), (1, (.istore_n 3), 1, 0, []), (2, (.iload_n 3), 1, 0, []), (3, (.iconst 4), 1, 0, []), (4, (.if_icmp .ge 83), 3, 87, []), (7, (.aload_n 1), 1, 0, []), (8, (.getfield 38), 3, 3, []), (11, (.iconst 4), 1, 0, []), (12, (.iload_n 2), 1, 0, []), (13, .imul, 1, 0, []), (14, (.iload_n 3), 1, 0, []), (15, .iadd, 1, 0, []), (16, .iaload, 1, 0, []), (17, (.istore 4), 2, 0, []), (19, (.iconst 0), 1, 0, []), (20, (.istore 5), 2, 0, []), (22, (.iload 5), 2, 0, []), (24, (.iconst 4), 1, 0, []), (25, (.if_icmp .ge 45), 3, 70, []), (28, (.aload_n 1), 1, 0, []), (29, (.iload 5), 2, 0, []), (31, (.invokevirtual 21), 3, 4, []), (34, (.ifCond .eq 30), 3, 64, []), (37, (.iload 4), 2, 0, []), (39, (.aload_n 1), 1, 0, []), (40, (.getfield 41), 3, 1, []), (43, (.iconst 4), 1, 0, []), (44, (.iload_n 2), 1, 0, []), (45, .imul, 1, 0, []), (46, (.iload 5), 2, 0, []), (48, .iadd, 1, 0, []), (49, .iaload, 1, 0, []), (50, (.getstatic 44), 3, 0, []), (53, (.iconst 4), 1, 0, []), (54, (.iload 5), 2, 0, []), (56, .imul, 1, 0, []), (57, (.iload_n 3), 1, 0, []), (58, .iadd, 1, 0, []), (59, .iaload, 1, 0, []), (60, .imul, 1, 0, []), (61, .iadd, 1, 0, []), (62, (.istore 4), 2, 0, []), (64, (.iinc 5 1), 3, 0, []), (67, (.goto (-45)), 3, 22, []), (70, (.aload_n 0), 1, 0, []), (71, (.getfield 9), 3, 96, []), (74, (.iload_n 3), 1, 0, []), (75, (.iload 4), 2, 0, []), (77, (.bipush 31), 2, 0, []), (79, .irem, 1, 0, []), (80, .iastore, 1, 0, []), (81, (.iinc 3 1), 3, 0, []), (84, (.goto (-82)), 3, 2, []), (87, .return_, 1, 0, [])]
def q_k23 : List (Nat × q_E) := [(0, (.iconst 0), 1, 0, []), (1, (.istore_n 3), 1, 0, []), (2, (.iconst 0), 1, 0, []), (3, (.istore 4), 2, 0, []), (5, (.iload 4), 2, 0, []), (7, (.iconst 4), 1, 0, []), (8, (.if_icmp .ge 105), 3, 113, []), (11, (.aload_n 1), 1, 0, []), (12, (.iload 4), 2, 0, []), (14, (.invokevirtual 21), 3, 4, []), (17, (.ifCond .eq 90), 3, 107, []), (20, (.iconst 0), 1, 0, []), (21, (.istore 5), 2, 0, []), (23, (.iconst 0), 1, 0, []), (24, (.istore 6), 2, 0, []), (26, (.iload 6), 2, 0, []), (28, (.iconst 4), 1, 0, []), (29, (.if_icmp .ge 33), 3, 62, []), (32, (.iload 5), 2, 0, []), (34, (.aload_n 0), 1, 0, []), (35, (.getfield 9), 3, 96, []), (38, (.iload 6), 2, 0, []), (40, .iaload, 1, 0, []), (41, (.getstatic 44), 3, 0, []), (44, (.iconst 4), 1, 0, []), (45, (.iload 4), 2, 0, []), (47, .imul, 1, 0, []), (48, (.iload 6), 2, 0, []), (50, .iadd, 1, 0, []), (51, .iaload, 1, 0, []), (52, .imul, 1, 0, []), (53, .iadd, 1, 0, []), (54, (.istore 5), 2, 0, []), (56, (.iinc 6 1), 3, 0, []), (59, (.goto (-33)), 3, 26, []), (62, (.iload 5), 2, 0, []), (64, (.bipush 31), 2, 0, []), (66, .irem, 1, 0, []), (67, (.bipush 8), 2, 0, []), (69, .imul, 1, 0, []), (70, (.bipush 31), 2, 0, []), (72, .irem, 1, 0, []), (73, (.istore 6), 2, 0, []), (75, (.aload_n 1), 1, 0, []), (76, (.getfield 47), 3, 2, []), (79, (.iconst 4), 1, 0, []), (80, (.iload_n 2), 1, 0, []), (81, .imul, 1, 0, []), (82, (.iload 4), 2, 0, []), (84, .iadd, 1, 0, []), (85, .iaload, 1, 0, []), (86, (.iload 6), 2, 0, []), (88, (.if_icmp .eq 19), 3, 107, []), (91, (.aload_n 1), 1, 0, []), (92, (.getfield 47), 3, 2, []), (95, (.iconst 4), 1, 0, []), (96, (.iload_n 2), 1, 0, []), (97, .imul, 1, 0, []), (98, (.iload 4), 2, 0, []), (100, .iadd, 1, 0, []), (101, (.iload 6), 2, 0, []), (103, .iastore, 1, 0, []), (104, (.iinc 3 1), 3, 0, []), (107, (.iinc 4 1), 3, 0, []), (110, (.goto (-105)), 3, 5, []), (113, (.iload_n 3), 1, 0, []), (114, .ireturn, 1, 0, [])]
def q_k24 : List (Nat × q_E) := [(0, (.iconst 0), 1, 0, []), (1, (.istore 4), 2, 0, []), (3, (.iload 4), 2, 0, []), (5, (.iconst 4), 1, 0, []), (6, (.if_icmp .ge 42), 3, 48, []), (9, (.iload_n 2), 1, 0, []), (10, (.iload 4), 2, 0, []), (12, .ishr, 1, 0, []), (13, (.iconst 1), 1, 0, []), (14, .iand, 1, 0, []), (15, (.iconst 1), 1, 0, []), (16, (.if_icmp .ne 17), 3, 33, []), (19, (.aload_n 1), 1, 0, []), (20, (.iconst 4), 1, 0, []), (21, (.iload 4), 2, 0, []), (23, .imul, 1, 0, []), (24, (.iload 4), 2, 0, []), (26, .iadd, 1, 0, []), (27, .iaload, 1, 0, []), (28, (.ifCond .ne 5), 3, 33, []), (31, (.iconst 0), 1, 0, []), (32, .ireturn, 1, 0, []), (33, (.aload_n 0), 1, 0, []), (34, (.aload_n 1), 1, 0, []), (35, (.iload_n 2), 1, 0, []), (36, (.aload_n 3), 1, 0, []), (37, (.iload 4), 2, 0, []), (39, (.invokevirtual 50), 3, 25, []), (42, (.iinc 4 1), 3, 0, []), (45, (.goto (-42)), 3, 3, []), (48, (.iconst 0), 1, 0, []), (49, (.istore 4), 2, 0, []), (51, (.iload 4), 2, 0, []), (53, (.iconst 4), 1, 0, []), (54, (.if_icmp .ge 26), 3, 80, []), (57, (.aload_n 0), 1, 0, []), (58, (.iload 4), 2, 0, []), (60, (.invokevirtual 54), 3, 26, []), (63, (.ifCond .ne 5), 3, 68, []), (66, (.iconst 0), 1, 0, []), (67, .ireturn, 1, 0, []), (68, (.aload_n 0), 1, 0, []), (69, (.iload 4), 2, 0, []), (71, (.invokevirtual 57), 3, 27, []), (74, (.iinc 4 1), 3, 0, []), (77, (.goto (-26)), 3, 51, []), (80, (.iconst 0), 1, 0, []), (81, (.istore 4), 2, 0, []), (83, (.iload 4), 2, 0, []), (85, (.iconst 4), 1, 0, []), (86, (.if_icmp .ge 27), 3, 113, []), (89, (.aload_n 0), 1, 0, []), (90, (.getfield 15), 3, 97, []), (93, (.iload 4), 2, 0, []), (95, (.aload_n 0), 1, 0, []), (96, (.getfield 18), 3, 98, []), (99, (.iconst 5), 1, 0, []), (100, (.iload 4), 2, 0, []), (102, .imul, 1, 0, []), (103, (.iconst 4), 1, 0, []), (104, .iadd, 1, 0, []), (105, .iaload, 1, 0, []), (106, .iastore, 1, 0, []), (107, (.iinc 4 1), 3, 0, []), (110, (.goto (-27)), 3, 83, []), (113, (.iconst 1), 1, 0, []), (114, .ireturn, 1, 0, [])]
def q_k25 : List (Nat × q_E) := [(0, (.iload_n 2), 1, 0, []), (1, (.iload 4), 2, 0, []), (3, .ishr, 1, 0, []), (4, (.iconst 1), 1, 0, []), (5, .iand, 1, 0, []), (6, (.iconst 1), 1, 0, []), (7, (.if_icmp .ne 7), 3, 14, []), (10, (.iconst 1), 1, 0, []), (11, (.goto 4), 3, 15, []), (14, (.iconst 0), 1, 0, []), (15, (.istore 5), 2, 0, []), (17, (.iconst 0), 1, 0, []), (18, (.istore 6), 2, 0, []), (20, (.iload 6), 2, 0, []), (22, (.iconst 4), 1, 0, []), (23, (.if_icmp .ge 85), 3, 108, []), (26, (.iload 5), 2, 0, []), (28, (.ifCond .eq 17), 3, 45, []), (31, (.iload_n 2), 1, 0, []), (32, (.iload 6), 2, 0, []), (34, .ishr, 1, 0, []), (35, (.iconst 1), 1, 0, []), (36, .iand, 1, 0, []), (37, (.iconst 1), 1, 0, []), (38, (.if_icmp .ne 7), 3, 45, []), (41, (.iconst 1), 1, 0, []), (42, (.goto 4), 3, 46, []), (45, (.iconst 0), 1, 0, []), (46, (.istore 7), 2, 0, []), (48, (.iload 6), 2, 0, []), (50, (.iload 4), 2, 0, []), (52, (.if_icmp .ne 7), 3, 59, []), (55, (.iconst 1), 1, 0, []), (56, (.goto 4), 3, 60, []), (59, (.iconst 0), 1, 0, []), (60, (.istore 8), 2, 0, []), (62, (.aload_n 0), 1, 0, []), (63, (.getfield 18), 3, 98, []), (66, (.iconst 5), 1, 0, []), (67, (.iload 4), 2, 0, []), (69, .imul, 1, 0, []), (70, (.iload 6), 2, 0, []), (72, .iadd, 1, 0, []), (73, (.iload 7), 2, 0, []), (75, (.ifCond .eq 15), 3, 90, []), (78, (.aload_n 1), 1, 0, []), (79, (.iconst 4), 1, 0, []), (80, (.iload 4), 2, 0, []), (82, .imul, 1, 0, []), (83, (.iload 6), 2, 0, []), (85, .iadd, 1, 0, []), (86, .iaload, 1, 0, []), (87, (.goto 14), 3, 101, []), (90, (.iload 5), 2, 0, []), (92, (.ifCond .eq 7), 3, 99, []), (95, (.iconst 0), 1, 0, []), (96, (.goto 5), 3, 101, []), (99, (.iload 8), 2, 0, []), (101, .iastore, 1, 0, []), (102, (.iinc 6 1), 3, 0, []), (105, (.goto (-85)), 3, 20, []), (108, (.aload_n 0), 1, 0, []), (109, (.getfield 18), 3, 98, []), (112, (.iconst 5), 1, 0, []), (113, (.iload 4), 2, 0, []), (115, .imul, 1, 0, []), (116, (.iconst 4), 1, 0, []), (117, .iadd, 1, 0, []), (118, (.iload 5), 2, 0, []), (120, (.ifCond .eq 23), 3, 143, []), (123, (.aload_n 1), 1, 0, []), (124, (.iconst 4), 1, 0, []), (125, (.iload 4), 2, 0, []), (127, .imul, 1, 0, []), (128, (.iload 4), 2, 0, []), (130, .iadd, 1, 0, []), (131, .iaload, 1, 0, []), (132, (.aload_n 3), 1, 0, []), (133, (.iload 4), 2, 0, []), (135, .iaload, 1, 0, []), (136, .imul, 1, 0, []), (137, (.bipush 31), 2, 0, []), (139, .irem, 1, 0, []), (140, (.goto 4), 3, 144, []), (143, (.iconst 0), 1, 0, []), (144, .iastore, 1, 0, []), (145, .return_, 1, 0, [])]
def q_k26 : List (Nat × q_E) := [(0, (.iload_n 1), 1, 0, []), (1, (.istore_n 2), 1, 0, []), (2, (.iload_n 2), 1, 0, []), (3, (.iconst 4), 1, 0, []), (4, (.if_icmp .ge 22), 3, 26, []), (7, (.aload_n 0), 1, 0, []), (8, (.getfield 18), 3, 98, []), (11, (.iconst 5), 1, 0, []), (12, (.iload_n 2), 1, 0, []), (13, .imul, 1, 0, []), (14, (.iload_n 1), 1, 0, []), (15, .iadd, 1, 0, []), (16, .iaload, 1, 0, []), (17, (.ifCond .ne 9), 3, 26, []), (20, (.iinc 2 1), 3, 0, []), (23, (.goto (-21)), 3, 2, []), (26, (.iload_n 2), 1, 0, []), (27, (.iconst 4), 1, 0, []), (28, (.if_icmp .lt 5), 3, 33, []), (31, (.iconst 0), 1, 0, []), (32, .ireturn, 1, 0, []), (33, (.getstatic 61), 3, 1, []), (36, (.aload_n 0), 1, 0, []), (37, (.getfield 18), 3, 98, []), (40, (.iconst 5), 1, 0, []), (41, (.iload_n 2), 1, 0, []), (42, .imul, 1, 0, []), (43, (.iload_n 1), 1, 0, []), (44, .iadd, 1, 0, []), (45, .iaload, 1, 0, []), (46, .iaload, 1, 0, []), (47, (.istore_n 3), 1, 0, []), (48, (.iconst 0), 1, 0, []), (49, (.istore 4), 2, 0, []), (51, (.iload 4), 2, 0, []), (53, (.iconst 5), 1, 0, []), (54, (.if_icmp .ge 67), 3, 121, []), (57, (.aload_n 0), 1, 0, []), (58, (.getfield 18), 3, 98, []), (61, (.iconst 5), 1, 0, []), (62, (.iload_n 1), 1, 0, []), (63, .imul, 1, 0, []), (64, (.iload 4), 2, 0, []), (66, .iadd, 1, 0, []), (67, .iaload, 1, 0, []), (68, (.istore 5), 2, 0, []), (70, (.aload_n 0), 1, 0, []), (71, (.getfield 18), 3, 98, []), (74, (.iconst 5), 1, 0, []), (75, (.iload_n 1), 1, 0, []), (76, .imul, 1, 0, []), (77, (.iload 4), 2, 0, []), (79, .iadd, 1, 0, []), (80, (.aload_n 0), 1, 0, []), (81, (.getfield 18), 3, 98, []), (84, (.iconst 5), 1, 0, []), (85, (.iload_n 2), 1, 0, []), (86, .imul, 1, 0, []), (87, (.iload 4), 2, 0, []), (89, .iadd, 1, 0, []), (90, .iaload, 1, 0, []), (91, (.iload_n 3), 1, 0, []), (92, .imul, 1, 0, []), (93, (.bipush 31), 2, 0, []), (95, .irem, 1, 0, []), (96, .iastore, 1, 0, []), (97, (.iload_n 2), 1, 0, []), (98, (.iload_n 1), 1, 0, []), (99, (.if_icmp .eq 16), 3, 115, []), (102, (.aload_n 0), 1, 0, []), (103, (.getfield 18), 3, 98, []), (106, (.iconst 5), 1, 0, []), (107, (.iload_n 2), 1, 0, []), (108, .imul, 1, 0, []), (109, (.iload 4), 2, 0, []), (111, .iadd, 1, 0, []), (112, (.iload 5), 2, 0, []), (114, .iastore, 1, 0, []), (115, (.iinc 4 1), 3, 0, []), (118, (.goto (-67)), 3, 51, []), (121, (.iconst 1), 1, 0, []), (122, .ireturn, 1, 0, [])]
def q_k27 : List (Nat × q_E) := [(0, (.iconst 0), 1, 0, []), (1, (.istore_n 2), 1, 0, []), (2, (.iload_n 2), 1, 0, []), (3, (.iconst 4), 1, 0, []), (4, (.if_icmp .ge 88), 3, 92, []), (7, (.bipush 31), 2, 0, []), (9, (.aload_n 0), 1, 0, []), (10, (.getfield 18), 3, 98, []), (13, (.iconst 5), 1, 0, []), (14, (.iload_n 2), 1, 0, []), (15, .imul, 1, 0, []), (16, (.iload_n 1), 1, 0, []), (17, .iadd, 1, 0, []), (18, .iaload, 1, 0, []), (19, .isub, 1, 0, []), (20, (.istore_n 3), 1, 0, []), (21, (.iload_n 2), 1, 0, []), (22, (.iload_n 1), 1, 0, []), (23, (.if_icmp .eq 63), 3, 86, []), (26, (.iload_n 3), 1, 0, []), (27, (.bipush 31), 2, 0, []), (29, (.if_icmp .eq 57), 3, 86, []), (32, (.iconst 0), 1, 0, []), (33, (.istore 4), 2, 0, []), (35, (.iload 4), 2, 0, []), (37, (.iconst 5), 1, 0, []), (38, (.if_icmp .ge 48), 3, 86, []), (41, (.aload_n 0), 1, 0, []), (42, (.getfield 18), 3, 98, []), (45, (.iconst 5), 1, 0, []), (46, (.iload_n 2), 1, 0, []), (47, .imul, 1, 0, []), (48, (.iload 4), 2, 0, []), (50, .iadd, 1, 0, []), (51, (.aload_n 0), 1, 0, []), (52, (.getfield 18), 3, 98, []), (55, (.iconst 5), 1, 0, []), (56, (.iload_n 2), 1, 0, []), (57, .imul, 1, 0, []), (58, (.iload 4), 2, 0, []), (60, .iadd, 1, 0, []), (61, .iaload, 1, 0, []), (62, (.iload_n 3), 1, 0, []), (63, (.aload_n 0), 1, 0, []), (64, (.getfield 18), 3, 98, []), (67, (.iconst 5), 1, 0, []), (68, (.iload_n 1), 1, 0, []), (69, .imul, 1, 0, []), (70, (.iload 4), 2, 0, []), (72, .iadd, 1, 0, []), (73, .iaload, 1, 0, []), (74, .imul, 1, 0, []), (75, .iadd, 1, 0, []), (76, (.bipush 31), 2, 0, []), (78, .irem, 1, 0, []), (79, .iastore, 1, 0, []), (80, (.iinc 4 1), 3, 0, []), (83, (.goto (-48)), 3, 35, []), (86, (.iinc 2 1), 3, 0, []), (89, (.goto (-87)), 3, 2, []), (92, .return_, 1, 0, [])]
def q_k28 : List (Nat × q_E) := [(0, (.iconst 0), 1, 0, []), (1, (.istore_n 3), 1, 0, []), (2, (.iconst 0), 1, 0, []), (3, (.istore 4), 2, 0, []), (5, (.iload 4), 2, 0, []), (7, (.iconst 4), 1, 0, []), (8, (.if_icmp .ge 40), 3, 48, []), (11, (.aload_n 1), 1, 0, []), (12, (.iload 4), 2, 0, []), (14, (.invokevirtual 21), 3, 4, []), (17, (.ifCond .eq 25), 3, 42, []), (20, (.iload_n 3), 1, 0, []), (21, (.aload_n 1), 1, 0, []), (22, (.getfield 41), 3, 1, []), (25, (.iconst 4), 1, 0, []), (26, (.iload_n 2), 1, 0, []), (27, .imul, 1, 0, []), (28, (.iload 4), 2, 0, []), (30, .iadd, 1, 0, []), (31, .iaload, 1, 0, []), (32, (.aload_n 0), 1, 0, []), (33, (.getfield 15), 3, 97, []), (36, (.iload 4), 2, 0, []), (38, .iaload, 1, 0, []), (39, .imul, 1, 0, []), (40, .iadd, 1, 0, []), (41, (.istore_n 3), 1, 0, []), (42, (.iinc 4 1), 3, 0, []), (45, (.goto (-40)), 3, 5, []), (48, (.iload_n 3), 1, 0, []), (49, (.bipush 31), 2, 0, []), (51, .irem, 1, 0, []), (52, (.getstatic 61), 3, 1, []), (55, (.aload_n 1), 1, 0, []), (56, (.getfield 47), 3, 2, []), (59, (.iconst 4), 1, 0, []), (60, (.iload_n 2), 1, 0, []), (61, .imul, 1, 0, []), (62, (.iload_n 2), 1, 0, []), (63, .iadd, 1, 0, []), (64, .iaload, 1, 0, []), (65, .iaload, 1, 0, []), (66, .imul, 1, 0, []), (67, (.bipush 31), 2, 0, []), (69, .irem, 1, 0, []), (70, .ireturn, 1, 0, [])]
def q_k29 : List (Nat × q_E) := [(0, (.aload_n 0), 1, 0, []), (1, (.invokespecial 3), 3, 999, []), (4, (.aload_n 0), 1, 0, []), (5, (.sipush 160), 3, 0, []), (8, (.newarray .int), 2, 9, []), (10, (.putfield 11), 3, 128, []), (13, .return_, 1, 0, [])]
def q_k30 : List (Nat × q_E) := [(0, (.aload_n 0), 1, 0, []), (1, (.getfield 15), 3, 129, []), (4, (.sipush 160), 3, 0, []), (7, (.if_icmp .lt 5), 3, 12, []), (10, (.iconst 0), 1, 0, []), (11, .ireturn, 1, 0, []), (12, (.aload_n 0), 1, 0, []), (13, (.getfield 11), 3, 128, []), (16, (.aload_n 0), 1, 0, []), (17, (.getfield 15), 3, 129, []), (20, (.iload_n 1), 1, 0, []), (21, .iastore, 1, 0, []), (22, (.aload_n 0), 1, 0, []), (23, .dup, 1, 0, []), (24, (.getfield 15), 3, 129, []), (27, (.iconst 1), 1, 0, []), (28, .iadd, 1, 0, []), (29, (.putfield 15), 3, 129, []), (32, (.iconst 1), 1, 0, []), (33, .ireturn, 1, 0, [])]
def q_k31 : List (Nat × q_E) := [(0, (.aload_n 0), 1, 0, []), (1, (.getfield 15), 3, 129, []), (4, (.istore_n 1), 1, 0, []), (5, (.aload_n 0), 1, 0, []), (6, (.iconst 0), 1, 0, []), (7, (.putfield 15), 3, 129, []), (10, (.iload_n 1), 1, 0, []), (11, .ireturn, 1, 0, [])]
def q_k32 : List (Nat × q_E) := [(0, (.aload_n 0), 1, 0, []), (1, (.iconst 0), 1, 0, []), (2, (.putfield 19), 3, 130, []), (5, (.aload_n 0), 1, 0, []), (6, (.iconst (-1)), 1, 0, []), (7, (.putfield 22), 3, 131, []), (10, (.iconst 0), 1, 0, []), (11, (.istore_n 2), 1, 0, []), (12, (.aload_n 0), 1, 0, []), (13, (.invokevirtual 25), 3, 33, []), (16, (.iconst 0), 1, 0, []), (17, (.istore_n 3), 1, 0, []), (18, (.iload_n 3), 1, 0, []), (19, (.sipush 160), 3, 0, []), (22, (.if_icmp .ge 40), 3, 62, []), (25, (.aload_n 0), 1, 0, []), (26, (.getfield 19), 3, 130, []), (29, (.aload_n 0), 1, 0, []), (30, (.getfield 15), 3, 129, []), (33, (.if_icmp .ge 29), 3, 62, []), (36, (.aload_n 0), 1, 0, []), (37, (.getfield 22), 3, 131, []), (40, (.iconst (-1)), 1, 0, []), (41, (.if_icmp .ne 21), 3, 62, []), (44, (.aload_n 0), 1, 0, []), (45, (.aload_n 1), 1, 0, []), (46, (.invokevirtual 28), 3, 34, []), (49, (.iinc 2 1), 3, 0, []), (52, (.aload_n 0), 1, 0, []), (53, (.invokevirtual 25), 3, 33, []), (56, (.iinc 3 1), 3, 0, []), (59, (.goto (-41)), 3, 18, []), (62, (.aload_n 0), 1, 0, []), (63, (.getfield 22), 3, 131, []), (66, (.iconst (-1)), 1, 0, []), (67, (.if_icmp .ne 7), 3, 74, []), (70, (.iload_n 2), 1, 0, []), (71, (.goto 10), 3, 81, []), (74, (.bipush (-10)), 2, 0, []), (76, (.aload_n 0), 1, 0, []), (77, (.getfield 22), 3, 131, []), (80, .isub, 1, 0, []), (81, .ireturn, 1, 0, [])]
def q_k33 : List (Nat × q_E) := [(0, (.aload_n 0), 1, 0, []), (1, (.getfield 19), 3, 130, []), (4, (.aload_n 0), 1, 0, []), (5, (.getfield 15), 3, 129, []), (8, (.if_icmp .ge 30), 3, 38, []), (11, (.aload_n 0), 1, 0, []), (12, (.getfield 11), 3, 128, []), (15, (.aload_n 0), 1, 0, []), (16, (.getfield 19), 3, 130, []), (19, .iaload, 1, 0, []), (20, (.bipush 32), 2, 0, []), (22, (.if_icmp .ne 16), 3, 38, []), (25, (.aload_n 0), 1, 0, []), (26, .dup, 1, 0, []), (27, (.getfield 19), 3, 130, []), (30, (.iconst 1), 1, 0, []), (31, .iadd, 1, 0, []), (32, (.putfield 19), 3, 130, []), (35, (.goto (-35)), 3, 0, []), (38, .return_, 1, 0, [])]
def q_k34 : List (Nat × q_E) := [(0, (.aload_n 0), 1, 0, []), (1, (.getfield 11), 3, 128, []), (4, (.aload_n 0), 1, 0, []), (5, (.getfield 19), 3, 130, []), (8, .iaload, 1, 0, []), (9, (.istore_n 2), 1, 0, []), (10, (.iload_n 2), 1, 0, []), (11, (.tableswitch 155 98 110 #[119, 155, 155, 65, 155, 101, 155, 155, 155, 155, 155, 137, 83]), 65, 166, [130, 166, 166, 76, 166, 112, 166, 166, 166, 166, 166, 148, 94]), (76, (.aload_n 0), 1, 0, []), (77, .dup, 1, 0, []), (78, (.getfield 19), 3, 130, []), (81, (.iconst 1), 1, 0, []), (82, .iadd, 1, 0, []), (83, (.putfield 19), 3, 130, []), (86, (.aload_n 0), 1, 0, []), (87, (.aload_n 1), 1, 0, []), (88, (.invokevirtual 32), 3, 35, []), (91, (.goto 83), 3, 174, []), (94, (.aload_n 0), 1, 0, []), (95, .dup, 1, 0, []), (96, (.getfield 19), 3, 130, []), (99, (.iconst 1), 1, 0, []), (100, .iadd, 1, 0, []), (101, (.putfield 19), 3, 130, []), (104, (.aload_n 0), 1, 0, []), (105, (.aload_n 1), 1, 0, []), (106, (.invokevirtual 35), 3, 36, []), (109, (.goto 65), 3, 174, []), (112, (.aload_n 0), 1, 0, []), (113, .dup, 1, 0, []), (114, (.getfield 19), 3, 130, []), (117, (.iconst 1), 1, 0, []), (118, .iadd, 1, 0, []), (119, (.putfield 19), 3, 130, []), (122, (.aload_n 0), 1, 0, []), (123, (.aload_n 1), 1, 0, []), (124, (.invokevirtual 38), 3, 37, []), (127, (.goto 47), 3, 174, []), (130, (.aload_n 0), 1, 0, []), (131, .dup, 1, 0, []), (132, (.getfield 19), 3, 130, []), (135, (.iconst 1), 1, 0, []), (136, .iadd, 1, 0, []), (137, (.putfield 19), 3, 130, []), (140, (.aload_n 0), 1, 0, []), (141, (.aload_n 1), 1, 0, []), (142, (.invokevirtual 41), 3, 38, []), (145, (.goto 29), 3, 174, []), (148, (.aload_n 0), 1, 0, []), (149, .dup, 1, 0, []), (150, (.getfield 19), 3, 130, []), (153, (.iconst 1), 1, 0, []), (154, .iadd, 1, 0, []), (155, (.putfield 19), 3, 130, []), (158, (.aload_n 0), 1, 0, []), (159, (.aload_n 1), 1, 0, []), (160, (.invokevirtual 44), 3, 39, []), (163, (.goto 11), 3, 174, []), (166, (.aload_n 0), 1, 0, []), (167, (.aload_n 0), 1, 0, []), (168, (.getfield 19), 3, 130, []), (171, (.putfield 22), 3, 131, []), (174, .return_, 1, 0, [])]
def q_k35 : List (Nat × q_E) := [(0, (.aload_n 0), 1, 0, []), (1, (.iconst 0), 1, 0, []), (2, (.iconst 3), 1, 0, []), (3, (.iconst (-1)), 1, 0, []), (4, (.invokevirtual 47), 3, 40, []), (7, (.istore_n 2), 1, 0, []), (8, (.aload_n 0), 1, 0, []), (9, (.iconst 0), 1, 0, []), (10, (.iconst 3), 1, 0, []), (11, (.iconst (-1)), 1, 0, []), (12, (.invokevirtual 47), 3, 40, []), (15, (.istore_n 3), 1, 0, []), (16, (.aload_n 0), 1, 0, []), (17, (.iload_n 3), 1, 0, []), (18, (.iload_n 2), 1, 0, []), (19, (.if_icmp .ne 7), 3, 26, []), (22, (.iconst 1), 1, 0, []), (23, (.goto 4), 3, 27, []), (26, (.iconst 0), 1, 0, []), (27, (.bipush 30), 2, 0, []), (29, (.iconst (-1)), 1, 0, []), (30, (.invokevirtual 47), 3, 40, []), (33, (.istore 4), 2, 0, []), (35, (.aload_n 0), 1, 0, []), (36, (.invokevirtual 51), 3, 42, []), (39, (.ifCond .eq 15), 3, 54, []), (42, (.aload_n 1), 1, 0, []), (43, (.getfield 55), 3, 160, []), (46, (.iconst 4), 1, 0, []), (47, (.iload_n 2), 1, 0, []), (48, .imul, 1, 0, []), (49, (.iload_n 3), 1, 0, []), (50, .iadd, 1, 0, []), (51, (.iload 4), 2, 0, []), (53, .iastore, 1, 0, []), (54, .return_, 1, 0, [])]
def q_k36 : List (Nat × q_E) := [(0, (.aload_n 0), 1, 0, []), (1, (.iconst 0), 1, 0, []), (2, (.iconst 3), 1, 0, []), (3, (.iconst (-1)), 1, 0, []), (4, (.invokevirtual 47), 3, 40, []), (7, (.istore_n 2), 1, 0, []), (8, (.aload_n 0), 1, 0, []), (9, (.iconst 0), 1, 0, []), (10, (.iconst 2), 1, 0, []), (11, (.iconst (-1)), 1, 0, []), (12, (.invokevirtual 47), 3, 40, []), (15, (.istore_n 3), 1, 0, []), (16, (.aload_n 0), 1, 0, []), (17, (.iconst 0), 1, 0, []), (18, (.bipush 20), 2, 0, []), (20, (.iconst (-1)), 1, 0, []), (21, (.invokevirtual 47), 3, 40, []), (24, (.istore 4), 2, 0, []), (26, (.aload_n 0), 1, 0, []), (27, (.invokevirtual 51), 3, 42, []), (30, (.ifCond .eq 15), 3, 45, []), (33, (.aload_n 1), 1, 0, []), (34, (.getfield 60), 3, 162, []), (37, (.iconst 3), 1, 0, []), (38, (.iload_n 2), 1, 0, []), (39, .imul, 1, 0, []), (40, (.iload_n 3), 1, 0, []), (41, .iadd, 1, 0, []), (42, (.iload 4), 2, 0, []), (44, .iastore, 1, 0, []), (45, .return_, 1, 0, [])]
def q_k37 : List (Nat × q_E) := [(0, (.aload_n 0), 1, 0, []), (1, (.iconst 0), 1, 0, []), (2, (.iconst 3), 1, 0, []), (3, (.iconst (-1)), 1, 0, []), (4, (.invokevirtual 47), 3, 40, []), (7, (.istore_n 2), 1, 0, []), (8, (.aload_n 0), 1, 0, []), (9, (.iconst 0), 1, 0, []), (10, (.iconst 3), 1, 0, []), (11, (.iload_n 2), 1, 0, []), (12, (.invokevirtual 47), 3, 40, []), (15, (.istore_n 3), 1, 0, []), (16, (.aload_n 0), 1, 0, []), (17, (.iconst 0), 1, 0, []), (18, (.bipush 9), 2, 0, []), (20, (.iconst (-1)), 1, 0, []), (21, (.invokevirtual 47), 3, 40, []), (24, (.istore 4), 2, 0, []), (26, (.aload_n 0), 1, 0, []), (27, (.invokevirtual 51), 3, 42, []), (30, (.ifCond .eq 15), 3, 45, []), (33, (.aload_n 1), 1, 0, []), (34, (.getfield 63), 3, 161, []), (37, (.iconst 4), 1, 0, []), (38, (.iload_n 2), 1, 0, []), (39, .imul, 1, 0, []), (40, (.iload_n 3), 1, 0, []), (41, .iadd, 1, 0, []), (42, (.iload 4), 2, 0, []), (44, .iastore, 1, 0, []), (45, .return_, 1, 0, [])]
def q_k38 : List (Nat × q_E) := [(0, (.aload_n 0), 1, 0, []), (1, (.iconst 0), 1, 0, []), (2, (.iconst 3), 1, 0, []), (3, (.iconst (-1)), 1, 0, []), (4, (.invokevirtual 47), 3, 40, []), (7, (.istore_n 2), 1, 0, []), (8, (.aload_n 0), 1, 0, []), (9, (.iconst 0), 1, 0, []), (10, (.bipush 12), 2, 0, []), (12, (.iconst (-1)), 1, 0, []), (13, (.invokevirtual 47), 3, 40, []), (16, (.istore_n 3), 1, 0, []), (17, (.aload_n 0), 1, 0, []), (18, (.invokevirtual 51), 3, 42, []), (21, (.ifCond .eq 10), 3, 31, []), (24, (.aload_n 1), 1, 0, []), (25, (.getfield 66), 3, 163, []), (28, (.iload_n 2), 1, 0, []), (29, (.iload_n 3), 1, 0, []), (30, .iastore, 1, 0, []), (31, .return_, 1, 0, [])]
def q_k39 : List (Nat × q_E) := [(0, (.aload_n 0), 1, 0, []), (1, (.iconst 1), 1, 0, []), (2, (.bipush 12), 2, 0, []), (4, (.iconst (-1)), 1, 0, []), (5, (.invokevirtual 47), 3, 40, []), (8, (.istore_n 2), 1, 0, []), (9, (.aload_n 0), 1, 0, []), (10, (.invokevirtual 51), 3, 42, []), (13, (.ifCond .eq 8), 3, 21, []), (16, (.aload_n 1), 1, 0, []), (17, (.iload_n 2), 1, 0, []), (18, (.putfield 69), 3, 164, []), (21, .return_, 1, 0, [])]
def q_k40 : List (Nat × q_E) := [(0, (.aload_n 0), 1, 0, []), (1, (.invokevirtual 25), 3, 33, []), (4, (.aload_n 0), 1, 0, []), (5, (.getfield 22), 3, 131, []), (8, (.iconst (-1)), 1, 0, []), (9, (.if_icmp .eq 5), 3, 14, []), (12, (.iload_n 1), 1, 0, []), (13, .ireturn, 1, 0, []), (14, (.aload_n 0), 1, 0, []), (15, (.getfield 19), 3, 130, []), (18, (.istore 4), 2, 0, []), (20, (.aload_n 0), 1, 0, []), (21, (.invokevirtual 72), 3, 41, []), (24, (.istore 5), 2, 0, []), (26, (.iload 5), 2, 0, []), (28, (.iload_n 1), 1, 0, []), (29, (.if_icmp .lt 15), 3, 44, []), (32, (.iload 5), 2, 0, []), (34, (.iload_n 2), 1, 0, []), (35, (.if_icmp .gt 9), 3, 44, []), (38, (.iload 5), 2, 0, []), (40, (.iload_n 3), 1, 0, []), (41, (.if_icmp .ne 11), 3, 52, []), (44, (.aload_n 0), 1, 0, []), (45, (.iload 4), 2, 0, []), (47, (.putfield 22), 3, 131, []), (50, (.iload_n 1), 1, 0, []), (51, .ireturn, 1, 0, []), (52, (.iload 5), 2, 0, []), (54, .ireturn, 1, 0, [])]
def q_k41 : List (Nat × q_E) := [(0, (.aload_n 0), 1, 0, []), (1, (.getfield 19), 3, 130, []), (4, (.istore_n 1), 1, 0, []), (5, (.iconst 0), 1, 0, []), (6, (.istore_n 2), 1, 0, []), (7, (.aload_n 0), 1, 0, []), (8, (.getfield 19), 3, 130, []), (11, (.aload_n 0), 1, 0, []), (12, (.getfield 15), 3, 129, []), (15, (.if_icmp .ge 72), 3, 87, []), (18, (.aload_n 0), 1, 0, []), (19, (.getfield 11), 3, 128, []), (22, (.aload_n 0), 1, 0, []), (23, (.getfield 19), 3, 130, []), (26, .iaload, 1, 0, []), (27, (.bipush 48), 2, 0, []), (29, (.if_icmp .lt 58), 3, 87, []), (32, (.aload_n 0), 1, 0, []), (33, (.getfield 11), 3, 128, []), (36, (.aload_n 0), 1, 0, []), (37, (.getfield 19), 3, 130, []), (40, .iaload, 1, 0, []), (41, (.bipush 57), 2, 0, []), (43, (.if_icmp .gt 44), 3, 87, []), (46, (.aload_n 0), 1, 0, []), (47, (.getfield 19), 3, 130, []), (50, (.iload_n 1), 1, 0, []), (51, .isub, 1, 0, []), (52, (.iconst 2), 1, 0, []), (53, (.if_icmp .ge 21), 3, 74, []), (56, (.bipush 10), 2, 0, []), (58, (.iload_n 2), 1, 0, []), (59, .imul, 1, 0, []), (60, (.aload_n 0), 1, 0, []), (61, (.getfield 11), 3, 128, []), (64, (.aload_n 0), 1, 0, []), (65, (.getfield 19), 3, 130, []), (68, .iaload, 1, 0, []), (69, .iadd, 1, 0, []), (70, (.bipush 48), 2, 0, []), (72, .isub, 1, 0, []), (73, (.istore_n 2), 1, 0, []), (74, (.aload_n 0), 1, 0, []), (75, .dup, 1, 0, []), (76, (.getfield 19), 3, 130, []), (79, (.iconst 1), 1, 0, []), (80, .iadd, 1, 0, []), (81, (.putfield 19), 3, 130, []), (84, (.goto (-77)), 3, 7, []), (87, (.aload_n 0), 1, 0, []), (88, (.getfield 19), 3, 130, []), (91, (.iload_n 1), 1, 0, []), (92, .isub, 1, 0, []), (93, (.istore_n 3), 1, 0, []), (94, (.iload_n 3), 1, 0, []), (95, (.iconst 1), 1, 0, []), (96, (.if_icmp .eq 14), 3, 110, []), (99, (.iload_n 3), 1, 0, []), (100, (.iconst 2), 1, 0, []), (101, (.if_icmp .ne 13), 3, 114, []), (104, (.iload_n 2), 1, 0, []), (105, (.bipush 9), 2, 0, []), (107, (.if_icmp .le 7), 3, 114, []), (110, (.iconst 1), 1, 0, []), (111, (.goto 4), 3, 115, []), (114, (.iconst 0), 1, 0, []), (115, (.istore 4), 2, 0, []), (117, (.iload 4), 2, 0, []), (119, (.ifCond .eq 7), 3, 126, []), (122, (.iload_n 2), 1, 0, []), (123, (.goto 4), 3, 127, []), (126, (.iconst (-1)), 1, 0, []), (127, .ireturn, 1, 0, [])]
def q_k42 : List (Nat × q_E) := [(0, (.aload_n 0), 1, 0, []), (1, (.invokevirtual 25), 3, 33, []), (4, (.aload_n 0), 1, 0, []), (5, (.getfield 22), 3, 131, []), (8, (.iconst (-1)), 1, 0, []), (9, (.if_icmp .eq 5), 3, 14, []), (12, (.iconst 0), 1, 0, []), (13, .ireturn, 1, 0, []), (14, (.aload_n 0), 1, 0, []), (15, (.getfield 19), 3, 130, []), (18, (.aload_n 0), 1, 0, []), (19, (.getfield 15), 3, 129, []), (22, (.if_icmp .ge 17), 3, 39, []), (25, (.aload_n 0), 1, 0, []), (26, (.getfield 11), 3, 128, []), (29, (.aload_n 0), 1, 0, []), (30, (.getfield 19), 3, 130, []), (33, .iaload, 1, 0, []), (34, (.bipush 59), 2, 0, []), (36, (.if_icmp .eq 13), 3, 49, []), (39, (.aload_n 0), 1, 0, []), (40, (.aload_n 0), 1, 0, []), (41, (.getfield 19), 3, 130, []), (44, (.putfield 22), 3, 131, []), (47, (.iconst 0), 1, 0, []), (48, .ireturn, 1, 0, []), (49, (.aload_n 0), 1, 0, []), (50, .dup, 1, 0, []), (51, (.getfield 19), 3, 130, []), (54, (.iconst 1), 1, 0, []), (55, .iadd, 1, 0, []), (56, (.putfield 19), 3, 130, []), (59, (.iconst 1), 1, 0, []), (60, .ireturn, 1, 0, [])]
def q_k43 : List (Nat × q_E) := [(0, (.aload_n 0), 1, 0, []), (1, (.invokespecial 3), 3, 999, []), (4, (.aload_n 0), 1, 0, []), (5, (.bipush 16), 2, 0, []), (7, (.newarray .int), 2, 9, []), (9, (.putfield 9), 3, 160, []), (12, (.aload_n 0), 1, 0, []), (13, (.bipush 16), 2, 0, []), (15, (.newarray .int), 2, 9, []), (17, (.putfield 15), 3, 161, []), (20, (.aload_n 0), 1, 0, []), (21, (.bipush 12), 2, 0, []), (23, (.newarray .int), 2, 9, []), (25, (.putfield 18), 3, 162, []), (28, (.aload_n 0), 1, 0, []), (29, (.iconst 4), 1, 0, []), (30, (.newarray .int), 2, 9, []), (32, (.putfield 21), 3, 163, []), (35, .return_, 1, 0, [])]
def q_k44 : List (Nat × q_E) := [(0, (.iconst 0), 1, 0, []), (1, (.istore_n 1), 1, 0, []), (2, (.iload_n 1), 1, 0, []), (3, (.bipush 16), 2, 0, []), (5, (.if_icmp .ge 36), 3, 41, []), (8, (.aload_n 0), 1, 0, []), (9, (.getfield 9), 3, 160, []), (12, (.iload_n 1), 1, 0, []), (13, (.iload_n 1), 1, 0, []), (14, (.iconst 4), 1, 0, []), (15, .idiv, 1, 0, []), (16, (.iload_n 1), 1, 0, []), (17, (.iconst 4), 1, 0, []), (18, .irem, 1, 0, []), (19, (.if_icmp .ne 7), 3, 26, []), (22, (.iconst 1), 1, 0, []), (23, (.goto 4), 3, 27, []), (26, (.iconst 0), 1, 0, []), (27, .iastore, 1, 0, []), (28, (.aload_n 0), 1, 0, []), (29, (.getfield 15), 3, 161, []), (32, (.iload_n 1), 1, 0, []), (33, (.iconst 0), 1, 0, []), (34, .iastore, 1, 0, []), (35, (.iinc 1 1), 3, 0, []), (38, (.goto (-36)), 3, 2, []), (41, (.iconst 0), 1, 0, []), (42, (.istore_n 1), 1, 0, []), (43, (.iload_n 1), 1, 0, []), (44, (.bipush 12), 2, 0, []), (46, (.if_icmp .ge 16), 3, 62, []), (49, (.aload_n 0), 1, 0, []), (50, (.getfield 18), 3, 162, []), (53, (.iload_n 1), 1, 0, []), (54, (.iconst 0), 1, 0, []), (55, .iastore, 1, 0, []), (56, (.iinc 1 1), 3, 0, []), (59, (.goto (-16)), 3, 43, []), (62, (.iconst 0), 1, 0, []), (63, (.istore_n 1), 1, 0, []), (64, (.iload_n 1), 1, 0, []), (65, (.iconst 4), 1, 0, []), (66, (.if_icmp .ge 16), 3, 82, []), (69, (.aload_n 0), 1, 0, []), (70, (.getfield 21), 3, 163, []), (73, (.iload_n 1), 1, 0, []), (74, (.iconst 4), 1, 0, []), (75, .iastore, 1, 0, []), (76, (.iinc 1 1), 3, 0, []), (79, (.goto (-15)), 3, 64, []), (82, (.aload_n 0), 1, 0, []), (83, (.bipush 12), 2, 0, []), (85, (.putfield 24), 3, 164, []), (88, .return_, 1, 0, [])]
def q_k45 : List (Nat × q_E) := [(0, (.aload_n 0), 1, 0, []), (1, (.invokespecial 3), 3, 999, []), (4, (.aload_n 0), 1, 0, []), (5, (.bipush 8), 2, 0, []), (7, (.newarray .int), 2, 9, []), (9, (.putfield 11), 3, 192, []), (12, (.aload_n 0), 1, 0, []), (13, (.bipush 8), 2, 0, []), (15, (.newarray .boolean), 2, 10, []), (17, (.putfield 15), 3, 193, []), (20, .return_, 1, 0, [])]
def q_k46 : List (Nat × q_E) := [(0, (.aload_n 0), 1, 0, []), (1, (.getfield 19), 3, 194, []), (4, (.bipush 8), 2, 0, []), (6, (.if_icmp .lt 5), 3, 11, []), (9, (.iconst 0), 1, 0, []), (10, .ireturn, 1, 0, []), (11, (.aload_n 0), 1, 0, []), (12, (.getfield 11), 3, 192, []), (15, (.aload_n 0), 1, 0, []), (16, (.getfield 19), 3, 194, []), (19, (.iload_n 2), 1, 0, []), (20, (.iconst 4), 1, 0, []), (21, (.iload_n 1), 1, 0, []), (22, .imul, 1, 0, []), (23, .ishl, 1, 0, []), (24, .iastore, 1, 0, []), (25, (.aload_n 0), 1, 0, []), (26, (.getfield 15), 3, 193, []), (29, (.aload_n 0), 1, 0, []), (30, (.getfield 19), 3, 194, []), (33, (.iload_n 3), 1, 0, []), (34, (.iconst 1), 1, 0, []), (35, (.if_icmp .ne 7), 3, 42, []), (38, (.iconst 1), 1, 0, []), (39, (.goto 4), 3, 43, []), (42, (.iconst 0), 1, 0, []), (43, .bastore, 1, 0, []), (44, (.aload_n 0), 1, 0, []), (45, .dup, 1, 0, []), (46, (.getfield 19), 3, 194, []), (49, (.iconst 1), 1, 0, []), (50, .iadd, 1, 0, []), (51, (.putfield 19), 3, 194, []), (54, (.iconst 1), 1, 0, []), (55, .ireturn, 1, 0, [])]
def q_k47 : List (Nat × q_E) := [(0, (.iconst 0), 1, 0, []), (1, (.istore_n 2), 1, 0, []), (2, (.iconst 0), 1, 0, []), (3, (.istore_n 3), 1, 0, []), (4, (.iload_n 3), 1, 0, []), (5, (.iconst 4), 1, 0, []), (6, (.if_icmp .ge 26), 3, 32, []), (9, (.iload_n 1), 1, 0, []), (10, (.iload_n 3), 1, 0, []), (11, .ishr, 1, 0, []), (12, (.iconst 1), 1, 0, []), (13, .iand, 1, 0, []), (14, (.iconst 1), 1, 0, []), (15, (.if_icmp .ne 11), 3, 26, []), (18, (.iload_n 2), 1, 0, []), (19, (.iload_n 1), 1, 0, []), (20, (.iconst 4), 1, 0, []), (21, (.iload_n 3), 1, 0, []), (22, .imul, 1, 0, []), (23, .ishl, 1, 0, []), (24, .ior, 1, 0, []), (25, (.istore_n 2), 1, 0, []), (26, (.iinc 3 1), 3, 0, []), (29, (.goto (-25)), 3, 4, []), (32, (.iconst 0), 1, 0, []), (33, (.istore_n 3), 1, 0, []), (34, (.iload_n 3), 1, 0, []), (35, (.aload_n 0), 1, 0, []), (36, (.getfield 19), 3, 194, []), (39, (.if_icmp .ge 44), 3, 83, []), (42, (.iload_n 3), 1, 0, []), (43, (.bipush 8), 2, 0, []), (45, (.if_icmp .ge 38), 3, 83, []), (48, (.iload_n 2), 1, 0, []), (49, (.aload_n 0), 1, 0, []), (50, (.getfield 15), 3, 193, []), (53, (.iload_n 3), 1, 0, []), (54, .baload, 1, 0, []), (55, (.ifCond .eq 14), 3, 69, []), (58, (.aload_n 0), 1, 0, []), (59, (.getfield 11), 3, 192, []), (62, (.iload_n 3), 1, 0, []), (63, .iaload, 1, 0, []), (64, (.iconst (-1)), 1, 0, []), (65, .ixor, 1, 0, []), (66, (.goto 9), 3, 75, []), (69, (.aload_n 0), 1, 0, []), (70, (.getfield 11), 3, 192, []), (73, (.iload_n 3), 1, 0, []), (74, .iaload, 1, 0, []), (75, .iand, 1, 0, []), (76, (.istore_n 2), 1, 0, []), (77, (.iinc 3 1), 3, 0, []), (80, (.goto (-46)), 3, 34, []), (83, (.iload_n 2), 1, 0, []), (84, .ireturn, 1, 0, [])]
def q_k48 : List (Nat × q_E) := [(0, (.iconst 0), 1, 0, []), (1, (.istore_n 1), 1, 0, []), (2, (.iload_n 1), 1, 0, []), (3, (.bipush 16), 2, 0, []), (5, (.if_icmp .ge 20), 3, 25, []), (8, (.iload_n 0), 1, 0, []), (9, (.iload_n 1), 1, 0, []), (10, .ishr, 1, 0, []), (11, (.iconst 1), 1, 0, []), (12, .iand, 1, 0, []), (13, (.iconst 1), 1, 0, []), (14, (.if_icmp .ne 5), 3, 19, []), (17, (.iload_n 1), 1, 0, []), (18, .ireturn, 1, 0, []), (19, (.iinc 1 1), 3, 0, []), (22, (.goto (-20)), 3, 2, []), (25, (.bipush (-9)), 2, 0, []), (27, .ireturn, 1, 0, [])]
def q_k49 : List (Nat × q_E) := [(0, (.aload_n 0), 1, 0, []), (1, (.iload_n 1), 1, 0, []), (2, (.invokevirtual 23), 3, 47, []), (5, (.istore_n 2), 1, 0, []), (6, (.iload_n 2), 1, 0, []), (7, (.invokestatic 27), 3, 148, []), (10, (.istore_n 3), 1, 0, []), (11, (.iload_n 3), 1, 0, []), (12, (.iconst 2), 1, 0, []), (13, (.if_icmp .ge 6), 3, 19, []), (16, (.bipush (-9)), 2, 0, []), (18, .ireturn, 1, 0, []), (19, (.bipush (-9)), 2, 0, []), (21, (.istore 4), 2, 0, []), (23, (.iload_n 3), 1, 0, []), (24, (.iconst 1), 1, 0, []), (25, .iadd, 1, 0, []), (26, (.istore 5), 2, 0, []), (28, (.iconst 0), 1, 0, []), (29, (.istore 6), 2, 0, []), (31, (.iload 6), 2, 0, []), (33, (.bipush 64), 2, 0, []), (35, (.if_icmp .ge 82), 3, 117, []), (38, (.iload 6), 2, 0, []), (40, (.bipush 16), 2, 0, []), (42, .idiv, 1, 0, []), (43, (.istore 7), 2, 0, []), (45, (.iload 6), 2, 0, []), (47, (.bipush 16), 2, 0, []), (49, .irem, 1, 0, []), (50, (.istore 8), 2, 0, []), (52, (.iload_n 1), 1, 0, []), (53, (.iload 7), 2, 0, []), (55, .ishr, 1, 0, []), (56, (.iconst 1), 1, 0, []), (57, .iand, 1, 0, []), (58, (.iconst 1), 1, 0, []), (59, (.if_icmp .ne 52), 3, 111, []), (62, (.iload 8), 2, 0, []), (64, (.iload_n 1), 1, 0, []), (65, (.iconst (-1)), 1, 0, []), (66, .ixor, 1, 0, []), (67, .iand, 1, 0, []), (68, (.ifCond .ne 43), 3, 111, []), (71, (.iload_n 2), 1, 0, []), (72, (.iload 8), 2, 0, []), (74, (.iconst 4), 1, 0, []), (75, (.iload 7), 2, 0, []), (77, .imul, 1, 0, []), (78, .ishl, 1, 0, []), (79, .iand, 1, 0, []), (80, (.invokestatic 27), 3, 148, []), (83, (.istore 9), 2, 0, []), (85, (.iload 9), 2, 0, []), (87, (.iload_n 3), 1, 0, []), (88, (.iload 9), 2, 0, []), (90, .isub, 1, 0, []), (91, (.invokestatic 32), 3, 149, []), (94, (.istore 10), 2, 0, []), (96, (.iload 10), 2, 0, []), (98, (.iload 5), 2, 0, []), (100, (.if_icmp .ge 11), 3, 111, []), (103, (.iload 6), 2, 0, []), (105, (.istore 4), 2, 0, []), (107, (.iload 10), 2, 0, []), (109, (.istore 5), 2, 0, []), (111, (.iinc 6 1), 3, 0, []), (114, (.goto (-83)), 3, 31, []), (117, (.iload 4), 2, 0, []), (119, .ireturn, 1, 0, [])]
def q_k50 : List (Nat × q_E) := [(0, (.aload_n 0), 1, 0, []), (1, (.invokespecial 3), 3, 999, []), (4, (.aload_n 0), 1, 0, []), (5, (.new 9), 3, 4, []), (8, .dup, 1, 0, []), (9, (.invokespecial 11), 3, 229, []), (12, (.putfield 12), 3, 224, []), (15, (.aload_n 0), 1, 0, []), (16, (.new 16), 3, 5, []), (19, .dup, 1, 0, []), (20, (.invokespecial 18), 3, 243, []), (23, (.putfield 19), 3, 225, []), (26, (.aload_n 0), 1, 0, []), (27, (.new 16), 3, 5, []), (30, .dup, 1, 0, []), (31, (.invokespecial 18), 3, 243, []), (34, (.putfield 23), 3, 226, []), (37, (.aload_n 0), 1, 0, []), (38, (.new 26), 3, 0, []), (41, .dup, 1, 0, []), (42, (.invokespecial 28), 3, 200, []), (45, (.putfield 29), 3, 227, []), (48, (.aload_n 0), 1, 0, []), (49, (.new 33), 3, 1, []), (52, .dup, 1, 0, []), (53, (.invokespecial 35), 3, 6, []), (56, (.putfield 36), 3, 228, []), (59, (.aload_n 0), 1, 0, []), (60, (.new 40), 3, 3, []), (63, .dup, 1, 0, []), (64, (.invokespecial 42), 3, 220, []), (67, (.putfield 43), 3, 229, []), (70, (.aload_n 0), 1, 0, []), (71, (.new 47), 3, 2, []), (74, .dup, 1, 0, []), (75, (.invokespecial 49), 3, 209, []), (78, (.putfield 50), 3, 230, []), (81, (.aload_n 0), 1, 0, []), (82, (.new 54), 3, 6, []), (85, .dup, 1, 0, []), (86, (.invokespecial 56), 3, 245, []), (89, (.putfield 57), 3, 231, []), (92, (.aload_n 0), 1, 0, []), (93, (.iconst 2), 1, 0, []), (94, (.anewarray 26), 3, 11, []), (97, (.putfield 61), 3, 232, []), (100, (.aload_n 0), 1, 0, []), (101, (.iconst 4), 1, 0, []), (102, (.newarray .int), 2, 9, []), (104, (.putfield 65), 3, 234, []), (107, (.aload_n 0), 1, 0, []), (108, (.getfield 19), 3, 225, []), (111, (.invokevirtual 69), 3, 44, []), (114, (.aload_n 0), 1, 0, []), (115, (.getfield 29), 3, 227, []), (118, (.aload_n 0), 1, 0, []), (119, (.getfield 19), 3, 225, []), (122, (.getfield 72), 3, 160, []), (125, (.invokevirtual 75), 3, 1, []), (128, (.iconst 0), 1, 0, []), (129, (.istore_n 1), 1, 0, []), (130, (.iload_n 1), 1, 0, []), (131, (.iconst 2), 1, 0, []), (132, (.if_icmp .ge 22), 3, 154, []), (135, (.aload_n 0), 1, 0, []), (136, (.getfield 61), 3, 232, []), (139, (.iload_n 1), 1, 0, []), (140, (.new 26), 3, 0, []), (143, .dup, 1, 0, []), (144, (.invokespecial 28), 3, 200, []), (147, .aastore, 1, 0, []), (148, (.iinc 1 1), 3, 0, []), (151, (.goto (-21)), 3, 130, []), (154, .return_, 1, 0, [])]
def q_k51 : List (Nat × q_E) := [(0, (.iload_n 1), 1, 0, []), (1, (.ifCond .lt 10), 3, 11, []), (4, (.iload_n 1), 1, 0, []), (5, (.sipush 255), 3, 0, []), (8, (.if_icmp .le 5), 3, 13, []), (11, (.iconst (-1)), 1, 0, []), (12, .ireturn, 1, 0, []), (13, (.aload_n 0), 1, 0, []), (14, (.getfield 12), 3, 224, []), (17, (.iload_n 1), 1, 0, []), (18, (.invokevirtual 78), 3, 30, []), (21, (.ifCond .eq 13), 3, 34, []), (24, (.aload_n 0), 1, 0, []), (25, (.getfield 12), 3, 224, []), (28, (.getfield 82), 3, 129, []), (31, (.goto 5), 3, 36, []), (34, (.bipush (-3)), 2, 0, []), (36, .ireturn, 1, 0, [])]
def q_k52 : List (Nat × q_E) := [(0, (.aload_n 0), 1, 0, []), (1, (.getfield 12), 3, 224, []), (4, (.invokevirtual 86), 3, 31, []), (7, .ireturn, 1, 0, [])]
def q_k53 : List (Nat × q_E) := [(0, (.aload_n 0), 1, 0, []), (1, (.getfield 23), 3, 226, []), (4, (.invokevirtual 69), 3, 44, []), (7, (.aload_n 0), 1, 0, []), (8, (.getfield 12), 3, 224, []), (11, (.aload_n 0), 1, 0, []), (12, (.getfield 23), 3, 226, []), (15, (.invokevirtual 90), 3, 32, []), (18, (.istore_n 1), 1, 0, []), (19, (.iload_n 1), 1, 0, []), (20, (.ifCond .ge 5), 3, 25, []), (23, (.iload_n 1), 1, 0, []), (24, .ireturn, 1, 0, []), (25, (.aload_n 0), 1, 0, []), (26, (.getfield 19), 3, 225, []), (29, (.astore_n 2), 1, 0, []), (30, (.aload_n 0), 1, 0, []), (31, (.aload_n 0), 1, 0, []), (32, (.getfield 23), 3, 226, []), (35, (.putfield 19), 3, 225, []), (38, (.aload_n 0), 1, 0, []), (39, (.aload_n 2), 1, 0, []), (40, (.putfield 23), 3, 226, []), (43, (.aload_n 0), 1, 0, []), (44, (.getfield 29), 3, 227, []), (47, (.aload_n 0), 1, 0, []), (48, (.getfield 19), 3, 225, []), (51, (.getfield 72), 3, 160, []), (54, (.invokevirtual 75), 3, 1, []), (57, (.aload_n 0), 1, 0, []), (58, (.getfield 36), 3, 228, []), (61, (.iconst 0), 1, 0, []), (62, (.putfield 94), 3, 34, []), (65, (.aload_n 0), 1, 0, []), (66, (.getfield 57), 3, 231, []), (69, (.iconst 0), 1, 0, []), (70, (.putfield 97), 3, 194, []), (73, (.aload_n 0), 1, 0, []), (74, (.iconst 0), 1, 0, []), (75, (.putfield 100), 3, 233, []), (78, (.aload_n 0), 1, 0, []), (79, (.getfield 12), 3, 224, []), (82, (.invokevirtual 86), 3, 31, []), (85, .pop, 1, 0, []), (86, (.iload_n 1), 1, 0, []), (87, .ireturn, 1, 0, [])]
def q_k54 : List (Nat × q_E) := [(0, (.iload_n 1), 1, 0, []), (1, (.invokestatic 103), 3, 76, []), (4, (.ifCond .ne 5), 3, 9, []), (7, (.iconst (-1)), 1, 0, []), (8, .ireturn, 1, 0, []), (9, (.aload_n 0), 1, 0, []), (10, (.getfield 29), 3, 227, []), (13, (.iload_n 1), 1, 0, []), (14, (.invokevirtual 106), 3, 4, []), (17, (.ifCond .eq 6), 3, 23, []), (20, (.bipush (-2)), 2, 0, []), (22, .ireturn, 1, 0, []), (23, (.aload_n 0), 1, 0, []), (24, (.getfield 36), 3, 228, []), (27, (.aload_n 0), 1, 0, []), (28, (.getfield 29), 3, 227, []), (31, (.invokevirtual 109), 3, 7, []), (34, (.aload_n 0), 1, 0, []), (35, (.getfield 29), 3, 227, []), (38, .dup, 1, 0, []), (39, (.getfield 113), 3, 0, []), (42, (.iconst 1), 1, 0, []), (43, (.iload_n 1), 1, 0, []), (44, .ishl, 1, 0, []), (45, .ior, 1, 0, []), (46, (.putfield 113), 3, 0, []), (49, (.aload_n 0), 1, 0, []), (50, (.getfield 29), 3, 227, []), (53, (.getfield 113), 3, 0, []), (56, (.invokestatic 116), 3, 148, []), (59, .ireturn, 1, 0, [])]
def q_k55 : List (Nat × q_E) := [(0, (.iload_n 1), 1, 0, []), (1, (.invokestatic 103), 3, 76, []), (4, (.ifCond .ne 5), 3, 9, []), (7, (.iconst (-1)), 1, 0, []), (8, .ireturn, 1, 0, []), (9, (.aload_n 0), 1, 0, []), (10, (.getfield 29), 3, 227, []), (13, (.iload_n 1), 1, 0, []), (14, (.invokevirtual 106), 3, 4, []), (17, (.ifCond .ne 6), 3, 23, []), (20, (.bipush (-2)), 2, 0, []), (22, .ireturn, 1, 0, []), (23, (.aload_n 0), 1, 0, []), (24, (.getfield 36), 3, 228, []), (27, (.aload_n 0), 1, 0, []), (28, (.getfield 29), 3, 227, []), (31, (.invokevirtual 109), 3, 7, []), (34, (.aload_n 0), 1, 0, []), (35, (.getfield 29), 3, 227, []), (38, .dup, 1, 0, []), (39, (.getfield 113), 3, 0, []), (42, (.iconst 1), 1, 0, []), (43, (.iload_n 1), 1, 0, []), (44, .ishl, 1, 0, []), (45, (.iconst (-1)), 1, 0, []), (46, .ixor, 1, 0, []), (47, .iand, 1, 0, []), (48, (.putfield 113), 3, 0, []), (51, (.iconst 0), 1, 0, []), (52, (.istore_n 2), 1, 0, []), (53, (.iload_n 2), 1, 0, []), (54, (.iconst 3), 1, 0, []), (55, (.if_icmp .ge 23), 3, 78, []), (58, (.aload_n 0), 1, 0, []), (59, (.getfield 29), 3, 227, []), (62, (.getfield 122), 3, 4, []), (65, (.iconst 3), 1, 0, []), (66, (.iload_n 1), 1, 0, []), (67, .imul, 1, 0, []), (68, (.iload_n 2), 1, 0, []), (69, .iadd, 1, 0, []), (70, (.iconst 0), 1, 0, []), (71, .iastore, 1, 0, []), (72, (.iinc 2 1), 3, 0, []), (75, (.goto (-22)), 3, 53, []), (78, (.aload_n 0), 1, 0, []), (79, (.getfield 29), 3, 227, []), (82, (.getfield 113), 3, 0, []), (85, (.invokestatic 116), 3, 148, []), (88, .ireturn, 1, 0, [])]
def q_k56 : List (Nat × q_E) := [(0, (.iload_n 1), 1, 0, []), (1, (.invokestatic 103), 3, 76, []), (4, (.ifCond .eq 26), 3, 30, []), (7, (.iload_n 2), 1, 0, []), (8, (.invokestatic 103), 3, 76, []), (11, (.ifCond .eq 19), 3, 30, []), (14, (.iload_n 3), 1, 0, []), (15, (.invokestatic 124), 3, 77, []), (18, (.ifCond .eq 12), 3, 30, []), (21, (.iload_n 1), 1, 0, []), (22, (.iload_n 2), 1, 0, []), (23, (.if_icmp .ne 9), 3, 32, []), (26, (.iload_n 3), 1, 0, []), (27, (.ifCond .ne 5), 3, 32, []), (30, (.iconst (-1)), 1, 0, []), (31, .ireturn, 1, 0, []), (32, (.aload_n 0), 1, 0, []), (33, (.getfield 29), 3, 227, []), (36, (.getfield 127), 3, 1, []), (39, (.iconst 4), 1, 0, []), (40, (.iload_n 1), 1, 0, []), (41, .imul, 1, 0, []), (42, (.iload_n 2), 1, 0, []), (43, .iadd, 1, 0, []), (44, .iaload, 1, 0, []), (45, (.istore 4), 2, 0, []), (47, (.iload 4), 2, 0, []), (49, (.iload_n 3), 1, 0, []), (50, (.if_icmp .ne 6), 3, 56, []), (53, (.bipush (-2)), 2, 0, []), (55, .ireturn, 1, 0, []), (56, (.aload_n 0), 1, 0, []), (57, (.getfield 36), 3, 228, []), (60, (.aload_n 0), 1, 0, []), (61, (.getfield 29), 3, 227, []), (64, (.invokevirtual 109), 3, 7, []), (67, (.aload_n 0), 1, 0, []), (68, (.getfield 29), 3, 227, []), (71, (.getfield 127), 3, 1, []), (74, (.iconst 4), 1, 0, []), (75, (.iload_n 1), 1, 0, []), (76, .imul, 1, 0, []), (77, (.iload_n 2), 1, 0, []), (78, .iadd, 1, 0, []), (79, (.iload_n 3), 1, 0, []), (80, .iastore, 1, 0, []), (81, (.iload 4), 2, 0, []), (83, .ireturn, 1, 0, [])]
def q_k57 : List (Nat × q_E) := [(0, (.iload_n 1), 1, 0, []), (1, (.invokestatic 103), 3, 76, []), (4, (.ifCond .eq 23), 3, 27, []), (7, (.iload_n 2), 1, 0, []), (8, (.ifCond .lt 19), 3, 27, []), (11, (.iload_n 2), 1, 0, []), (12, (.iconst 4), 1, 0, []), (13, (.if_icmp .ge 14), 3, 27, []), (16, (.iload_n 3), 1, 0, []), (17, (.invokestatic 124), 3, 77, []), (20, (.ifCond .eq 7), 3, 27, []), (23, (.iload_n 3), 1, 0, []), (24, (.ifCond .ne 5), 3, 29, []), (27, (.iconst (-1)), 1, 0, []), (28, .ireturn, 1, 0, []), (29, (.aload_n 0), 1, 0, []), (30, (.getfield 36), 3, 228, []), (33, (.aload_n 0), 1, 0, []), (34, (.getfield 29), 3, 227, []), (37, (.invokevirtual 109), 3, 7, []), (40, (.aload_n 0), 1, 0, []), (41, (.getfield 29), 3, 227, []), (44, (.getfield 128), 3, 3, []), (47, (.iconst 4), 1, 0, []), (48, (.iload_n 1), 1, 0, []), (49, .imul, 1, 0, []), (50, (.iload_n 2), 1, 0, []), (51, .iadd, 1, 0, []), (52, .iaload, 1, 0, []), (53, (.iload_n 3), 1, 0, []), (54, .iadd, 1, 0, []), (55, (.bipush 31), 2, 0, []), (57, .irem, 1, 0, []), (58, (.istore 4), 2, 0, []), (60, (.aload_n 0), 1, 0, []), (61, (.getfield 29), 3, 227, []), (64, (.getfield 128), 3, 3, []), (67, (.iconst 4), 1, 0, []), (68, (.iload_n 1), 1, 0, []), (69, .imul, 1, 0, []), (70, (.iload_n 2), 1, 0, []), (71, .iadd, 1, 0, []), (72, (.iload 4), 2, 0, []), (74, .iastore, 1, 0, []), (75, (.iload 4), 2, 0, []), (77, .ireturn, 1, 0, [])]
def q_k58 : List (Nat × q_E) := [(0, (.aload_n 0), 1, 0, []), (1, (.getfield 29), 3, 227, []), (4, (.getfield 113), 3, 0, []), (7, (.ifCond .ne 6), 3, 13, []), (10, (.bipush (-2)), 2, 0, []), (12, .ireturn, 1, 0, []), (13, (.aload_n 0), 1, 0, []), (14, (.getfield 36), 3, 228, []), (17, (.aload_n 0), 1, 0, []), (18, (.getfield 29), 3, 227, []), (21, (.invokevirtual 109), 3, 7, []), (24, (.aload_n 0), 1, 0, []), (25, (.getfield 43), 3, 229, []), (28, (.aload_n 0), 1, 0, []), (29, (.getfield 29), 3, 227, []), (32, (.invokevirtual 131), 3, 21, []), (35, .ireturn, 1, 0, [])]
def q_k59 : List (Nat × q_E) := [(0, (.iload_n 1), 1, 0, []), (1, (.iconst 1), 1, 0, []), (2, (.if_icmp .lt 9), 3, 11, []), (5, (.iload_n 1), 1, 0, []), (6, (.bipush 20), 2, 0, []), (8, (.if_icmp .le 5), 3, 13, []), (11, (.iconst (-1)), 1, 0, []), (12, .ireturn, 1, 0, []), (13, (.aload_n 0), 1, 0, []), (14, (.getfield 29), 3, 227, []), (17, (.getfield 113), 3, 0, []), (20, (.ifCond .ne 6), 3, 26, []), (23, (.bipush (-2)), 2, 0, []), (25, .ireturn, 1, 0, []), (26, (.aload_n 0), 1, 0, []), (27, (.getfield 36), 3, 228, []), (30, (.aload_n 0), 1, 0, []), (31, (.getfield 29), 3, 227, []), (34, (.invokevirtual 109), 3, 7, []), (37, (.iconst 0), 1, 0, []), (38, (.istore_n 2), 1, 0, []), (39, (.iload_n 2), 1, 0, []), (40, (.iload_n 1), 1, 0, []), (41, (.if_icmp .ge 34), 3, 75, []), (44, (.aload_n 0), 1, 0, []), (45, (.getfield 50), 3, 230, []), (48, (.aload_n 0), 1, 0, []), (49, (.getfield 19), 3, 225, []), (52, (.aload_n 0), 1, 0, []), (53, (.getfield 29), 3, 227, []), (56, (.getfield 113), 3, 0, []), (59, (.aload_n 0), 1, 0, []), (60, (.getfield 29), 3, 227, []), (63, (.getfield 122), 3, 4, []), (66, (.invokevirtual 135), 3, 11, []), (69, (.iinc 2 1), 3, 0, []), (72, (.goto (-33)), 3, 39, []), (75, (.aload_n 0), 1, 0, []), (76, (.getfield 50), 3, 230, []), (79, (.aload_n 0), 1, 0, []), (80, (.getfield 19), 3, 225, []), (83, (.aload_n 0), 1, 0, []), (84, (.getfield 29), 3, 227, []), (87, (.invokevirtual 139), 3, 14, []), (90, (.ifCond .eq 7), 3, 97, []), (93, (.iconst 1), 1, 0, []), (94, (.goto 4), 3, 98, []), (97, (.iconst 0), 1, 0, []), (98, .ireturn, 1, 0, [])]
def q_k60 : List (Nat × q_E) := [(0, (.aload_n 0), 1, 0, []), (1, (.getfield 36), 3, 228, []), (4, (.getfield 94), 3, 34, []), (7, (.ifCond .ne 6), 3, 13, []), (10, (.bipush (-2)), 2, 0, []), (12, .ireturn, 1, 0, []), (13, (.aload_n 0), 1, 0, []), (14, (.getfield 36), 3, 228, []), (17, (.aload_n 0), 1, 0, []), (18, (.getfield 29), 3, 227, []), (21, (.invokevirtual 143), 3, 8, []), (24, (.aload_n 0), 1, 0, []), (25, (.getfield 36), 3, 228, []), (28, (.getfield 94), 3, 34, []), (31, .ireturn, 1, 0, [])]
def q_k61 : List (Nat × q_E) := [(0, (.iload_n 1), 1, 0, []), (1, (.invokestatic 103), 3, 76, []), (4, (.ifCond .eq 10), 3, 14, []), (7, (.iload_n 2), 1, 0, []), (8, (.invokestatic 103), 3, 76, []), (11, (.ifCond .ne 5), 3, 16, []), (14, (.iconst (-1)), 1, 0, []), (15, .ireturn, 1, 0, []), (16, (.iconst 4), 1, 0, []), (17, (.iload_n 1), 1, 0, []), (18, .imul, 1, 0, []), (19, (.iload_n 2), 1, 0, []), (20, .iadd, 1, 0, []), (21, (.istore 4), 2, 0, []), (23, (.iload_n 3), 1, 0, []), (24, (.tableswitch 61 0 2 #[28, 39, 50]), 28, 85, [52, 63, 74]), (52, (.aload_n 0), 1, 0, []), (53, (.getfield 29), 3, 227, []), (56, (.getfield 127), 3, 1, []), (59, (.iload 4), 2, 0, []), (61, .iaload, 1, 0, []), (62, .ireturn, 1, 0, []), (63, (.aload_n 0), 1, 0, []), (64, (.getfield 29), 3, 227, []), (67, (.getfield 146), 3, 2, []), (70, (.iload 4), 2, 0, []), (72, .iaload, 1, 0, []), (73, .ireturn, 1, 0, []), (74, (.aload_n 0), 1, 0, []), (75, (.getfield 19), 3, 225, []), (78, (.getfield 149), 3, 161, []), (81, (.iload 4), 2, 0, []), (83, .iaload, 1, 0, []), (84, .ireturn, 1, 0, []), (85, (.iconst (-1)), 1, 0, []), (86, .ireturn, 1, 0, [])]
def q_k62 : List (Nat × q_E) := [(0, (.iload_n 1), 1, 0, []), (1, (.invokestatic 103), 3, 76, []), (4, (.ifCond .ne 5), 3, 9, []), (7, (.iconst (-1)), 1, 0, []), (8, .ireturn, 1, 0, []), (9, (.iload_n 2), 1, 0, []), (10, (.tableswitch 69 0 3 #[30, 47, 57, 63]), 30, 79, [40, 57, 67, 73]), (40, (.aload_n 0), 1, 0, []), (41, (.getfield 29), 3, 227, []), (44, (.iload_n 1), 1, 0, []), (45, (.invokevirtual 106), 3, 4, []), (48, (.ifCond .eq 7), 3, 55, []), (51, (.iconst 1), 1, 0, []), (52, (.goto 4), 3, 56, []), (55, (.iconst 0), 1, 0, []), (56, .ireturn, 1, 0, []), (57, (.aload_n 0), 1, 0, []), (58, (.getfield 19), 3, 225, []), (61, (.getfield 152), 3, 163, []), (64, (.iload_n 1), 1, 0, []), (65, .iaload, 1, 0, []), (66, .ireturn, 1, 0, []), (67, (.aload_n 0), 1, 0, []), (68, (.iload_n 1), 1, 0, []), (69, (.invokevirtual 155), 3, 79, []), (72, .ireturn, 1, 0, []), (73, (.aload_n 0), 1, 0, []), (74, (.iload_n 1), 1, 0, []), (75, (.invokevirtual 158), 3, 81, []), (78, .ireturn, 1, 0, []), (79, (.iconst (-1)), 1, 0, []), (80, .ireturn, 1, 0, [])]
def q_k63 : List (Nat × q_E) := [(0, (.iload_n 1), 1, 0, []), (1, (.invokestatic 103), 3, 76, []), (4, (.ifCond .eq 12), 3, 16, []), (7, (.iload_n 2), 1, 0, []), (8, (.ifCond .lt 8), 3, 16, []), (11, (.iload_n 2), 1, 0, []), (12, (.iconst 3), 1, 0, []), (13, (.if_icmp .lt 5), 3, 18, []), (16, (.iconst (-1)), 1, 0, []), (17, .ireturn, 1, 0, []), (18, (.iload_n 3), 1, 0, []), (19, (.tableswitch 77 0 2 #[25, 39, 53]), 25, 96, [44, 58, 72]), (44, (.aload_n 0), 1, 0, []), (45, (.getfield 19), 3, 225, []), (48, (.getfield 161), 3, 162, []), (51, (.iconst 3), 1, 0, []), (52, (.iload_n 1), 1, 0, []), (53, .imul, 1, 0, []), (54, (.iload_n 2), 1, 0, []), (55, .iadd, 1, 0, []), (56, .iaload, 1, 0, []), (57, .ireturn, 1, 0, []), (58, (.aload_n 0), 1, 0, []), (59, (.getfield 29), 3, 227, []), (62, (.getfield 122), 3, 4, []), (65, (.iconst 3), 1, 0, []), (66, (.iload_n 1), 1, 0, []), (67, .imul, 1, 0, []), (68, (.iload_n 2), 1, 0, []), (69, .iadd, 1, 0, []), (70, .iaload, 1, 0, []), (71, .ireturn, 1, 0, []), (72, (.aload_n 0), 1, 0, []), (73, (.getfield 19), 3, 225, []), (76, (.aload_n 0), 1, 0, []), (77, (.getfield 29), 3, 227, []), (80, (.getfield 113), 3, 0, []), (83, (.aload_n 0), 1, 0, []), (84, (.getfield 29), 3, 227, []), (87, (.getfield 122), 3, 4, []), (90, (.iload_n 1), 1, 0, []), (91, (.iload_n 2), 1, 0, []), (92, (.invokestatic 164), 3, 10, []), (95, .ireturn, 1, 0, []), (96, (.iconst (-1)), 1, 0, []), (97, .ireturn, 1, 0, [])]
def q_k64 : List (Nat × q_E) := [(0, (.aload_n 0), 1, 0, []), (1, (.getfield 65), 3, 234, []), (4, (.iconst 0), 1, 0, []), (5, (.iload_n 1), 1, 0, []), (6, .iastore, 1, 0, []), (7, (.aload_n 0), 1, 0, []), (8, (.getfield 65), 3, 234, []), (11, (.iconst 1), 1, 0, []), (12, (.iload_n 2), 1, 0, []), (13, .iastore, 1, 0, []), (14, (.aload_n 0), 1, 0, []), (15, (.getfield 65), 3, 234, []), (18, (.iconst 2), 1, 0, []), (19, (.iload_n 3), 1, 0, []), (20, .iastore, 1, 0, []), (21, (.aload_n 0), 1, 0, []), (22, (.getfield 65), 3, 234, []), (25, (.iconst 3), 1, 0, []), (26, (.iload 4), 2, 0, []), (28, .iastore, 1, 0, []), (29, (.iconst 0), 1, 0, []), (30, (.istore 7), 2, 0, []), (32, (.iload 7), 2, 0, []), (34, (.iconst 4), 1, 0, []), (35, (.if_icmp .ge 46), 3, 81, []), (38, (.aload_n 0), 1, 0, []), (39, (.getfield 65), 3, 234, []), (42, (.iload 7), 2, 0, []), (44, .iaload, 1, 0, []), (45, (.invokestatic 124), 3, 77, []), (48, (.ifCond .eq 25), 3, 73, []), (51, (.aload_n 0), 1, 0, []), (52, (.getfield 65), 3, 234, []), (55, (.iload 7), 2, 0, []), (57, .iaload, 1, 0, []), (58, (.ifCond .eq 17), 3, 75, []), (61, (.aload_n 0), 1, 0, []), (62, (.getfield 29), 3, 227, []), (65, (.iload 7), 2, 0, []), (67, (.invokevirtual 106), 3, 4, []), (70, (.ifCond .ne 5), 3, 75, []), (73, (.iconst (-1)), 1, 0, []), (74, .ireturn, 1, 0, []), (75, (.iinc 7 1), 3, 0, []), (78, (.goto (-46)), 3, 32, []), (81, (.aload_n 0), 1, 0, []), (82, (.iload 5), 2, 0, []), (84, (.invokevirtual 168), 3, 78, []), (87, (.ifCond .eq 14), 3, 101, []), (90, (.iload 6), 2, 0, []), (92, (.ifCond .lt 9), 3, 101, []), (95, (.iload 6), 2, 0, []), (97, (.iconst 1), 1, 0, []), (98, (.if_icmp .le 5), 3, 103, []), (101, (.iconst (-1)), 1, 0, []), (102, .ireturn, 1, 0, []), (103, (.aload_n 0), 1, 0, []), (104, (.getfield 43), 3, 229, []), (107, (.aload_n 0), 1, 0, []), (108, (.getfield 29), 3, 227, []), (111, (.getfield 146), 3, 2, []), (114, (.aload_n 0), 1, 0, []), (115, (.getfield 29), 3, 227, []), (118, (.getfield 113), 3, 0, []), (121, (.aload_n 0), 1, 0, []), (122, (.getfield 65), 3, 234, []), (125, (.invokevirtual 171), 3, 24, []), (128, (.ifCond .ne 6), 3, 134, []), (131, (.bipush (-9)), 2, 0, []), (133, .ireturn, 1, 0, []), (134, (.iload 6), 2, 0, []), (136, (.ifCond .ne 16), 3, 152, []), (139, (.aload_n 0), 1, 0, []), (140, (.getfield 43), 3, 229, []), (143, (.getfield 175), 3, 97, []), (146, (.iload 5), 2, 0, []), (148, .iaload, 1, 0, []), (149, (.goto 16), 3, 165, []), (152, (.aload_n 0), 1, 0, []), (153, (.getfield 43), 3, 229, []), (156, (.aload_n 0), 1, 0, []), (157, (.getfield 29), 3, 227, []), (160, (.iload 5), 2, 0, []), (162, (.invokevirtual 178), 3, 28, []), (165, .ireturn, 1, 0, [])]
def q_k65 : List (Nat × q_E) := [(0, (.aload_n 0), 1, 0, []), (1, (.iload_n 1), 1, 0, []), (2, (.invokevirtual 168), 3, 78, []), (5, (.ifCond .eq 11), 3, 16, []), (8, (.aload_n 0), 1, 0, []), (9, (.iload_n 2), 1, 0, []), (10, (.invokevirtual 168), 3, 78, []), (13, (.ifCond .ne 5), 3, 18, []), (16, (.iconst (-1)), 1, 0, []), (17, .ireturn, 1, 0, []), (18, (.iconst 0), 1, 0, []), (19, (.istore_n 3), 1, 0, []), (20, (.iload_n 3), 1, 0, []), (21, (.iconst 4), 1, 0, []), (22, (.if_icmp .ge 25), 3, 47, []), (25, (.aload_n 0), 1, 0, []), (26, (.getfield 65), 3, 234, []), (29, (.iload_n 3), 1, 0, []), (30, (.iload_n 3), 1, 0, []), (31, (.iload_n 2), 1, 0, []), (32, (.if_icmp .ne 7), 3, 39, []), (35, (.iconst 1), 1, 0, []), (36, (.goto 4), 3, 40, []), (39, (.iconst 0), 1, 0, []), (40, .iastore, 1, 0, []), (41, (.iinc 3 1), 3, 0, []), (44, (.goto (-24)), 3, 20, []), (47, (.aload_n 0), 1, 0, []), (48, (.getfield 43), 3, 229, []), (51, (.aload_n 0), 1, 0, []), (52, (.getfield 29), 3, 227, []), (55, (.getfield 146), 3, 2, []), (58, (.aload_n 0), 1, 0, []), (59, (.getfield 29), 3, 227, []), (62, (.getfield 113), 3, 0, []), (65, (.aload_n 0), 1, 0, []), (66, (.getfield 65), 3, 234, []), (69, (.invokevirtual 171), 3, 24, []), (72, (.ifCond .eq 15), 3, 87, []), (75, (.aload_n 0), 1, 0, []), (76, (.getfield 43), 3, 229, []), (79, (.getfield 175), 3, 97, []), (82, (.iload_n 1), 1, 0, []), (83, .iaload, 1, 0, []), (84, (.goto 5), 3, 89, []), (87, (.bipush (-9)), 2, 0, []), (89, .ireturn, 1, 0, [])]
def q_k66 : List (Nat × q_E) := [(0, (.aload_n 0), 1, 0, []), (1, (.aload_n 0), 1, 0, []), (2, (.getfield 29), 3, 227, []), (5, (.getfield 113), 3, 0, []), (8, (.invokevirtual 182), 3, 83, []), (11, .ireturn, 1, 0, [])]
def q_k67 : List (Nat × q_E) := [(0, (.iload_n 1), 1, 0, []), (1, (.invokestatic 103), 3, 76, []), (4, (.ifCond .ne 5), 3, 9, []), (7, (.iconst (-1)), 1, 0, []), (8, .ireturn, 1, 0, []), (9, (.aload_n 0), 1, 0, []), (10, (.getfield 29), 3, 227, []), (13, (.iload_n 1), 1, 0, []), (14, (.invokevirtual 106), 3, 4, []), (17, (.ifCond .eq 6), 3, 23, []), (20, (.bipush (-2)), 2, 0, []), (22, .ireturn, 1, 0, []), (23, (.aload_n 0), 1, 0, []), (24, (.aload_n 0), 1, 0, []), (25, (.getfield 29), 3, 227, []), (28, (.getfield 113), 3, 0, []), (31, (.invokevirtual 182), 3, 83, []), (34, (.aload_n 0), 1, 0, []), (35, (.aload_n 0), 1, 0, []), (36, (.getfield 29), 3, 227, []), (39, (.getfield 113), 3, 0, []), (42, (.iconst 1), 1, 0, []), (43, (.iload_n 1), 1, 0, []), (44, .ishl, 1, 0, []), (45, .ior, 1, 0, []), (46, (.invokevirtual 182), 3, 83, []), (49, (.iconst (-1)), 1, 0, []), (50, .ixor, 1, 0, []), (51, .iand, 1, 0, []), (52, .ireturn, 1, 0, [])]
def q_k68 : List (Nat × q_E) := [(0, (.iload_n 1), 1, 0, []), (1, (.lookupswitch 59 #[(0, 27), (1, 43)]), 27, 60, [28, 44]), (28, (.aload_n 0), 1, 0, []), (29, (.getfield 50), 3, 230, []), (32, (.aload_n 0), 1, 0, []), (33, (.getfield 19), 3, 225, []), (36, (.aload_n 0), 1, 0, []), (37, (.getfield 29), 3, 227, []), (40, (.invokevirtual 185), 3, 15, []), (43, .ireturn, 1, 0, []), (44, (.aload_n 0), 1, 0, []), (45, (.getfield 50), 3, 230, []), (48, (.aload_n 0), 1, 0, []), (49, (.getfield 19), 3, 225, []), (52, (.aload_n 0), 1, 0, []), (53, (.getfield 29), 3, 227, []), (56, (.invokevirtual 189), 3, 16, []), (59, .ireturn, 1, 0, []), (60, (.iconst (-1)), 1, 0, []), (61, .ireturn, 1, 0, [])]
def q_k69 : List (Nat × q_E) := [(0, (.iload_n 1), 1, 0, []), (1, (.invokestatic 103), 3, 76, []), (4, (.ifCond .eq 22), 3, 26, []), (7, (.iload_n 2), 1, 0, []), (8, (.ifCond .lt 18), 3, 26, []), (11, (.iload_n 2), 1, 0, []), (12, (.bipush 16), 2, 0, []), (14, (.if_icmp .ge 12), 3, 26, []), (17, (.iload_n 3), 1, 0, []), (18, (.ifCond .lt 8), 3, 26, []), (21, (.iload_n 3), 1, 0, []), (22, (.iconst 1), 1, 0, []), (23, (.if_icmp .le 5), 3, 28, []), (26, (.iconst (-1)), 1, 0, []), (27, .ireturn, 1, 0, []), (28, (.aload_n 0), 1, 0, []), (29, (.getfield 57), 3, 231, []), (32, (.iload_n 1), 1, 0, []), (33, (.iload_n 2), 1, 0, []), (34, (.iload_n 3), 1, 0, []), (35, (.invokevirtual 192), 3, 46, []), (38, (.ifCond .eq 13), 3, 51, []), (41, (.aload_n 0), 1, 0, []), (42, (.getfield 57), 3, 231, []), (45, (.getfield 97), 3, 194, []), (48, (.goto 5), 3, 53, []), (51, (.bipush (-3)), 2, 0, []), (53, .ireturn, 1, 0, [])]
def q_k70 : List (Nat × q_E) := [(0, (.aload_n 0), 1, 0, []), (1, (.getfield 57), 3, 231, []), (4, (.getfield 97), 3, 194, []), (7, (.istore_n 1), 1, 0, []), (8, (.aload_n 0), 1, 0, []), (9, (.getfield 57), 3, 231, []), (12, (.iconst 0), 1, 0, []), (13, (.putfield 97), 3, 194, []), (16, (.iload_n 1), 1, 0, []), (17, .ireturn, 1, 0, [])]
def q_k71 : List (Nat × q_E) := [(0, (.iload_n 1), 1, 0, []), (1, (.lookupswitch 63 #[(0, 27), (1, 45)]), 27, 64, [28, 46]), (28, (.aload_n 0), 1, 0, []), (29, (.getfield 57), 3, 231, []), (32, (.aload_n 0), 1, 0, []), (33, (.getfield 29), 3, 227, []), (36, (.getfield 113), 3, 0, []), (39, (.invokevirtual 196), 3, 47, []), (42, (.invokestatic 116), 3, 148, []), (45, .ireturn, 1, 0, []), (46, (.aload_n 0), 1, 0, []), (47, (.getfield 57), 3, 231, []), (50, (.aload_n 0), 1, 0, []), (51, (.getfield 29), 3, 227, []), (54, (.getfield 113), 3, 0, []), (57, (.invokevirtual 196), 3, 47, []), (60, (.invokestatic 199), 3, 48, []), (63, .ireturn, 1, 0, []), (64, (.iconst (-1)), 1, 0, []), (65, .ireturn, 1, 0, [])]
def q_k72 : List (Nat × q_E) := [(0, (.aload_n 0), 1, 0, []), (1, (.getfield 57), 3, 231, []), (4, (.aload_n 0), 1, 0, []), (5, (.getfield 29), 3, 227, []), (8, (.getfield 113), 3, 0, []), (11, (.invokevirtual 202), 3, 49, []), (14, .ireturn, 1, 0, [])]
def q_k73 : List (Nat × q_E) := [(0, (.iload_n 1), 1, 0, []), (1, (.ifCond .lt 8), 3, 9, []), (4, (.iload_n 1), 1, 0, []), (5, (.iconst 2), 1, 0, []), (6, (.if_icmp .lt 5), 3, 11, []), (9, (.iconst (-1)), 1, 0, []), (10, .ireturn, 1, 0, []), (11, (.aload_n 0), 1, 0, []), (12, (.getfield 61), 3, 232, []), (15, (.iload_n 1), 1, 0, []), (16, .aaload, 1, 0, []), (17, (.aload_n 0), 1, 0, []), (18, (.getfield 29), 3, 227, []), (21, (.invokevirtual 205), 3, 2, []), (24, (.aload_n 0), 1, 0, []), (25, .dup, 1, 0, []), (26, (.getfield 100), 3, 233, []), (29, (.iconst 1), 1, 0, []), (30, (.iload_n 1), 1, 0, []), (31, .ishl, 1, 0, []), (32, .ior, 1, 0, []), (33, (.putfield 100), 3, 233, []), (36, (.aload_n 0), 1, 0, []), (37, (.getfield 29), 3, 227, []), (40, (.getfield 113), 3, 0, []), (43, (.invokestatic 116), 3, 148, []), (46, .ireturn, 1, 0, [])]
def q_k74 : List (Nat × q_E) := [(0, (.iload_n 1), 1, 0, []), (1, (.ifCond .lt 8), 3, 9, []), (4, (.iload_n 1), 1, 0, []), (5, (.iconst 2), 1, 0, []), (6, (.if_icmp .lt 5), 3, 11, []), (9, (.iconst (-1)), 1, 0, []), (10, .ireturn, 1, 0, []), (11, (.aload_n 0), 1, 0, []), (12, (.getfield 100), 3, 233, []), (15, (.iload_n 1), 1, 0, []), (16, .ishr, 1, 0, []), (17, (.iconst 1), 1, 0, []), (18, .iand, 1, 0, []), (19, (.ifCond .ne 6), 3, 25, []), (22, (.bipush (-2)), 2, 0, []), (24, .ireturn, 1, 0, []), (25, (.aload_n 0), 1, 0, []), (26, (.getfield 29), 3, 227, []), (29, (.aload_n 0), 1, 0, []), (30, (.getfield 61), 3, 232, []), (33, (.iload_n 1), 1, 0, []), (34, .aaload, 1, 0, []), (35, (.invokevirtual 205), 3, 2, []), (38, (.aload_n 0), 1, 0, []), (39, (.getfield 36), 3, 228, []), (42, (.iconst 0), 1, 0, []), (43, (.putfield 94), 3, 34, []), (46, (.aload_n 0), 1, 0, []), (47, (.getfield 29), 3, 227, []), (50, (.getfield 113), 3, 0, []), (53, (.invokestatic 116), 3, 148, []), (56, .ireturn, 1, 0, [])]
def q_k75 : List (Nat × q_E) := [(0, (.iload_n 1), 1, 0, []), (1, (.tableswitch 121 0 7 #[47, 55, 60, 68, 73, 97, 105, 113]), 47, 122, [48, 56, 61, 69, 74, 98, 106, 114]), (48, (.aload_n 0), 1, 0, []), (49, (.getfield 29), 3, 227, []), (52, (.getfield 113), 3, 0, []), (55, .ireturn, 1, 0, []), (56, (.aload_n 0), 1, 0, []), (57, (.invokevirtual 208), 3, 82, []), (60, .ireturn, 1, 0, []), (61, (.aload_n 0), 1, 0, []), (62, (.getfield 19), 3, 225, []), (65, (.getfield 211), 3, 164, []), (68, .ireturn, 1, 0, []), (69, (.aload_n 0), 1, 0, []), (70, (.invokevirtual 214), 3, 80, []), (73, .ireturn, 1, 0, []), (74, (.aload_n 0), 1, 0, []), (75, (.getfield 50), 3, 230, []), (78, (.aload_n 0), 1, 0, []), (79, (.getfield 19), 3, 225, []), (82, (.aload_n 0), 1, 0, []), (83, (.getfield 29), 3, 227, []), (86, (.invokevirtual 139), 3, 14, []), (89, (.ifCond .eq 7), 3, 96, []), (92, (.iconst 1), 1, 0, []), (93, (.goto 4), 3, 97, []), (96, (.iconst 0), 1, 0, []), (97, .ireturn, 1, 0, []), (98, (.aload_n 0), 1, 0, []), (99, (.getfield 57), 3, 231, []), (102, (.getfield 97), 3, 194, []), (105, .ireturn, 1, 0, []), (106, (.aload_n 0), 1, 0, []), (107, (.getfield 12), 3, 224, []), (110, (.getfield 82), 3, 129, []), (113, .ireturn, 1, 0, []), (114, (.aload_n 0), 1, 0, []), (115, (.getfield 36), 3, 228, []), (118, (.getfield 94), 3, 34, []), (121, .ireturn, 1, 0, []), (122, (.iconst (-1)), 1, 0, []), (123, .ireturn, 1, 0, [])]
def q_k76 : List (Nat × q_E) := [(0, (.iload_n 0), 1, 0, []), (1, (.ifCond .lt 12), 3, 13, []), (4, (.iload_n 0), 1, 0, []), (5, (.iconst 4), 1, 0, []), (6, (.if_icmp .ge 7), 3, 13, []), (9, (.iconst 1), 1, 0, []), (10, (.goto 4), 3, 14, []), (13, (.iconst 0), 1, 0, []), (14, .ireturn, 1, 0, [])]
def q_k77 : List (Nat × q_E) := [(0, (.iload_n 0), 1, 0, []), (1, (.ifCond .lt 13), 3, 14, []), (4, (.iload_n 0), 1, 0, []), (5, (.bipush 31), 2, 0, []), (7, (.if_icmp .ge 7), 3, 14, []), (10, (.iconst 1), 1, 0, []), (11, (.goto 4), 3, 15, []), (14, (.iconst 0), 1, 0, []), (15, .ireturn, 1, 0, [])]
def q_k78 : List (Nat × q_E) := [(0, (.iload_n 1), 1, 0, []), (1, (.invokestatic 103), 3, 76, []), (4, (.ifCond .eq 18), 3, 22, []), (7, (.aload_n 0), 1, 0, []), (8, (.getfield 29), 3, 227, []), (11, (.iload_n 1), 1, 0, []), (12, (.invokevirtual 106), 3, 4, []), (15, (.ifCond .eq 7), 3, 22, []), (18, (.iconst 1), 1, 0, []), (19, (.goto 4), 3, 23, []), (22, (.iconst 0), 1, 0, []), (23, .ireturn, 1, 0, [])]
def q_k79 : List (Nat × q_E) := [(0, (.iconst 0), 1, 0, []), (1, (.istore_n 2), 1, 0, []), (2, (.iconst 0), 1, 0, []), (3, (.istore_n 3), 1, 0, []), (4, (.iload_n 3), 1, 0, []), (5, (.iconst 3), 1, 0, []), (6, (.if_icmp .ge 25), 3, 31, []), (9, (.iload_n 2), 1, 0, []), (10, (.aload_n 0), 1, 0, []), (11, (.getfield 29), 3, 227, []), (14, (.getfield 122), 3, 4, []), (17, (.iconst 3), 1, 0, []), (18, (.iload_n 1), 1, 0, []), (19, .imul, 1, 0, []), (20, (.iload_n 3), 1, 0, []), (21, .iadd, 1, 0, []), (22, .iaload, 1, 0, []), (23, .iadd, 1, 0, []), (24, (.istore_n 2), 1, 0, []), (25, (.iinc 3 1), 3, 0, []), (28, (.goto (-24)), 3, 4, []), (31, (.iload_n 2), 1, 0, []), (32, .ireturn, 1, 0, [])]
def q_k80 : List (Nat × q_E) := [(0, (.iconst 0), 1, 0, []), (1, (.istore_n 1), 1, 0, []), (2, (.iconst 0), 1, 0, []), (3, (.istore_n 2), 1, 0, []), (4, (.iload_n 2), 1, 0, []), (5, (.iconst 4), 1, 0, []), (6, (.if_icmp .ge 17), 3, 23, []), (9, (.iload_n 1), 1, 0, []), (10, (.aload_n 0), 1, 0, []), (11, (.iload_n 2), 1, 0, []), (12, (.invokevirtual 155), 3, 79, []), (15, .iadd, 1, 0, []), (16, (.istore_n 1), 1, 0, []), (17, (.iinc 2 1), 3, 0, []), (20, (.goto (-16)), 3, 4, []), (23, (.iload_n 1), 1, 0, []), (24, .ireturn, 1, 0, [])]
def q_k81 : List (Nat × q_E) := [(0, (.iconst 0), 1, 0, []), (1, (.istore_n 2), 1, 0, []), (2, (.iconst 0), 1, 0, []), (3, (.istore_n 3), 1, 0, []), (4, (.iload_n 3), 1, 0, []), (5, (.iconst 3), 1, 0, []), (6, (.if_icmp .ge 35), 3, 41, []), (9, (.iload_n 2), 1, 0, []), (10, (.aload_n 0), 1, 0, []), (11, (.getfield 19), 3, 225, []), (14, (.aload_n 0), 1, 0, []), (15, (.getfield 29), 3, 227, []), (18, (.getfield 113), 3, 0, []), (21, (.aload_n 0), 1, 0, []), (22, (.getfield 29), 3, 227, []), (25, (.getfield 122), 3, 4, []), (28, (.iload_n 1), 1, 0, []), (29, (.iload_n 3), 1, 0, []), (30, (.invokestatic 164), 3, 10, []), (33, .iadd, 1, 0, []), (34, (.istore_n 2), 1, 0, []), (35, (.iinc 3 1), 3, 0, []), (38, (.goto (-34)), 3, 4, []), (41, (.iload_n 2), 1, 0, []), (42, .ireturn, 1, 0, [])]
def q_k82 : List (Nat × q_E) := [(0, (.iconst 0), 1, 0, []), (1, (.istore_n 1), 1, 0, []), (2, (.iconst 0), 1, 0, []), (3, (.istore_n 2), 1, 0, []), (4, (.iload_n 2), 1, 0, []), (5, (.iconst 4), 1, 0, []), (6, (.if_icmp .ge 38), 3, 44, []), (9, (.aload_n 0), 1, 0, []), (10, (.getfield 29), 3, 227, []), (13, (.iload_n 2), 1, 0, []), (14, (.invokevirtual 106), 3, 4, []), (17, (.ifCond .eq 21), 3, 38, []), (20, (.iload_n 1), 1, 0, []), (21, (.aload_n 0), 1, 0, []), (22, (.getfield 29), 3, 227, []), (25, (.iload_n 2), 1, 0, []), (26, (.aload_n 0), 1, 0, []), (27, (.getfield 29), 3, 227, []), (30, (.getfield 113), 3, 0, []), (33, (.invokevirtual 217), 3, 5, []), (36, .iadd, 1, 0, []), (37, (.istore_n 1), 1, 0, []), (38, (.iinc 2 1), 3, 0, []), (41, (.goto (-37)), 3, 4, []), (44, (.iload_n 1), 1, 0, []), (45, .ireturn, 1, 0, [])]
def q_k83 : List (Nat × q_E) := [(0, (.iconst 0), 1, 0, []), (1, (.istore_n 2), 1, 0, []), (2, (.iload_n 2), 1, 0, []), (3, (.iconst 4), 1, 0, []), (4, (.if_icmp .ge 16), 3, 20, []), (7, (.aload_n 0), 1, 0, []), (8, (.getfield 65), 3, 234, []), (11, (.iload_n 2), 1, 0, []), (12, (.iconst 0), 1, 0, []), (13, .iastore, 1, 0, []), (14, (.iinc 2 1), 3, 0, []), (17, (.goto (-15)), 3, 2, []), (20, (.aload_n 0), 1, 0, []), (21, (.getfield 43), 3, 229, []), (24, (.aload_n 0), 1, 0, []), (25, (.getfield 29), 3, 227, []), (28, (.getfield 146), 3, 2, []), (31, (.iload_n 1), 1, 0, []), (32, (.aload_n 0), 1, 0, []), (33, (.getfield 65), 3, 234, []), (36, (.invokevirtual 171), 3, 24, []), (39, (.ifCond .ne 5), 3, 44, []), (42, (.iconst 0), 1, 0, []), (43, .ireturn, 1, 0, []), (44, (.iconst 0), 1, 0, []), (45, (.istore_n 2), 1, 0, []), (46, (.iconst 0), 1, 0, []), (47, (.istore_n 3), 1, 0, []), (48, (.iload_n 3), 1, 0, []), (49, (.iconst 4), 1, 0, []), (50, (.if_icmp .ge 36), 3, 86, []), (53, (.iload_n 1), 1, 0, []), (54, (.iload_n 3), 1, 0, []), (55, .ishr, 1, 0, []), (56, (.iconst 1), 1, 0, []), (57, .iand, 1, 0, []), (58, (.iconst 1), 1, 0, []), (59, (.if_icmp .ne 21), 3, 80, []), (62, (.aload_n 0), 1, 0, []), (63, (.getfield 29), 3, 227, []), (66, (.iload_n 3), 1, 0, []), (67, (.iload_n 1), 1, 0, []), (68, (.invokevirtual 217), 3, 5, []), (71, (.ifCond .ne 9), 3, 80, []), (74, (.iload_n 2), 1, 0, []), (75, (.iconst 1), 1, 0, []), (76, (.iload_n 3), 1, 0, []), (77, .ishl, 1, 0, []), (78, .ior, 1, 0, []), (79, (.istore_n 2), 1, 0, []), (80, (.iinc 3 1), 3, 0, []), (83, (.goto (-35)), 3, 48, []), (86, (.iload_n 2), 1, 0, []), (87, .ireturn, 1, 0, [])]
def q_k84 : List (Nat × q_E) := [(0, (.aload_n 0), 1, 0, []), (1, (.invokespecial 1), 3, 999, []), (4, (.aload_n 0), 1, 0, []), (5, (.bipush 49), 2, 0, []), (7, (.newarray .int), 2, 9, []), (9, (.putfield 7), 3, 256, []), (12, (.aload_n 0), 1, 0, []), (13, (.bipush 49), 2, 0, []), (15, (.newarray .int), 2, 9, []), (17, (.putfield 13), 3, 257, []), (20, (.aload_n 0), 1, 0, []), (21, (.bipush 61), 2, 0, []), (23, (.newarray .int), 2, 9, []), (25, (.putfield 16), 3, 258, []), (28, (.aload_n 0), 1, 0, []), (29, (.sipush 366), 3, 0, []), (32, (.newarray .int), 2, 9, []), (34, (.putfield 19), 3, 259, []), (37, (.aload_n 0), 1, 0, []), (38, (.bipush 122), 2, 0, []), (40, (.newarray .int), 2, 9, []), (42, (.putfield 22), 3, 261, []), (45, (.aload_n 0), 1, 0, []), (46, (.iconst 2), 1, 0, []), (47, (.newarray .boolean), 2, 10, []), (49, (.putfield 25), 3, 262, []), (52, (.aload_n 0), 1, 0, []), (53, (.bipush 12), 2, 0, []), (55, (.newarray .int), 2, 9, []), (57, (.putfield 29), 3, 263, []), (60, (.aload_n 0), 1, 0, []), (61, (.bipush 12), 2, 0, []), (63, (.newarray .int), 2, 9, []), (65, (.putfield 32), 3, 264, []), (68, (.aload_n 0), 1, 0, []), (69, (.bipush 32), 2, 0, []), (71, (.newarray .int), 2, 9, []), (73, (.putfield 35), 3, 265, []), (76, (.aload_n 0), 1, 0, []), (77, (.bipush 8), 2, 0, []), (79, (.newarray .int), 2, 9, []), (81, (.putfield 38), 3, 267, []), (84, (.aload_n 0), 1, 0, []), (85, (.bipush 8), 2, 0, []), (87, (.newarray .int), 2, 9, []), (89, (.putfield 41), 3, 268, []), (92, (.aload_n 0), 1, 0, []), (93, (.bipush 8), 2, 0, []), (95, (.newarray .int), 2, 9, []), (97, (.putfield 44), 3, 269, []), (100, (.aload_n 0), 1, 0, []), (101, (.sipush 160), 3, 0, []), (104, (.newarray .int), 2, 9, []), (106, (.putfield 47), 3, 270, []), (109, (.aload_n 0), 1, 0, []), (110, (.getfield 7), 3, 256, []), (113, (.invokestatic 50), 3, 90, []), (116, (.aload_n 0), 1, 0, []), (117, (.invokevirtual 54), 3, 91, []), (120, .return_, 1, 0, [])]
def q_k85 : List (Nat × q_E) := [(0, (.iload_n 0), 1, 0, []), (1, (.iload_n 1), 1, 0, []), (2, (.if_icmp .lt 12), 3, 14, []), (5, (.iload_n 0), 1, 0, []), (6, (.iload_n 2), 1, 0, []), (7, (.if_icmp .gt 7), 3, 14, []), (10, (.iconst 1), 1, 0, []), (11, (.goto 4), 3, 15, []), (14, (.iconst 0), 1, 0, []), (15, .ireturn, 1, 0, [])]
def q_k86 : List (Nat × q_E) := [(0, (.iload_n 0), 1, 0, []), (1, (.iload_n 1), 1, 0, []), (2, .ishr, 1, 0, []), (3, (.iconst 1), 1, 0, []), (4, .iand, 1, 0, []), (5, (.iconst 1), 1, 0, []), (6, (.if_icmp .ne 7), 3, 13, []), (9, (.iconst 1), 1, 0, []), (10, (.goto 4), 3, 14, []), (13, (.iconst 0), 1, 0, []), (14, .ireturn, 1, 0, [])]
def q_k87 : List (Nat × q_E) := [(0, (.iload_n 0), 1, 0, []), (1, (.iconst 0), 1, 0, []), (2, (.iconst 3), 1, 0, []), (3, (.invokestatic 57), 3, 85, []), (6, .ireturn, 1, 0, [])]
def q_k88 : List (Nat × q_E) := [(0, (.iload_n 1), 1, 0, []), (1, (.invokestatic 61), 3, 87, []), (4, (.ifCond .eq 20), 3, 24, []), (7, (.aload_n 0), 1, 0, []), (8, (.getfield 16), 3, 258, []), (11, (.iconst 0), 1, 0, []), (12, .iaload, 1, 0, []), (13, (.iload_n 1), 1, 0, []), (14, (.invokestatic 65), 3, 86, []), (17, (.ifCond .eq 7), 3, 24, []), (20, (.iconst 1), 1, 0, []), (21, (.goto 4), 3, 25, []), (24, (.iconst 0), 1, 0, []), (25, .ireturn, 1, 0, [])]
def q_k89 : List (Nat × q_E) := [(0, (.iconst 0), 1, 0, []), (1, (.istore_n 1), 1, 0, []), (2, (.iconst 0), 1, 0, []), (3, (.istore_n 2), 1, 0, []), (4, (.iload_n 2), 1, 0, []), (5, (.iconst 4), 1, 0, []), (6, (.if_icmp .ge 25), 3, 31, []), (9, (.iload_n 1), 1, 0, []), (10, (.iload_n 0), 1, 0, []), (11, (.iload_n 2), 1, 0, []), (12, (.invokestatic 65), 3, 86, []), (15, (.ifCond .eq 7), 3, 22, []), (18, (.iconst 1), 1, 0, []), (19, (.goto 4), 3, 23, []), (22, (.iconst 0), 1, 0, []), (23, .iadd, 1, 0, []), (24, (.istore_n 1), 1, 0, []), (25, (.iinc 2 1), 3, 0, []), (28, (.goto (-24)), 3, 4, []), (31, (.iload_n 1), 1, 0, []), (32, .ireturn, 1, 0, [])]
def q_k90 : List (Nat × q_E) := [(0, (.iconst 0), 1, 0, []), (1, (.istore_n 1), 1, 0, []), (2, (.iload_n 1), 1, 0, []), (3, (.bipush 49), 2, 0, []), (5, (.if_icmp .ge 29), 3, 34, []), (8, (.aload_n 0), 1, 0, []), (9, (.iload_n 1), 1, 0, []), (10, (.iload_n 1), 1, 0, []), (11, (.bipush 16), 2, 0, []), (13, (.if_icmp .ge 13), 3, 26, []), (16, (.iload_n 1), 1, 0, []), (17, (.iconst 5), 1, 0, []), (18, .irem, 1, 0, []), (19, (.ifCond .ne 7), 3, 26, []), (22, (.iconst 1), 1, 0, []), (23, (.goto 4), 3, 27, []), (26, (.iconst 0), 1, 0, []), (27, .iastore, 1, 0, []), (28, (.iinc 1 1), 3, 0, []), (31, (.goto (-29)), 3, 2, []), (34, (.iconst 0), 1, 0, []), (35, (.istore_n 1), 1, 0, []), (36, (.iload_n 1), 1, 0, []), (37, (.iconst 4), 1, 0, []), (38, (.if_icmp .ge 16), 3, 54, []), (41, (.aload_n 0), 1, 0, []), (42, (.bipush 44), 2, 0, []), (44, (.iload_n 1), 1, 0, []), (45, .iadd, 1, 0, []), (46, (.iconst 4), 1, 0, []), (47, .iastore, 1, 0, []), (48, (.iinc 1 1), 3, 0, []), (51, (.goto (-15)), 3, 36, []), (54, (.aload_n 0), 1, 0, []), (55, (.bipush 48), 2, 0, []), (57, (.bipush 12), 2, 0, []), (59, .iastore, 1, 0, []), (60, .return_, 1, 0, [])]
def q_k91 : List (Nat × q_E) := [(0, (.iconst 0), 1, 0, []), (1, (.istore_n 1), 1, 0, []), (2, (.iload_n 1), 1, 0, []), (3, (.bipush 61), 2, 0, []), (5, (.if_icmp .ge 16), 3, 21, []), (8, (.aload_n 0), 1, 0, []), (9, (.getfield 16), 3, 258, []), (12, (.iload_n 1), 1, 0, []), (13, (.iconst 0), 1, 0, []), (14, .iastore, 1, 0, []), (15, (.iinc 1 1), 3, 0, []), (18, (.goto (-16)), 3, 2, []), (21, (.iconst 0), 1, 0, []), (22, (.istore_n 1), 1, 0, []), (23, (.iload_n 1), 1, 0, []), (24, (.bipush 16), 2, 0, []), (26, (.if_icmp .ge 43), 3, 69, []), (29, (.aload_n 0), 1, 0, []), (30, (.getfield 16), 3, 258, []), (33, (.iconst 1), 1, 0, []), (34, (.iload_n 1), 1, 0, []), (35, .iadd, 1, 0, []), (36, (.aload_n 0), 1, 0, []), (37, (.getfield 7), 3, 256, []), (40, (.iload_n 1), 1, 0, []), (41, .iaload, 1, 0, []), (42, .iastore, 1, 0, []), (43, (.aload_n 0), 1, 0, []), (44, (.getfield 16), 3, 258, []), (47, (.bipush 17), 2, 0, []), (49, (.iload_n 1), 1, 0, []), (50, .iadd, 1, 0, []), (51, (.iload_n 1), 1, 0, []), (52, (.iconst 5), 1, 0, []), (53, .irem, 1, 0, []), (54, (.ifCond .ne 7), 3, 61, []), (57, (.iconst 1), 1, 0, []), (58, (.goto 4), 3, 62, []), (61, (.iconst 0), 1, 0, []), (62, .iastore, 1, 0, []), (63, (.iinc 1 1), 3, 0, []), (66, (.goto (-43)), 3, 23, []), (69, (.aload_n 0), 1, 0, []), (70, (.iconst 0), 1, 0, []), (71, (.putfield 69), 3, 260, []), (74, (.aload_n 0), 1, 0, []), (75, (.iconst 0), 1, 0, []), (76, (.putfield 73), 3, 266, []), (79, (.aload_n 0), 1, 0, []), (80, (.getfield 25), 3, 262, []), (83, (.iconst 0), 1, 0, []), (84, (.iconst 0), 1, 0, []), (85, .bastore, 1, 0, []), (86, (.aload_n 0), 1, 0, []), (87, (.getfield 25), 3, 262, []), (90, (.iconst 1), 1, 0, []), (91, (.iconst 0), 1, 0, []), (92, .bastore, 1, 0, []), (93, .return_, 1, 0, [])]
def q_k92 : List (Nat × q_E) := [(0, (.iload_n 0), 1, 0, []), (1, (.bipush 31), 2, 0, []), (3, .irem, 1, 0, []), (4, (.istore_n 1), 1, 0, []), (5, (.iload_n 1), 1, 0, []), (6, (.ifCond .ge 10), 3, 16, []), (9, (.iload_n 1), 1, 0, []), (10, (.bipush 31), 2, 0, []), (12, .iadd, 1, 0, []), (13, (.goto 4), 3, 17, []), (16, (.iload_n 1), 1, 0, []), (17, .ireturn, 1, 0, [])]
def q_k93 : List (Nat × q_E) := [(0, (.iconst 0), 1, 0, []), (1, (.istore_n 2), 1, 0, []), (2, (.iload_n 2), 1, 0, []), (3, (.iload_n 1), 1, 0, []), (4, .imul, 1, 0, []), (5, (.invokestatic 76), 3, 92, []), (8, (.iload_n 0), 1, 0, []), (9, (.if_icmp .eq 9), 3, 18, []), (12, (.iinc 2 1), 3, 0, []), (15, (.goto (-13)), 3, 2, []), (18, (.iload_n 2), 1, 0, []), (19, .ireturn, 1, 0, [])]
def q_k94 : List (Nat × q_E) := [(0, (.iload_n 0), 1, 0, []), (1, (.iload_n 1), 1, 0, []), (2, .iand, 1, 0, []), (3, (.istore_n 2), 1, 0, []), (4, (.iload_n 2), 1, 0, []), (5, (.iconst 1), 1, 0, []), (6, .iand, 1, 0, []), (7, (.iload_n 2), 1, 0, []), (8, (.iconst 1), 1, 0, []), (9, .ishr, 1, 0, []), (10, (.iconst 1), 1, 0, []), (11, .iand, 1, 0, []), (12, (.if_icmp .ne 7), 3, 19, []), (15, (.iconst 1), 1, 0, []), (16, (.goto 5), 3, 21, []), (19, (.bipush 30), 2, 0, []), (21, .ireturn, 1, 0, [])]
def q_k95 : List (Nat × q_E) := [(0, (.aload_n 0), 1, 0, []), (1, (.getfield 69), 3, 260, []), (4, (.bipush 6), 2, 0, []), (6, (.if_icmp .ne 43), 3, 49, []), (9, (.iconst 0), 1, 0, []), (10, (.istore_n 1), 1, 0, []), (11, (.iload_n 1), 1, 0, []), (12, (.sipush 305), 3, 0, []), (15, (.if_icmp .ge 24), 3, 39, []), (18, (.aload_n 0), 1, 0, []), (19, (.getfield 19), 3, 259, []), (22, (.iload_n 1), 1, 0, []), (23, (.aload_n 0), 1, 0, []), (24, (.getfield 19), 3, 259, []), (27, (.iload_n 1), 1, 0, []), (28, (.bipush 61), 2, 0, []), (30, .iadd, 1, 0, []), (31, .iaload, 1, 0, []), (32, .iastore, 1, 0, []), (33, (.iinc 1 1), 3, 0, []), (36, (.goto (-25)), 3, 11, []), (39, (.aload_n 0), 1, 0, []), (40, .dup, 1, 0, []), (41, (.getfield 69), 3, 260, []), (44, (.iconst 1), 1, 0, []), (45, .isub, 1, 0, []), (46, (.putfield 69), 3, 260, []), (49, (.iconst 0), 1, 0, []), (50, (.istore_n 1), 1, 0, []), (51, (.iload_n 1), 1, 0, []), (52, (.bipush 61), 2, 0, []), (54, (.if_icmp .ge 29), 3, 83, []), (57, (.aload_n 0), 1, 0, []), (58, (.getfield 19), 3, 259, []), (61, (.bipush 61), 2, 0, []), (63, (.aload_n 0), 1, 0, []), (64, (.getfield 69), 3, 260, []), (67, .imul, 1, 0, []), (68, (.iload_n 1), 1, 0, []), (69, .iadd, 1, 0, []), (70, (.aload_n 0), 1, 0, []), (71, (.getfield 16), 3, 258, []), (74, (.iload_n 1), 1, 0, []), (75, .iaload, 1, 0, []), (76, .iastore, 1, 0, []), (77, (.iinc 1 1), 3, 0, []), (80, (.goto (-29)), 3, 51, []), (83, (.aload_n 0), 1, 0, []), (84, .dup, 1, 0, []), (85, (.getfield 69), 3, 260, []), (88, (.iconst 1), 1, 0, []), (89, .iadd, 1, 0, []), (90, (.putfield 69), 3, 260, []), (93, .return_, 1, 0, [])]
def q_k96 : List (Nat × q_E) := [(0, (.iload_n 1), 1, 0, []), (1, (.invokestatic 61), 3, 87, []), (4, (.ifCond .ne 5), 3, 9, []), (7, (.iconst (-1)), 1, 0, []), (8, .ireturn, 1, 0, []), (9, (.aload_n 0), 1, 0, []), (10, (.iload_n 1), 1, 0, []), (11, (.invokevirtual 80), 3, 88, []), (14, (.ifCond .eq 6), 3, 20, []), (17, (.bipush (-2)), 2, 0, []), (19, .ireturn, 1, 0, []), (20, (.aload_n 0), 1, 0, []), (21, (.invokevirtual 83), 3, 95, []), (24, (.aload_n 0), 1, 0, []), (25, (.getfield 16), 3, 258, []), (28, (.iconst 0), 1, 0, []), (29, .dup2, 1, 0, []), (30, .iaload, 1, 0, []), (31, (.iconst 1), 1, 0, []), (32, (.iload_n 1), 1, 0, []), (33, .ishl, 1, 0, []), (34, .ior, 1, 0, []), (35, .iastore, 1, 0, []), (36, (.aload_n 0), 1, 0, []), (37, (.getfield 16), 3, 258, []), (40, (.iconst 0), 1, 0, []), (41, .iaload, 1, 0, []), (42, (.invokestatic 86), 3, 89, []), (45, .ireturn, 1, 0, [])]
def q_k97 : List (Nat × q_E) := [(0, (.iload_n 1), 1, 0, []), (1, (.invokestatic 61), 3, 87, []), (4, (.ifCond .ne 5), 3, 9, []), (7, (.iconst (-1)), 1, 0, []), (8, .ireturn, 1, 0, []), (9, (.aload_n 0), 1, 0, []), (10, (.iload_n 1), 1, 0, []), (11, (.invokevirtual 80), 3, 88, []), (14, (.ifCond .ne 6), 3, 20, []), (17, (.bipush (-2)), 2, 0, []), (19, .ireturn, 1, 0, []), (20, (.aload_n 0), 1, 0, []), (21, (.invokevirtual 83), 3, 95, []), (24, (.aload_n 0), 1, 0, []), (25, (.getfield 16), 3, 258, []), (28, (.iconst 0), 1, 0, []), (29, .dup2, 1, 0, []), (30, .iaload, 1, 0, []), (31, (.iconst 1), 1, 0, []), (32, (.iload_n 1), 1, 0, []), (33, .ishl, 1, 0, []), (34, (.iconst (-1)), 1, 0, []), (35, .ixor, 1, 0, []), (36, .iand, 1, 0, []), (37, .iastore, 1, 0, []), (38, (.aload_n 0), 1, 0, []), (39, (.iload_n 1), 1, 0, []), (40, (.invokevirtual 89), 3, 102, []), (43, (.aload_n 0), 1, 0, []), (44, (.getfield 16), 3, 258, []), (47, (.iconst 0), 1, 0, []), (48, .iaload, 1, 0, []), (49, (.invokestatic 86), 3, 89, []), (52, .ireturn, 1, 0, [])]
def q_k98 : List (Nat × q_E) := [(0, (.iload_n 1), 1, 0, []), (1, (.invokestatic 61), 3, 87, []), (4, (.ifCond .eq 29), 3, 33, []), (7, (.iload_n 2), 1, 0, []), (8, (.invokestatic 61), 3, 87, []), (11, (.ifCond .eq 22), 3, 33, []), (14, (.iload_n 3), 1, 0, []), (15, (.iload_n 1), 1, 0, []), (16, (.iload_n 2), 1, 0, []), (17, (.if_icmp .ne 7), 3, 24, []), (20, (.iconst 1), 1, 0, []), (21, (.goto 4), 3, 25, []), (24, (.iconst 0), 1, 0, []), (25, (.bipush 30), 2, 0, []), (27, (.invokestatic 57), 3, 85, []), (30, (.ifCond .ne 5), 3, 35, []), (33, (.iconst (-1)), 1, 0, []), (34, .ireturn, 1, 0, []), (35, (.aload_n 0), 1, 0, []), (36, (.getfield 16), 3, 258, []), (39, (.iconst 1), 1, 0, []), (40, (.iconst 4), 1, 0, []), (41, (.iload_n 1), 1, 0, []), (42, .imul, 1, 0, []), (43, .iadd, 1, 0, []), (44, (.iload_n 2), 1, 0, []), (45, .iadd, 1, 0, []), (46, .iaload, 1, 0, []), (47, (.istore 4), 2, 0, []), (49, (.iload 4), 2, 0, []), (51, (.iload_n 3), 1, 0, []), (52, (.if_icmp .ne 6), 3, 58, []), (55, (.bipush (-2)), 2, 0, []), (57, .ireturn, 1, 0, []), (58, (.aload_n 0), 1, 0, []), (59, (.invokevirtual 83), 3, 95, []), (62, (.aload_n 0), 1, 0, []), (63, (.getfield 16), 3, 258, []), (66, (.iconst 1), 1, 0, []), (67, (.iconst 4), 1, 0, []), (68, (.iload_n 1), 1, 0, []), (69, .imul, 1, 0, []), (70, .iadd, 1, 0, []), (71, (.iload_n 2), 1, 0, []), (72, .iadd, 1, 0, []), (73, (.iload_n 3), 1, 0, []), (74, .iastore, 1, 0, []), (75, (.iload 4), 2, 0, []), (77, .ireturn, 1, 0, [])]
def q_k99 : List (Nat × q_E) := [(0, (.iload_n 1), 1, 0, []), (1, (.invokestatic 61), 3, 87, []), (4, (.ifCond .eq 22), 3, 26, []), (7, (.iload_n 2), 1, 0, []), (8, (.iconst 0), 1, 0, []), (9, (.iconst 3), 1, 0, []), (10, (.invokestatic 57), 3, 85, []), (13, (.ifCond .eq 13), 3, 26, []), (16, (.iload_n 3), 1, 0, []), (17, (.iconst 1), 1, 0, []), (18, (.bipush 30), 2, 0, []), (20, (.invokestatic 57), 3, 85, []), (23, (.ifCond .ne 5), 3, 28, []), (26, (.iconst (-1)), 1, 0, []), (27, .ireturn, 1, 0, []), (28, (.aload_n 0), 1, 0, []), (29, (.invokevirtual 83), 3, 95, []), (32, (.aload_n 0), 1, 0, []), (33, (.getfield 16), 3, 258, []), (36, (.bipush 45), 2, 0, []), (38, (.iconst 4), 1, 0, []), (39, (.iload_n 1), 1, 0, []), (40, .imul, 1, 0, []), (41, .iadd, 1, 0, []), (42, (.iload_n 2), 1, 0, []), (43, .iadd, 1, 0, []), (44, (.aload_n 0), 1, 0, []), (45, (.getfield 16), 3, 258, []), (48, (.bipush 45), 2, 0, []), (50, (.iconst 4), 1, 0, []), (51, (.iload_n 1), 1, 0, []), (52, .imul, 1, 0, []), (53, .iadd, 1, 0, []), (54, (.iload_n 2), 1, 0, []), (55, .iadd, 1, 0, []), (56, .iaload, 1, 0, []), (57, (.iload_n 3), 1, 0, []), (58, .iadd, 1, 0, []), (59, (.invokestatic 76), 3, 92, []), (62, .iastore, 1, 0, []), (63, (.aload_n 0), 1, 0, []), (64, (.getfield 16), 3, 258, []), (67, (.bipush 45), 2, 0, []), (69, (.iconst 4), 1, 0, []), (70, (.iload_n 1), 1, 0, []), (71, .imul, 1, 0, []), (72, .iadd, 1, 0, []), (73, (.iload_n 2), 1, 0, []), (74, .iadd, 1, 0, []), (75, .iaload, 1, 0, []), (76, .ireturn, 1, 0, [])]
def q_k100 : List (Nat × q_E) := [(0, (.aload_n 0), 1, 0, []), (1, (.getfield 16), 3, 258, []), (4, (.bipush 45), 2, 0, []), (6, (.iconst 4), 1, 0, []), (7, (.iload_n 1), 1, 0, []), (8, .imul, 1, 0, []), (9, .iadd, 1, 0, []), (10, (.iload_n 2), 1, 0, []), (11, .iadd, 1, 0, []), (12, .iaload, 1, 0, []), (13, (.istore_n 3), 1, 0, []), (14, (.iconst 0), 1, 0, []), (15, (.istore 4), 2, 0, []), (17, (.iload 4), 2, 0, []), (19, (.iconst 4), 1, 0, []), (20, (.if_icmp .ge 50), 3, 70, []), (23, (.iload_n 3), 1, 0, []), (24, (.aload_n 0), 1, 0, []), (25, (.getfield 16), 3, 258, []), (28, (.iconst 0), 1, 0, []), (29, .iaload, 1, 0, []), (30, (.iload 4), 2, 0, []), (32, (.invokestatic 65), 3, 86, []), (35, (.ifCond .eq 26), 3, 61, []), (38, (.aload_n 0), 1, 0, []), (39, (.getfield 16), 3, 258, []), (42, (.iconst 1), 1, 0, []), (43, (.iconst 4), 1, 0, []), (44, (.iload_n 1), 1, 0, []), (45, .imul, 1, 0, []), (46, .iadd, 1, 0, []), (47, (.iload 4), 2, 0, []), (49, .iadd, 1, 0, []), (50, .iaload, 1, 0, []), (51, (.iload 4), 2, 0, []), (53, (.iload_n 2), 1, 0, []), (54, (.invokestatic 93), 3, 94, []), (57, .imul, 1, 0, []), (58, (.goto 4), 3, 62, []), (61, (.iconst 0), 1, 0, []), (62, .iadd, 1, 0, []), (63, (.istore_n 3), 1, 0, []), (64, (.iinc 4 1), 3, 0, []), (67, (.goto (-50)), 3, 17, []), (70, (.iload_n 3), 1, 0, []), (71, (.invokestatic 76), 3, 92, []), (74, .ireturn, 1, 0, [])]
def q_k101 : List (Nat × q_E) := [(0, (.aload_n 0), 1, 0, []), (1, (.getfield 16), 3, 258, []), (4, (.iconst 0), 1, 0, []), (5, .iaload, 1, 0, []), (6, (.ifCond .ne 6), 3, 12, []), (9, (.bipush (-2)), 2, 0, []), (11, .ireturn, 1, 0, []), (12, (.aload_n 0), 1, 0, []), (13, (.invokevirtual 83), 3, 95, []), (16, (.iconst 0), 1, 0, []), (17, (.istore_n 1), 1, 0, []), (18, (.iconst 0), 1, 0, []), (19, (.istore_n 2), 1, 0, []), (20, (.iload_n 2), 1, 0, []), (21, (.iconst 4), 1, 0, []), (22, (.if_icmp .ge 137), 3, 159, []), (25, (.iconst 0), 1, 0, []), (26, (.istore_n 3), 1, 0, []), (27, (.iload_n 3), 1, 0, []), (28, (.iconst 4), 1, 0, []), (29, (.if_icmp .ge 124), 3, 153, []), (32, (.aload_n 0), 1, 0, []), (33, (.getfield 16), 3, 258, []), (36, (.iconst 0), 1, 0, []), (37, .iaload, 1, 0, []), (38, (.iload_n 2), 1, 0, []), (39, (.invokestatic 65), 3, 86, []), (42, (.ifCond .eq 105), 3, 147, []), (45, (.aload_n 0), 1, 0, []), (46, (.getfield 16), 3, 258, []), (49, (.iconst 0), 1, 0, []), (50, .iaload, 1, 0, []), (51, (.iload_n 3), 1, 0, []), (52, (.invokestatic 65), 3, 86, []), (55, (.ifCond .eq 92), 3, 147, []), (58, (.iconst 0), 1, 0, []), (59, (.istore 4), 2, 0, []), (61, (.iconst 0), 1, 0, []), (62, (.istore 5), 2, 0, []), (64, (.iload 5), 2, 0, []), (66, (.iconst 4), 1, 0, []), (67, (.if_icmp .ge 28), 3, 95, []), (70, (.iload 4), 2, 0, []), (72, (.aload_n 0), 1, 0, []), (73, (.iload_n 2), 1, 0, []), (74, (.iload 5), 2, 0, []), (76, (.invokevirtual 97), 3, 100, []), (79, (.iload_n 3), 1, 0, []), (80, (.iload 5), 2, 0, []), (82, (.invokestatic 93), 3, 94, []), (85, .imul, 1, 0, []), (86, .iadd, 1, 0, []), (87, (.istore 4), 2, 0, []), (89, (.iinc 5 1), 3, 0, []), (92, (.goto (-28)), 3, 64, []), (95, (.iload 4), 2, 0, []), (97, (.invokestatic 76), 3, 92, []), (100, (.iconst 4), 1, 0, []), (101, (.invokestatic 100), 3, 93, []), (104, (.istore 5), 2, 0, []), (106, (.iload_n 1), 1, 0, []), (107, (.iload 5), 2, 0, []), (109, (.aload_n 0), 1, 0, []), (110, (.getfield 16), 3, 258, []), (113, (.bipush 17), 2, 0, []), (115, (.iconst 4), 1, 0, []), (116, (.iload_n 2), 1, 0, []), (117, .imul, 1, 0, []), (118, .iadd, 1, 0, []), (119, (.iload_n 3), 1, 0, []), (120, .iadd, 1, 0, []), (121, .iaload, 1, 0, []), (122, (.if_icmp .ne 7), 3, 129, []), (125, (.iconst 0), 1, 0, []), (126, (.goto 4), 3, 130, []), (129, (.iconst 1), 1, 0, []), (130, .iadd, 1, 0, []), (131, (.istore_n 1), 1, 0, []), (132, (.aload_n 0), 1, 0, []), (133, (.getfield 16), 3, 258, []), (136, (.bipush 17), 2, 0, []), (138, (.iconst 4), 1, 0, []), (139, (.iload_n 2), 1, 0, []), (140, .imul, 1, 0, []), (141, .iadd, 1, 0, []), (142, (.iload_n 3), 1, 0, []), (143, .iadd, 1, 0, []), (144, (.iload 5), 2, 0, []), (146, .iastore, 1, 0, []), (147, (.iinc 3 1), 3, 0, []), (150, (.goto (-123)), 3, 27, []), (153, (.iinc 2 1), 3, 0, []), (156, (.goto (-136)), 3, 20, []), (159, (.iconst 0), 1, 0, []), (160, (.istore_n 2), 1, 0, []), (161, (.iload_n 2), 1, 0, []), (162, (.bipush 16), 2, 0, []), (164, (.if_icmp .ge 19), 3, 183, []), (167, (.aload_n 0), 1, 0, []), (168, (.getfield 16), 3, 258, []), (171, (.bipush 45), 2, 0, []), (173, (.iload_n 2), 1, 0, []), (174, .iadd, 1, 0, []), (175, (.iconst 0), 1, 0, []), (176, .iastore, 1, 0, []), (177, (.iinc 2 1), 3, 0, []), (180, (.goto (-19)), 3, 161, []), (183, (.iload_n 1), 1, 0, []), (184, .ireturn, 1, 0, [])]
def q_k102 : List (Nat × q_E) := [(0, (.iconst 0), 1, 0, []), (1, (.istore_n 2), 1, 0, []), (2, (.iload_n 2), 1, 0, []), (3, (.iconst 3), 1, 0, []), (4, (.if_icmp .ge 23), 3, 27, []), (7, (.aload_n 0), 1, 0, []), (8, (.getfield 16), 3, 258, []), (11, (.bipush 33), 2, 0, []), (13, (.iconst 3), 1, 0, []), (14, (.iload_n 1), 1, 0, []), (15, .imul, 1, 0, []), (16, .iadd, 1, 0, []), (17, (.iload_n 2), 1, 0, []), (18, .iadd, 1, 0, []), (19, (.iconst 0), 1, 0, []), (20, .iastore, 1, 0, []), (21, (.iinc 2 1), 3, 0, []), (24, (.goto (-22)), 3, 2, []), (27, .return_, 1, 0, [])]
def q_k103 : List (Nat × q_E) := [(0, (.aload_n 0), 1, 0, []), (1, (.getfield 7), 3, 256, []), (4, (.bipush 16), 2, 0, []), (6, (.iconst 3), 1, 0, []), (7, (.iload_n 1), 1, 0, []), (8, .imul, 1, 0, []), (9, .iadd, 1, 0, []), (10, (.iload_n 2), 1, 0, []), (11, .iadd, 1, 0, []), (12, .iaload, 1, 0, []), (13, (.aload_n 0), 1, 0, []), (14, (.getfield 16), 3, 258, []), (17, (.bipush 33), 2, 0, []), (19, (.iconst 3), 1, 0, []), (20, (.iload_n 1), 1, 0, []), (21, .imul, 1, 0, []), (22, .iadd, 1, 0, []), (23, (.iload_n 2), 1, 0, []), (24, .iadd, 1, 0, []), (25, .iaload, 1, 0, []), (26, .iadd, 1, 0, []), (27, (.istore_n 3), 1, 0, []), (28, (.iconst 0), 1, 0, []), (29, (.istore 4), 2, 0, []), (31, (.iload 4), 2, 0, []), (33, (.iconst 4), 1, 0, []), (34, (.if_icmp .ge 65), 3, 99, []), (37, (.iload_n 3), 1, 0, []), (38, (.iload 4), 2, 0, []), (40, (.iload_n 1), 1, 0, []), (41, (.if_icmp .eq 49), 3, 90, []), (44, (.aload_n 0), 1, 0, []), (45, (.getfield 16), 3, 258, []), (48, (.iconst 0), 1, 0, []), (49, .iaload, 1, 0, []), (50, (.iload 4), 2, 0, []), (52, (.invokestatic 65), 3, 86, []), (55, (.ifCond .eq 35), 3, 90, []), (58, (.aload_n 0), 1, 0, []), (59, (.getfield 7), 3, 256, []), (62, (.bipush 28), 2, 0, []), (64, (.iconst 4), 1, 0, []), (65, (.iload_n 1), 1, 0, []), (66, .imul, 1, 0, []), (67, .iadd, 1, 0, []), (68, (.iload 4), 2, 0, []), (70, .iadd, 1, 0, []), (71, .iaload, 1, 0, []), (72, (.aload_n 0), 1, 0, []), (73, (.getfield 16), 3, 258, []), (76, (.bipush 33), 2, 0, []), (78, (.iconst 3), 1, 0, []), (79, (.iload 4), 2, 0, []), (81, .imul, 1, 0, []), (82, .iadd, 1, 0, []), (83, (.iload_n 2), 1, 0, []), (84, .iadd, 1, 0, []), (85, .iaload, 1, 0, []), (86, .imul, 1, 0, []), (87, (.goto 4), 3, 91, []), (90, (.iconst 0), 1, 0, []), (91, .iadd, 1, 0, []), (92, (.istore_n 3), 1, 0, []), (93, (.iinc 4 1), 3, 0, []), (96, (.goto (-65)), 3, 31, []), (99, (.iload_n 3), 1, 0, []), (100, .ireturn, 1, 0, [])]
def q_k104 : List (Nat × q_E) := [(0, (.aload_n 0), 1, 0, []), (1, (.iload_n 1), 1, 0, []), (2, (.invokevirtual 89), 3, 102, []), (5, (.iconst 0), 1, 0, []), (6, (.istore_n 2), 1, 0, []), (7, (.iload_n 2), 1, 0, []), (8, (.aload_n 0), 1, 0, []), (9, (.getfield 7), 3, 256, []), (12, (.bipush 44), 2, 0, []), (14, (.iload_n 1), 1, 0, []), (15, .iadd, 1, 0, []), (16, .iaload, 1, 0, []), (17, (.if_icmp .ge 114), 3, 131, []), (20, (.bipush (-9)), 2, 0, []), (22, (.istore_n 3), 1, 0, []), (23, (.iconst 2), 1, 0, []), (24, (.istore 4), 2, 0, []), (26, (.iload 4), 2, 0, []), (28, (.ifCond .lt 74), 3, 102, []), (31, (.aload_n 0), 1, 0, []), (32, (.getfield 16), 3, 258, []), (35, (.bipush 33), 2, 0, []), (37, (.iconst 3), 1, 0, []), (38, (.iload_n 1), 1, 0, []), (39, .imul, 1, 0, []), (40, .iadd, 1, 0, []), (41, (.iload 4), 2, 0, []), (43, .iadd, 1, 0, []), (44, .iaload, 1, 0, []), (45, (.aload_n 0), 1, 0, []), (46, (.getfield 7), 3, 256, []), (49, (.bipush 48), 2, 0, []), (51, .iaload, 1, 0, []), (52, (.if_icmp .ge 7), 3, 59, []), (55, (.iconst 1), 1, 0, []), (56, (.goto 4), 3, 60, []), (59, (.iconst 0), 1, 0, []), (60, (.istore 5), 2, 0, []), (62, (.iload 5), 2, 0, []), (64, (.ifCond .eq 30), 3, 94, []), (67, (.iload_n 3), 1, 0, []), (68, (.bipush (-9)), 2, 0, []), (70, (.if_icmp .eq 19), 3, 89, []), (73, (.aload_n 0), 1, 0, []), (74, (.iload_n 1), 1, 0, []), (75, (.iload 4), 2, 0, []), (77, (.invokevirtual 103), 3, 103, []), (80, (.aload_n 0), 1, 0, []), (81, (.iload_n 1), 1, 0, []), (82, (.iload_n 3), 1, 0, []), (83, (.invokevirtual 103), 3, 103, []), (86, (.if_icmp .gt 8), 3, 94, []), (89, (.iload 4), 2, 0, []), (91, (.goto 4), 3, 95, []), (94, (.iload_n 3), 1, 0, []), (95, (.istore_n 3), 1, 0, []), (96, (.iinc 4 (-1)), 3, 0, []), (99, (.goto (-73)), 3, 26, []), (102, (.iload_n 3), 1, 0, []), (103, (.bipush (-9)), 2, 0, []), (105, (.if_icmp .eq 20), 3, 125, []), (108, (.aload_n 0), 1, 0, []), (109, (.getfield 16), 3, 258, []), (112, (.bipush 33), 2, 0, []), (114, (.iconst 3), 1, 0, []), (115, (.iload_n 1), 1, 0, []), (116, .imul, 1, 0, []), (117, .iadd, 1, 0, []), (118, (.iload_n 3), 1, 0, []), (119, .iadd, 1, 0, []), (120, .dup2, 1, 0, []), (121, .iaload, 1, 0, []), (122, (.iconst 1), 1, 0, []), (123, .iadd, 1, 0, []), (124, .iastore, 1, 0, []), (125, (.iinc 2 1), 3, 0, []), (128, (.goto (-121)), 3, 7, []), (131, .return_, 1, 0, [])]
def q_k105 : List (Nat × q_E) := [(0, (.iconst 0), 1, 0, []), (1, (.istore_n 1), 1, 0, []), (2, (.iload_n 1), 1, 0, []), (3, (.iconst 4), 1, 0, []), (4, (.if_icmp .ge 27), 3, 31, []), (7, (.aload_n 0), 1, 0, []), (8, (.getfield 16), 3, 258, []), (11, (.iconst 0), 1, 0, []), (12, .iaload, 1, 0, []), (13, (.iload_n 1), 1, 0, []), (14, (.invokestatic 65), 3, 86, []), (17, (.ifCond .eq 8), 3, 25, []), (20, (.aload_n 0), 1, 0, []), (21, (.iload_n 1), 1, 0, []), (22, (.invokevirtual 106), 3, 104, []), (25, (.iinc 1 1), 3, 0, []), (28, (.goto (-26)), 3, 2, []), (31, .return_, 1, 0, [])]
def q_k106 : List (Nat × q_E) := [(0, (.iconst 0), 1, 0, []), (1, (.istore_n 2), 1, 0, []), (2, (.iload_n 2), 1, 0, []), (3, (.bipush 12), 2, 0, []), (5, (.if_icmp .ge 21), 3, 26, []), (8, (.aload_n 1), 1, 0, []), (9, (.iload_n 2), 1, 0, []), (10, (.aload_n 0), 1, 0, []), (11, (.getfield 16), 3, 258, []), (14, (.bipush 33), 2, 0, []), (16, (.iload_n 2), 1, 0, []), (17, .iadd, 1, 0, []), (18, .iaload, 1, 0, []), (19, .iastore, 1, 0, []), (20, (.iinc 2 1), 3, 0, []), (23, (.goto (-21)), 3, 2, []), (26, .return_, 1, 0, [])]
def q_k107 : List (Nat × q_E) := [(0, (.iconst 0), 1, 0, []), (1, (.istore_n 2), 1, 0, []), (2, (.iload_n 2), 1, 0, []), (3, (.bipush 12), 2, 0, []), (5, (.if_icmp .ge 21), 3, 26, []), (8, (.aload_n 0), 1, 0, []), (9, (.getfield 16), 3, 258, []), (12, (.bipush 33), 2, 0, []), (14, (.iload_n 2), 1, 0, []), (15, .iadd, 1, 0, []), (16, (.aload_n 1), 1, 0, []), (17, (.iload_n 2), 1, 0, []), (18, .iaload, 1, 0, []), (19, .iastore, 1, 0, []), (20, (.iinc 2 1), 3, 0, []), (23, (.goto (-21)), 3, 2, []), (26, .return_, 1, 0, [])]
def q_k108 : List (Nat × q_E) := [(0, (.iconst 1), 1, 0, []), (1, (.istore_n 2), 1, 0, []), (2, (.iconst 0), 1, 0, []), (3, (.istore_n 3), 1, 0, []), (4, (.iload_n 3), 1, 0, []), (5, (.bipush 12), 2, 0, []), (7, (.if_icmp .ge 34), 3, 41, []), (10, (.iload_n 2), 1, 0, []), (11, (.ifCond .eq 22), 3, 33, []), (14, (.aload_n 1), 1, 0, []), (15, (.iload_n 3), 1, 0, []), (16, .iaload, 1, 0, []), (17, (.aload_n 0), 1, 0, []), (18, (.getfield 16), 3, 258, []), (21, (.bipush 33), 2, 0, []), (23, (.iload_n 3), 1, 0, []), (24, .iadd, 1, 0, []), (25, .iaload, 1, 0, []), (26, (.if_icmp .ne 7), 3, 33, []), (29, (.iconst 1), 1, 0, []), (30, (.goto 4), 3, 34, []), (33, (.iconst 0), 1, 0, []), (34, (.istore_n 2), 1, 0, []), (35, (.iinc 3 1), 3, 0, []), (38, (.goto (-34)), 3, 4, []), (41, (.iload_n 2), 1, 0, []), (42, .ireturn, 1, 0, [])]
def q_k109 : List (Nat × q_E) := [(0, (.aload_n 0), 1, 0, []), (1, (.aload_n 0), 1, 0, []), (2, (.getfield 32), 3, 264, []), (5, (.invokevirtual 109), 3, 106, []), (8, (.aload_n 0), 1, 0, []), (9, (.invokevirtual 112), 3, 105, []), (12, (.aload_n 0), 1, 0, []), (13, (.aload_n 0), 1, 0, []), (14, (.getfield 32), 3, 264, []), (17, (.invokevirtual 115), 3, 108, []), (20, (.istore_n 1), 1, 0, []), (21, (.aload_n 0), 1, 0, []), (22, (.aload_n 0), 1, 0, []), (23, (.getfield 32), 3, 264, []), (26, (.invokevirtual 119), 3, 107, []), (29, (.iload_n 1), 1, 0, []), (30, .ireturn, 1, 0, [])]
def q_k110 : List (Nat × q_E) := [(0, (.iload_n 1), 1, 0, []), (1, (.iconst 1), 1, 0, []), (2, (.bipush 20), 2, 0, []), (4, (.invokestatic 57), 3, 85, []), (7, (.ifCond .ne 5), 3, 12, []), (10, (.iconst (-1)), 1, 0, []), (11, .ireturn, 1, 0, []), (12, (.aload_n 0), 1, 0, []), (13, (.getfield 16), 3, 258, []), (16, (.iconst 0), 1, 0, []), (17, .iaload, 1, 0, []), (18, (.ifCond .ne 6), 3, 24, []), (21, (.bipush (-2)), 2, 0, []), (23, .ireturn, 1, 0, []), (24, (.aload_n 0), 1, 0, []), (25, (.invokevirtual 83), 3, 95, []), (28, (.iconst 0), 1, 0, []), (29, (.istore_n 2), 1, 0, []), (30, (.iload_n 2), 1, 0, []), (31, (.iload_n 1), 1, 0, []), (32, (.if_icmp .ge 13), 3, 45, []), (35, (.aload_n 0), 1, 0, []), (36, (.invokevirtual 112), 3, 105, []), (39, (.iinc 2 1), 3, 0, []), (42, (.goto (-12)), 3, 30, []), (45, (.aload_n 0), 1, 0, []), (46, (.invokevirtual 122), 3, 109, []), (49, (.ifCond .eq 7), 3, 56, []), (52, (.iconst 1), 1, 0, []), (53, (.goto 4), 3, 57, []), (56, (.iconst 0), 1, 0, []), (57, .ireturn, 1, 0, [])]
def q_k111 : List (Nat × q_E) := [(0, (.iconst 0), 1, 0, []), (1, (.istore_n 1), 1, 0, []), (2, (.iload_n 1), 1, 0, []), (3, (.bipush 60), 2, 0, []), (5, (.if_icmp .gt 20), 3, 25, []), (8, (.aload_n 0), 1, 0, []), (9, (.invokevirtual 122), 3, 109, []), (12, (.ifCond .ne 13), 3, 25, []), (15, (.aload_n 0), 1, 0, []), (16, (.invokevirtual 112), 3, 105, []), (19, (.iinc 1 1), 3, 0, []), (22, (.goto (-20)), 3, 2, []), (25, (.iload_n 1), 1, 0, []), (26, (.bipush 60), 2, 0, []), (28, (.if_icmp .gt 7), 3, 35, []), (31, (.iload_n 1), 1, 0, []), (32, (.goto 5), 3, 37, []), (35, (.bipush (-9)), 2, 0, []), (37, .ireturn, 1, 0, [])]
def q_k112 : List (Nat × q_E) := [(0, (.iconst 0), 1, 0, []), (1, (.istore_n 1), 1, 0, []), (2, (.iload_n 1), 1, 0, []), (3, (.bipush 60), 2, 0, []), (5, (.if_icmp .ge 13), 3, 18, []), (8, (.aload_n 0), 1, 0, []), (9, (.invokevirtual 112), 3, 105, []), (12, (.iinc 1 1), 3, 0, []), (15, (.goto (-13)), 3, 2, []), (18, (.aload_n 0), 1, 0, []), (19, (.aload_n 0), 1, 0, []), (20, (.getfield 32), 3, 264, []), (23, (.invokevirtual 109), 3, 106, []), (26, (.iconst 1), 1, 0, []), (27, (.istore_n 1), 1, 0, []), (28, (.iload_n 1), 1, 0, []), (29, (.bipush 60), 2, 0, []), (31, (.if_icmp .gt 26), 3, 57, []), (34, (.aload_n 0), 1, 0, []), (35, (.invokevirtual 112), 3, 105, []), (38, (.aload_n 0), 1, 0, []), (39, (.aload_n 0), 1, 0, []), (40, (.getfield 32), 3, 264, []), (43, (.invokevirtual 115), 3, 108, []), (46, (.ifCond .eq 5), 3, 51, []), (49, (.iload_n 1), 1, 0, []), (50, .ireturn, 1, 0, []), (51, (.iinc 1 1), 3, 0, []), (54, (.goto (-26)), 3, 28, []), (57, (.bipush (-9)), 2, 0, []), (59, .ireturn, 1, 0, [])]
def q_k113 : List (Nat × q_E) := [(0, (.iload_n 1), 1, 0, []), (1, (.iconst 0), 1, 0, []), (2, (.iconst 1), 1, 0, []), (3, (.invokestatic 57), 3, 85, []), (6, (.ifCond .ne 5), 3, 11, []), (9, (.iconst (-1)), 1, 0, []), (10, .ireturn, 1, 0, []), (11, (.aload_n 0), 1, 0, []), (12, (.aload_n 0), 1, 0, []), (13, (.getfield 29), 3, 263, []), (16, (.invokevirtual 109), 3, 106, []), (19, (.aload_n 0), 1, 0, []), (20, (.invokevirtual 126), 3, 111, []), (23, (.istore_n 2), 1, 0, []), (24, (.aload_n 0), 1, 0, []), (25, (.aload_n 0), 1, 0, []), (26, (.getfield 29), 3, 263, []), (29, (.invokevirtual 119), 3, 107, []), (32, (.iload_n 1), 1, 0, []), (33, (.ifCond .ne 5), 3, 38, []), (36, (.iload_n 2), 1, 0, []), (37, .ireturn, 1, 0, []), (38, (.iload_n 2), 1, 0, []), (39, (.bipush (-9)), 2, 0, []), (41, (.if_icmp .eq 6), 3, 47, []), (44, (.bipush (-9)), 2, 0, []), (46, .ireturn, 1, 0, []), (47, (.aload_n 0), 1, 0, []), (48, (.invokevirtual 130), 3, 112, []), (51, (.istore_n 3), 1, 0, []), (52, (.aload_n 0), 1, 0, []), (53, (.aload_n 0), 1, 0, []), (54, (.getfield 29), 3, 263, []), (57, (.invokevirtual 119), 3, 107, []), (60, (.iload_n 3), 1, 0, []), (61, .ireturn, 1, 0, [])]
def q_k114 : List (Nat × q_E) := [(0, (.aload_n 0), 1, 0, []), (1, (.getfield 69), 3, 260, []), (4, (.ifCond .ne 6), 3, 10, []), (7, (.bipush (-2)), 2, 0, []), (9, .ireturn, 1, 0, []), (10, (.aload_n 0), 1, 0, []), (11, .dup, 1, 0, []), (12, (.getfield 69), 3, 260, []), (15, (.iconst 1), 1, 0, []), (16, .isub, 1, 0, []), (17, (.putfield 69), 3, 260, []), (20, (.iconst 0), 1, 0, []), (21, (.istore_n 1), 1, 0, []), (22, (.iload_n 1), 1, 0, []), (23, (.bipush 61), 2, 0, []), (25, (.if_icmp .ge 29), 3, 54, []), (28, (.aload_n 0), 1, 0, []), (29, (.getfield 16), 3, 258, []), (32, (.iload_n 1), 1, 0, []), (33, (.aload_n 0), 1, 0, []), (34, (.getfield 19), 3, 259, []), (37, (.bipush 61), 2, 0, []), (39, (.aload_n 0), 1, 0, []), (40, (.getfield 69), 3, 260, []), (43, .imul, 1, 0, []), (44, (.iload_n 1), 1, 0, []), (45, .iadd, 1, 0, []), (46, .iaload, 1, 0, []), (47, .iastore, 1, 0, []), (48, (.iinc 1 1), 3, 0, []), (51, (.goto (-29)), 3, 22, []), (54, (.aload_n 0), 1, 0, []), (55, (.getfield 69), 3, 260, []), (58, .ireturn, 1, 0, [])]
def q_k115 : List (Nat × q_E) := [(0, (.iload_n 1), 1, 0, []), (1, (.invokestatic 61), 3, 87, []), (4, (.ifCond .eq 19), 3, 23, []), (7, (.iload_n 2), 1, 0, []), (8, (.invokestatic 61), 3, 87, []), (11, (.ifCond .eq 12), 3, 23, []), (14, (.iload_n 3), 1, 0, []), (15, (.iconst 0), 1, 0, []), (16, (.iconst 2), 1, 0, []), (17, (.invokestatic 57), 3, 85, []), (20, (.ifCond .ne 5), 3, 25, []), (23, (.iconst (-1)), 1, 0, []), (24, .ireturn, 1, 0, []), (25, (.iload_n 3), 1, 0, []), (26, (.ifCond .ne 18), 3, 44, []), (29, (.aload_n 0), 1, 0, []), (30, (.getfield 16), 3, 258, []), (33, (.iconst 1), 1, 0, []), (34, (.iconst 4), 1, 0, []), (35, (.iload_n 1), 1, 0, []), (36, .imul, 1, 0, []), (37, .iadd, 1, 0, []), (38, (.iload_n 2), 1, 0, []), (39, .iadd, 1, 0, []), (40, .iaload, 1, 0, []), (41, (.goto 37), 3, 78, []), (44, (.iload_n 3), 1, 0, []), (45, (.iconst 1), 1, 0, []), (46, (.if_icmp .ne 19), 3, 65, []), (49, (.aload_n 0), 1, 0, []), (50, (.getfield 16), 3, 258, []), (53, (.bipush 17), 2, 0, []), (55, (.iconst 4), 1, 0, []), (56, (.iload_n 1), 1, 0, []), (57, .imul, 1, 0, []), (58, .iadd, 1, 0, []), (59, (.iload_n 2), 1, 0, []), (60, .iadd, 1, 0, []), (61, .iaload, 1, 0, []), (62, (.goto 16), 3, 78, []), (65, (.aload_n 0), 1, 0, []), (66, (.getfield 7), 3, 256, []), (69, (.bipush 28), 2, 0, []), (71, (.iconst 4), 1, 0, []), (72, (.iload_n 1), 1, 0, []), (73, .imul, 1, 0, []), (74, .iadd, 1, 0, []), (75, (.iload_n 2), 1, 0, []), (76, .iadd, 1, 0, []), (77, .iaload, 1, 0, []), (78, .ireturn, 1, 0, [])]
def q_k116 : List (Nat × q_E) := [(0, (.iconst 0), 1, 0, []), (1, (.istore_n 2), 1, 0, []), (2, (.iconst 0), 1, 0, []), (3, (.istore_n 3), 1, 0, []), (4, (.iload_n 3), 1, 0, []), (5, (.iconst 3), 1, 0, []), (6, (.if_icmp .ge 25), 3, 31, []), (9, (.iload_n 2), 1, 0, []), (10, (.aload_n 0), 1, 0, []), (11, (.getfield 16), 3, 258, []), (14, (.bipush 33), 2, 0, []), (16, (.iconst 3), 1, 0, []), (17, (.iload_n 1), 1, 0, []), (18, .imul, 1, 0, []), (19, .iadd, 1, 0, []), (20, (.iload_n 3), 1, 0, []), (21, .iadd, 1, 0, []), (22, .iaload, 1, 0, []), (23, .iadd, 1, 0, []), (24, (.istore_n 2), 1, 0, []), (25, (.iinc 3 1), 3, 0, []), (28, (.goto (-24)), 3, 4, []), (31, (.iload_n 2), 1, 0, []), (32, .ireturn, 1, 0, [])]
def q_k117 : List (Nat × q_E) := [(0, (.iload_n 1), 1, 0, []), (1, (.invokestatic 61), 3, 87, []), (4, (.ifCond .ne 5), 3, 9, []), (7, (.iconst (-1)), 1, 0, []), (8, .ireturn, 1, 0, []), (9, (.iload_n 2), 1, 0, []), (10, (.tableswitch 81 0 3 #[30, 44, 54, 60]), 30, 91, [40, 54, 64, 70]), (40, (.aload_n 0), 1, 0, []), (41, (.iload_n 1), 1, 0, []), (42, (.invokevirtual 80), 3, 88, []), (45, (.ifCond .eq 7), 3, 52, []), (48, (.iconst 1), 1, 0, []), (49, (.goto 4), 3, 53, []), (52, (.iconst 0), 1, 0, []), (53, .ireturn, 1, 0, []), (54, (.aload_n 0), 1, 0, []), (55, (.getfield 7), 3, 256, []), (58, (.bipush 44), 2, 0, []), (60, (.iload_n 1), 1, 0, []), (61, .iadd, 1, 0, []), (62, .iaload, 1, 0, []), (63, .ireturn, 1, 0, []), (64, (.aload_n 0), 1, 0, []), (65, (.iload_n 1), 1, 0, []), (66, (.invokevirtual 133), 3, 116, []), (69, .ireturn, 1, 0, []), (70, (.aload_n 0), 1, 0, []), (71, (.iload_n 1), 1, 0, []), (72, (.iconst 0), 1, 0, []), (73, (.invokevirtual 103), 3, 103, []), (76, (.aload_n 0), 1, 0, []), (77, (.iload_n 1), 1, 0, []), (78, (.iconst 1), 1, 0, []), (79, (.invokevirtual 103), 3, 103, []), (82, .iadd, 1, 0, []), (83, (.aload_n 0), 1, 0, []), (84, (.iload_n 1), 1, 0, []), (85, (.iconst 2), 1, 0, []), (86, (.invokevirtual 103), 3, 103, []), (89, .iadd, 1, 0, []), (90, .ireturn, 1, 0, []), (91, (.iconst (-1)), 1, 0, []), (92, .ireturn, 1, 0, [])]
def q_k118 : List (Nat × q_E) := [(0, (.iload_n 1), 1, 0, []), (1, (.invokestatic 61), 3, 87, []), (4, (.ifCond .eq 21), 3, 25, []), (7, (.iload_n 2), 1, 0, []), (8, (.iconst 0), 1, 0, []), (9, (.iconst 2), 1, 0, []), (10, (.invokestatic 57), 3, 85, []), (13, (.ifCond .eq 12), 3, 25, []), (16, (.iload_n 3), 1, 0, []), (17, (.iconst 0), 1, 0, []), (18, (.iconst 2), 1, 0, []), (19, (.invokestatic 57), 3, 85, []), (22, (.ifCond .ne 5), 3, 27, []), (25, (.iconst (-1)), 1, 0, []), (26, .ireturn, 1, 0, []), (27, (.iload_n 3), 1, 0, []), (28, (.ifCond .ne 19), 3, 47, []), (31, (.aload_n 0), 1, 0, []), (32, (.getfield 7), 3, 256, []), (35, (.bipush 16), 2, 0, []), (37, (.iconst 3), 1, 0, []), (38, (.iload_n 1), 1, 0, []), (39, .imul, 1, 0, []), (40, .iadd, 1, 0, []), (41, (.iload_n 2), 1, 0, []), (42, .iadd, 1, 0, []), (43, .iaload, 1, 0, []), (44, (.goto 30), 3, 74, []), (47, (.iload_n 3), 1, 0, []), (48, (.iconst 1), 1, 0, []), (49, (.if_icmp .ne 19), 3, 68, []), (52, (.aload_n 0), 1, 0, []), (53, (.getfield 16), 3, 258, []), (56, (.bipush 33), 2, 0, []), (58, (.iconst 3), 1, 0, []), (59, (.iload_n 1), 1, 0, []), (60, .imul, 1, 0, []), (61, .iadd, 1, 0, []), (62, (.iload_n 2), 1, 0, []), (63, .iadd, 1, 0, []), (64, .iaload, 1, 0, []), (65, (.goto 9), 3, 74, []), (68, (.aload_n 0), 1, 0, []), (69, (.iload_n 1), 1, 0, []), (70, (.iload_n 2), 1, 0, []), (71, (.invokevirtual 103), 3, 103, []), (74, .ireturn, 1, 0, [])]
def q_k119 : List (Nat × q_E) := [(0, (.iconst 0), 1, 0, []), (1, (.istore_n 2), 1, 0, []), (2, (.iload_n 2), 1, 0, []), (3, (.iconst 4), 1, 0, []), (4, (.if_icmp .ge 136), 3, 140, []), (7, (.iconst 0), 1, 0, []), (8, (.istore_n 3), 1, 0, []), (9, (.iload_n 3), 1, 0, []), (10, (.iconst 4), 1, 0, []), (11, (.if_icmp .ge 123), 3, 134, []), (14, (.iload_n 1), 1, 0, []), (15, (.iload_n 2), 1, 0, []), (16, (.invokestatic 65), 3, 86, []), (19, (.ifCond .eq 15), 3, 34, []), (22, (.iload_n 1), 1, 0, []), (23, (.iload_n 3), 1, 0, []), (24, (.invokestatic 65), 3, 86, []), (27, (.ifCond .eq 7), 3, 34, []), (30, (.iconst 1), 1, 0, []), (31, (.goto 4), 3, 35, []), (34, (.iconst 0), 1, 0, []), (35, (.istore 4), 2, 0, []), (37, (.iload_n 2), 1, 0, []), (38, (.iload_n 3), 1, 0, []), (39, (.if_icmp .ne 7), 3, 46, []), (42, (.iconst 1), 1, 0, []), (43, (.goto 4), 3, 47, []), (46, (.iconst 0), 1, 0, []), (47, (.istore 5), 2, 0, []), (49, (.aload_n 0), 1, 0, []), (50, (.getfield 35), 3, 265, []), (53, (.bipush 8), 2, 0, []), (55, (.iload_n 2), 1, 0, []), (56, .imul, 1, 0, []), (57, (.iload_n 3), 1, 0, []), (58, .iadd, 1, 0, []), (59, (.iload 4), 2, 0, []), (61, (.ifCond .eq 19), 3, 80, []), (64, (.aload_n 0), 1, 0, []), (65, (.getfield 16), 3, 258, []), (68, (.bipush 17), 2, 0, []), (70, (.iconst 4), 1, 0, []), (71, (.iload_n 2), 1, 0, []), (72, .imul, 1, 0, []), (73, .iadd, 1, 0, []), (74, (.iload_n 3), 1, 0, []), (75, .iadd, 1, 0, []), (76, .iaload, 1, 0, []), (77, (.goto 5), 3, 82, []), (80, (.iload 5), 2, 0, []), (82, .iastore, 1, 0, []), (83, (.aload_n 0), 1, 0, []), (84, (.getfield 35), 3, 265, []), (87, (.bipush 8), 2, 0, []), (89, (.iload_n 2), 1, 0, []), (90, .imul, 1, 0, []), (91, (.iconst 4), 1, 0, []), (92, .iadd, 1, 0, []), (93, (.iload_n 3), 1, 0, []), (94, .iadd, 1, 0, []), (95, (.iload_n 2), 1, 0, []), (96, (.iload_n 3), 1, 0, []), (97, (.if_icmp .ne 29), 3, 126, []), (100, (.iload_n 1), 1, 0, []), (101, (.iload_n 2), 1, 0, []), (102, (.invokestatic 65), 3, 86, []), (105, (.ifCond .eq 17), 3, 122, []), (108, (.aload_n 0), 1, 0, []), (109, (.getfield 16), 3, 258, []), (112, (.bipush 17), 2, 0, []), (114, (.iconst 5), 1, 0, []), (115, (.iload_n 2), 1, 0, []), (116, .imul, 1, 0, []), (117, .iadd, 1, 0, []), (118, .iaload, 1, 0, []), (119, (.goto 8), 3, 127, []), (122, (.iconst 1), 1, 0, []), (123, (.goto 4), 3, 127, []), (126, (.iconst 0), 1, 0, []), (127, .iastore, 1, 0, []), (128, (.iinc 3 1), 3, 0, []), (131, (.goto (-122)), 3, 9, []), (134, (.iinc 2 1), 3, 0, []), (137, (.goto (-135)), 3, 2, []), (140, .return_, 1, 0, [])]
def q_k120 : List (Nat × q_E) := [(0, (.iload_n 1), 1, 0, []), (1, (.istore_n 2), 1, 0, []), (2, (.iload_n 2), 1, 0, []), (3, (.iconst 4), 1, 0, []), (4, (.if_icmp .ge 23), 3, 27, []), (7, (.aload_n 0), 1, 0, []), (8, (.getfield 35), 3, 265, []), (11, (.bipush 8), 2, 0, []), (13, (.iload_n 2), 1, 0, []), (14, .imul, 1, 0, []), (15, (.iload_n 1), 1, 0, []), (16, .iadd, 1, 0, []), (17, .iaload, 1, 0, []), (18, (.ifCond .ne 9), 3, 27, []), (21, (.iinc 2 1), 3, 0, []), (24, (.goto (-22)), 3, 2, []), (27, (.iload_n 2), 1, 0, []), (28, (.iconst 4), 1, 0, []), (29, (.if_icmp .ne 5), 3, 34, []), (32, (.iconst 0), 1, 0, []), (33, .ireturn, 1, 0, []), (34, (.aload_n 0), 1, 0, []), (35, (.getfield 35), 3, 265, []), (38, (.bipush 8), 2, 0, []), (40, (.iload_n 2), 1, 0, []), (41, .imul, 1, 0, []), (42, (.iload_n 1), 1, 0, []), (43, .iadd, 1, 0, []), (44, .iaload, 1, 0, []), (45, (.istore_n 3), 1, 0, []), (46, (.iconst 0), 1, 0, []), (47, (.istore 4), 2, 0, []), (49, (.iload 4), 2, 0, []), (51, (.bipush 8), 2, 0, []), (53, (.if_icmp .ge 65), 3, 118, []), (56, (.aload_n 0), 1, 0, []), (57, (.getfield 35), 3, 265, []), (60, (.bipush 8), 2, 0, []), (62, (.iload_n 2), 1, 0, []), (63, .imul, 1, 0, []), (64, (.iload 4), 2, 0, []), (66, .iadd, 1, 0, []), (67, .iaload, 1, 0, []), (68, (.iload_n 3), 1, 0, []), (69, (.invokestatic 100), 3, 93, []), (72, (.istore 5), 2, 0, []), (74, (.aload_n 0), 1, 0, []), (75, (.getfield 35), 3, 265, []), (78, (.bipush 8), 2, 0, []), (80, (.iload_n 2), 1, 0, []), (81, .imul, 1, 0, []), (82, (.iload 4), 2, 0, []), (84, .iadd, 1, 0, []), (85, (.aload_n 0), 1, 0, []), (86, (.getfield 35), 3, 265, []), (89, (.bipush 8), 2, 0, []), (91, (.iload_n 1), 1, 0, []), (92, .imul, 1, 0, []), (93, (.iload 4), 2, 0, []), (95, .iadd, 1, 0, []), (96, .iaload, 1, 0, []), (97, .iastore, 1, 0, []), (98, (.aload_n 0), 1, 0, []), (99, (.getfield 35), 3, 265, []), (102, (.bipush 8), 2, 0, []), (104, (.iload_n 1), 1, 0, []), (105, .imul, 1, 0, []), (106, (.iload 4), 2, 0, []), (108, .iadd, 1, 0, []), (109, (.iload 5), 2, 0, []), (111, .iastore, 1, 0, []), (112, (.iinc 4 1), 3, 0, []), (115, (.goto (-66)), 3, 49, []), (118, (.iconst 0), 1, 0, []), (119, (.istore 4), 2, 0, []), (121, (.iload 4), 2, 0, []), (123, (.iconst 4), 1, 0, []), (124, (.if_icmp .ge 94), 3, 218, []), (127, (.iload 4), 2, 0, []), (129, (.iload_n 1), 1, 0, []), (130, (.if_icmp .ne 7), 3, 137, []), (133, (.iconst 0), 1, 0, []), (134, (.goto 15), 3, 149, []), (137, (.aload_n 0), 1, 0, []), (138, (.getfield 35), 3, 265, []), (141, (.bipush 8), 2, 0, []), (143, (.iload 4), 2, 0, []), (145, .imul, 1, 0, []), (146, (.iload_n 1), 1, 0, []), (147, .iadd, 1, 0, []), (148, .iaload, 1, 0, []), (149, (.istore 5), 2, 0, []), (151, (.iconst 0), 1, 0, []), (152, (.istore 6), 2, 0, []), (154, (.iload 6), 2, 0, []), (156, (.bipush 8), 2, 0, []), (158, (.if_icmp .ge 54), 3, 212, []), (161, (.aload_n 0), 1, 0, []), (162, (.getfield 35), 3, 265, []), (165, (.bipush 8), 2, 0, []), (167, (.iload 4), 2, 0, []), (169, .imul, 1, 0, []), (170, (.iload 6), 2, 0, []), (172, .iadd, 1, 0, []), (173, (.aload_n 0), 1, 0, []), (174, (.getfield 35), 3, 265, []), (177, (.bipush 8), 2, 0, []), (179, (.iload 4), 2, 0, []), (181, .imul, 1, 0, []), (182, (.iload 6), 2, 0, []), (184, .iadd, 1, 0, []), (185, .iaload, 1, 0, []), (186, (.iload 5), 2, 0, []), (188, (.aload_n 0), 1, 0, []), (189, (.getfield 35), 3, 265, []), (192, (.bipush 8), 2, 0, []), (194, (.iload_n 1), 1, 0, []), (195, .imul, 1, 0, []), (196, (.iload 6), 2, 0, []), (198, .iadd, 1, 0, []), (199, .iaload, 1, 0, []), (200, .imul, 1, 0, []), (201, .isub, 1, 0, []), (202, (.invokestatic 76), 3, 92, []), (205, .iastore, 1, 0, []), (206, (.iinc 6 1), 3, 0, []), (209, (.goto (-55)), 3, 154, []), (212, (.iinc 4 1), 3, 0, []), (215, (.goto (-94)), 3, 121, []), (218, (.iconst 1), 1, 0, []), (219, .ireturn, 1, 0, [])]
def q_k121 : List (Nat × q_E) := [(0, (.aload_n 0), 1, 0, []), (1, (.iload_n 1), 1, 0, []), (2, (.invokevirtual 136), 3, 119, []), (5, (.iconst 1), 1, 0, []), (6, (.istore_n 2), 1, 0, []), (7, (.iconst 0), 1, 0, []), (8, (.istore_n 3), 1, 0, []), (9, (.iload_n 3), 1, 0, []), (10, (.iconst 4), 1, 0, []), (11, (.if_icmp .ge 41), 3, 52, []), (14, (.iload_n 2), 1, 0, []), (15, (.ifCond .eq 29), 3, 44, []), (18, (.iload_n 1), 1, 0, []), (19, (.iload_n 3), 1, 0, []), (20, (.invokestatic 65), 3, 86, []), (23, (.ifCond .eq 17), 3, 40, []), (26, (.aload_n 0), 1, 0, []), (27, (.getfield 16), 3, 258, []), (30, (.bipush 17), 2, 0, []), (32, (.iconst 5), 1, 0, []), (33, (.iload_n 3), 1, 0, []), (34, .imul, 1, 0, []), (35, .iadd, 1, 0, []), (36, .iaload, 1, 0, []), (37, (.ifCond .eq 7), 3, 44, []), (40, (.iconst 1), 1, 0, []), (41, (.goto 4), 3, 45, []), (44, (.iconst 0), 1, 0, []), (45, (.istore_n 2), 1, 0, []), (46, (.iinc 3 1), 3, 0, []), (49, (.goto (-40)), 3, 9, []), (52, (.iconst 0), 1, 0, []), (53, (.istore_n 3), 1, 0, []), (54, (.iload_n 3), 1, 0, []), (55, (.iconst 4), 1, 0, []), (56, (.if_icmp .ge 19), 3, 75, []), (59, (.iload_n 2), 1, 0, []), (60, (.ifCond .eq 15), 3, 75, []), (63, (.aload_n 0), 1, 0, []), (64, (.iload_n 3), 1, 0, []), (65, (.invokevirtual 139), 3, 120, []), (68, (.istore_n 2), 1, 0, []), (69, (.iinc 3 1), 3, 0, []), (72, (.goto (-18)), 3, 54, []), (75, (.iload_n 2), 1, 0, []), (76, .ireturn, 1, 0, [])]
def q_k122 : List (Nat × q_E) := [(0, (.aload_n 0), 1, 0, []), (1, (.getfield 35), 3, 265, []), (4, (.bipush 8), 2, 0, []), (6, (.iload_n 1), 1, 0, []), (7, .imul, 1, 0, []), (8, (.iconst 4), 1, 0, []), (9, .iadd, 1, 0, []), (10, .iaload, 1, 0, []), (11, (.iload_n 2), 1, 0, []), (12, .imul, 1, 0, []), (13, (.aload_n 0), 1, 0, []), (14, (.getfield 35), 3, 265, []), (17, (.bipush 8), 2, 0, []), (19, (.iload_n 1), 1, 0, []), (20, .imul, 1, 0, []), (21, (.iconst 5), 1, 0, []), (22, .iadd, 1, 0, []), (23, .iaload, 1, 0, []), (24, (.iload_n 3), 1, 0, []), (25, .imul, 1, 0, []), (26, .iadd, 1, 0, []), (27, (.aload_n 0), 1, 0, []), (28, (.getfield 35), 3, 265, []), (31, (.bipush 8), 2, 0, []), (33, (.iload_n 1), 1, 0, []), (34, .imul, 1, 0, []), (35, (.bipush 6), 2, 0, []), (37, .iadd, 1, 0, []), (38, .iaload, 1, 0, []), (39, (.iload 4), 2, 0, []), (41, .imul, 1, 0, []), (42, .iadd, 1, 0, []), (43, (.aload_n 0), 1, 0, []), (44, (.getfield 35), 3, 265, []), (47, (.bipush 8), 2, 0, []), (49, (.iload_n 1), 1, 0, []), (50, .imul, 1, 0, []), (51, (.bipush 7), 2, 0, []), (53, .iadd, 1, 0, []), (54, .iaload, 1, 0, []), (55, (.iload 5), 2, 0, []), (57, .imul, 1, 0, []), (58, .iadd, 1, 0, []), (59, (.invokestatic 76), 3, 92, []), (62, .ireturn, 1, 0, [])]
def q_k123 : List (Nat × q_E) := [(0, (.iconst 0), 1, 0, []), (1, (.istore 7), 2, 0, []), (3, (.iconst 0), 1, 0, []), (4, (.istore 8), 2, 0, []), (6, (.iload 8), 2, 0, []), (8, (.iconst 4), 1, 0, []), (9, (.if_icmp .ge 54), 3, 63, []), (12, (.iload 7), 2, 0, []), (14, (.iload_n 1), 1, 0, []), (15, (.iload 8), 2, 0, []), (17, (.invokestatic 65), 3, 86, []), (20, (.ifCond .eq 33), 3, 53, []), (23, (.aload_n 0), 1, 0, []), (24, (.getfield 16), 3, 258, []), (27, (.iconst 1), 1, 0, []), (28, (.iconst 4), 1, 0, []), (29, (.iload_n 2), 1, 0, []), (30, .imul, 1, 0, []), (31, .iadd, 1, 0, []), (32, (.iload 8), 2, 0, []), (34, .iadd, 1, 0, []), (35, .iaload, 1, 0, []), (36, (.aload_n 0), 1, 0, []), (37, (.iload 8), 2, 0, []), (39, (.iload_n 3), 1, 0, []), (40, (.iload 4), 2, 0, []), (42, (.iload 5), 2, 0, []), (44, (.iload 6), 2, 0, []), (46, (.invokevirtual 142), 3, 122, []), (49, .imul, 1, 0, []), (50, (.goto 4), 3, 54, []), (53, (.iconst 0), 1, 0, []), (54, .iadd, 1, 0, []), (55, (.istore 7), 2, 0, []), (57, (.iinc 8 1), 3, 0, []), (60, (.goto (-54)), 3, 6, []), (63, (.iload 7), 2, 0, []), (65, (.invokestatic 76), 3, 92, []), (68, (.aload_n 0), 1, 0, []), (69, (.getfield 16), 3, 258, []), (72, (.bipush 17), 2, 0, []), (74, (.iconst 5), 1, 0, []), (75, (.iload_n 2), 1, 0, []), (76, .imul, 1, 0, []), (77, .iadd, 1, 0, []), (78, .iaload, 1, 0, []), (79, (.invokestatic 100), 3, 93, []), (82, .ireturn, 1, 0, [])]
def q_k124 : List (Nat × q_E) := [(0, (.iload_n 2), 1, 0, []), (1, (.iconst 0), 1, 0, []), (2, (.aload_n 0), 1, 0, []), (3, (.iload_n 1), 1, 0, []), (4, (.invokevirtual 80), 3, 88, []), (7, (.ifCond .eq 8), 3, 15, []), (10, (.bipush 30), 2, 0, []), (12, (.goto 4), 3, 16, []), (15, (.iconst 0), 1, 0, []), (16, (.invokestatic 57), 3, 85, []), (19, .ireturn, 1, 0, [])]
def q_k125 : List (Nat × q_E) := [(0, (.aload_n 0), 1, 0, []), (1, (.iconst 0), 1, 0, []), (2, (.iload_n 1), 1, 0, []), (3, (.invokevirtual 146), 3, 124, []), (6, (.ifCond .eq 50), 3, 56, []), (9, (.aload_n 0), 1, 0, []), (10, (.iconst 1), 1, 0, []), (11, (.iload_n 2), 1, 0, []), (12, (.invokevirtual 146), 3, 124, []), (15, (.ifCond .eq 41), 3, 56, []), (18, (.aload_n 0), 1, 0, []), (19, (.iconst 2), 1, 0, []), (20, (.iload_n 3), 1, 0, []), (21, (.invokevirtual 146), 3, 124, []), (24, (.ifCond .eq 32), 3, 56, []), (27, (.aload_n 0), 1, 0, []), (28, (.iconst 3), 1, 0, []), (29, (.iload 4), 2, 0, []), (31, (.invokevirtual 146), 3, 124, []), (34, (.ifCond .eq 22), 3, 56, []), (37, (.aload_n 0), 1, 0, []), (38, (.iload 5), 2, 0, []), (40, (.invokevirtual 80), 3, 88, []), (43, (.ifCond .eq 13), 3, 56, []), (46, (.iload 6), 2, 0, []), (48, (.iconst 0), 1, 0, []), (49, (.iconst 1), 1, 0, []), (50, (.invokestatic 57), 3, 85, []), (53, (.ifCond .ne 5), 3, 58, []), (56, (.iconst (-1)), 1, 0, []), (57, .ireturn, 1, 0, []), (58, (.aload_n 0), 1, 0, []), (59, (.aload_n 0), 1, 0, []), (60, (.getfield 16), 3, 258, []), (63, (.iconst 0), 1, 0, []), (64, .iaload, 1, 0, []), (65, (.invokevirtual 149), 3, 121, []), (68, (.ifCond .ne 6), 3, 74, []), (71, (.bipush (-9)), 2, 0, []), (73, .ireturn, 1, 0, []), (74, (.iload 6), 2, 0, []), (76, (.ifCond .ne 17), 3, 93, []), (79, (.aload_n 0), 1, 0, []), (80, (.iload 5), 2, 0, []), (82, (.iload_n 1), 1, 0, []), (83, (.iload_n 2), 1, 0, []), (84, (.iload_n 3), 1, 0, []), (85, (.iload 4), 2, 0, []), (87, (.invokevirtual 142), 3, 122, []), (90, (.goto 20), 3, 110, []), (93, (.aload_n 0), 1, 0, []), (94, (.aload_n 0), 1, 0, []), (95, (.getfield 16), 3, 258, []), (98, (.iconst 0), 1, 0, []), (99, .iaload, 1, 0, []), (100, (.iload 5), 2, 0, []), (102, (.iload_n 1), 1, 0, []), (103, (.iload_n 2), 1, 0, []), (104, (.iload_n 3), 1, 0, []), (105, (.iload 4), 2, 0, []), (107, (.invokevirtual 152), 3, 123, []), (110, .ireturn, 1, 0, [])]
def q_k126 : List (Nat × q_E) := [(0, (.aload_n 0), 1, 0, []), (1, (.iload_n 1), 1, 0, []), (2, (.invokevirtual 80), 3, 88, []), (5, (.ifCond .eq 11), 3, 16, []), (8, (.aload_n 0), 1, 0, []), (9, (.iload_n 2), 1, 0, []), (10, (.invokevirtual 80), 3, 88, []), (13, (.ifCond .ne 5), 3, 18, []), (16, (.iconst (-1)), 1, 0, []), (17, .ireturn, 1, 0, []), (18, (.aload_n 0), 1, 0, []), (19, (.aload_n 0), 1, 0, []), (20, (.getfield 16), 3, 258, []), (23, (.iconst 0), 1, 0, []), (24, .iaload, 1, 0, []), (25, (.invokevirtual 149), 3, 121, []), (28, (.ifCond .eq 19), 3, 47, []), (31, (.aload_n 0), 1, 0, []), (32, (.getfield 35), 3, 265, []), (35, (.bipush 8), 2, 0, []), (37, (.iload_n 1), 1, 0, []), (38, .imul, 1, 0, []), (39, (.iconst 4), 1, 0, []), (40, .iadd, 1, 0, []), (41, (.iload_n 2), 1, 0, []), (42, .iadd, 1, 0, []), (43, .iaload, 1, 0, []), (44, (.goto 5), 3, 49, []), (47, (.bipush (-9)), 2, 0, []), (49, .ireturn, 1, 0, [])]
def q_k127 : List (Nat × q_E) := [(0, (.aload_n 0), 1, 0, []), (1, (.iload_n 1), 1, 0, []), (2, (.invokevirtual 149), 3, 121, []), (5, (.ifCond .ne 5), 3, 10, []), (8, (.iconst 0), 1, 0, []), (9, .ireturn, 1, 0, []), (10, (.iconst 0), 1, 0, []), (11, (.istore_n 2), 1, 0, []), (12, (.iconst 0), 1, 0, []), (13, (.istore_n 3), 1, 0, []), (14, (.iload_n 3), 1, 0, []), (15, (.iconst 4), 1, 0, []), (16, (.if_icmp .ge 130), 3, 146, []), (19, (.iload_n 1), 1, 0, []), (20, (.iload_n 3), 1, 0, []), (21, (.invokestatic 65), 3, 86, []), (24, (.istore 4), 2, 0, []), (26, (.iconst 0), 1, 0, []), (27, (.istore 5), 2, 0, []), (29, (.iload 5), 2, 0, []), (31, (.iconst 4), 1, 0, []), (32, (.if_icmp .ge 93), 3, 125, []), (35, (.iload 4), 2, 0, []), (37, (.ifCond .eq 88), 3, 125, []), (40, (.iload_n 1), 1, 0, []), (41, (.iload 5), 2, 0, []), (43, (.invokestatic 65), 3, 86, []), (46, (.ifCond .eq 66), 3, 112, []), (49, (.aload_n 0), 1, 0, []), (50, (.iload_n 1), 1, 0, []), (51, (.iload_n 3), 1, 0, []), (52, (.iload 5), 2, 0, []), (54, (.ifCond .ne 7), 3, 61, []), (57, (.iconst 1), 1, 0, []), (58, (.goto 4), 3, 62, []), (61, (.iconst 0), 1, 0, []), (62, (.iload 5), 2, 0, []), (64, (.iconst 1), 1, 0, []), (65, (.if_icmp .ne 7), 3, 72, []), (68, (.iconst 1), 1, 0, []), (69, (.goto 4), 3, 73, []), (72, (.iconst 0), 1, 0, []), (73, (.iload 5), 2, 0, []), (75, (.iconst 2), 1, 0, []), (76, (.if_icmp .ne 7), 3, 83, []), (79, (.iconst 1), 1, 0, []), (80, (.goto 4), 3, 84, []), (83, (.iconst 0), 1, 0, []), (84, (.iload 5), 2, 0, []), (86, (.iconst 3), 1, 0, []), (87, (.if_icmp .ne 7), 3, 94, []), (90, (.iconst 1), 1, 0, []), (91, (.goto 4), 3, 95, []), (94, (.iconst 0), 1, 0, []), (95, (.invokevirtual 152), 3, 123, []), (98, (.iload 5), 2, 0, []), (100, (.iload_n 3), 1, 0, []), (101, (.if_icmp .ne 7), 3, 108, []), (104, (.iconst 1), 1, 0, []), (105, (.goto 4), 3, 109, []), (108, (.iconst 0), 1, 0, []), (109, (.if_icmp .ne 7), 3, 116, []), (112, (.iconst 1), 1, 0, []), (113, (.goto 4), 3, 117, []), (116, (.iconst 0), 1, 0, []), (117, (.istore 4), 2, 0, []), (119, (.iinc 5 1), 3, 0, []), (122, (.goto (-93)), 3, 29, []), (125, (.iload_n 2), 1, 0, []), (126, (.iload 4), 2, 0, []), (128, (.ifCond .eq 9), 3, 137, []), (131, (.iconst 1), 1, 0, []), (132, (.iload_n 3), 1, 0, []), (133, .ishl, 1, 0, []), (134, (.goto 4), 3, 138, []), (137, (.iconst 0), 1, 0, []), (138, .ior, 1, 0, []), (139, (.istore_n 2), 1, 0, []), (140, (.iinc 3 1), 3, 0, []), (143, (.goto (-129)), 3, 14, []), (146, (.iload_n 2), 1, 0, []), (147, .ireturn, 1, 0, [])]
def q_k128 : List (Nat × q_E) := [(0, (.aload_n 0), 1, 0, []), (1, (.aload_n 0), 1, 0, []), (2, (.getfield 16), 3, 258, []), (5, (.iconst 0), 1, 0, []), (6, .iaload, 1, 0, []), (7, (.invokevirtual 156), 3, 127, []), (10, .ireturn, 1, 0, [])]
def q_k129 : List (Nat × q_E) := [(0, (.iload_n 1), 1, 0, []), (1, (.invokestatic 61), 3, 87, []), (4, (.ifCond .ne 5), 3, 9, []), (7, (.iconst (-1)), 1, 0, []), (8, .ireturn, 1, 0, []), (9, (.aload_n 0), 1, 0, []), (10, (.iload_n 1), 1, 0, []), (11, (.invokevirtual 80), 3, 88, []), (14, (.ifCond .eq 6), 3, 20, []), (17, (.bipush (-2)), 2, 0, []), (19, .ireturn, 1, 0, []), (20, (.aload_n 0), 1, 0, []), (21, (.aload_n 0), 1, 0, []), (22, (.getfield 16), 3, 258, []), (25, (.iconst 0), 1, 0, []), (26, .iaload, 1, 0, []), (27, (.invokevirtual 156), 3, 127, []), (30, (.aload_n 0), 1, 0, []), (31, (.aload_n 0), 1, 0, []), (32, (.getfield 16), 3, 258, []), (35, (.iconst 0), 1, 0, []), (36, .iaload, 1, 0, []), (37, (.iconst 1), 1, 0, []), (38, (.iload_n 1), 1, 0, []), (39, .ishl, 1, 0, []), (40, .ior, 1, 0, []), (41, (.invokevirtual 156), 3, 127, []), (44, (.iconst (-1)), 1, 0, []), (45, .ixor, 1, 0, []), (46, .iand, 1, 0, []), (47, .ireturn, 1, 0, [])]
def q_k130 : List (Nat × q_E) := [(0, (.iload_n 1), 1, 0, []), (1, (.invokestatic 61), 3, 87, []), (4, (.ifCond .eq 22), 3, 26, []), (7, (.iload_n 2), 1, 0, []), (8, (.iconst 0), 1, 0, []), (9, (.bipush 15), 2, 0, []), (11, (.invokestatic 57), 3, 85, []), (14, (.ifCond .eq 12), 3, 26, []), (17, (.iload_n 3), 1, 0, []), (18, (.iconst 0), 1, 0, []), (19, (.iconst 1), 1, 0, []), (20, (.invokestatic 57), 3, 85, []), (23, (.ifCond .ne 5), 3, 28, []), (26, (.iconst (-1)), 1, 0, []), (27, .ireturn, 1, 0, []), (28, (.aload_n 0), 1, 0, []), (29, (.getfield 73), 3, 266, []), (32, (.bipush 8), 2, 0, []), (34, (.if_icmp .ne 6), 3, 40, []), (37, (.bipush (-3)), 2, 0, []), (39, .ireturn, 1, 0, []), (40, (.aload_n 0), 1, 0, []), (41, (.getfield 38), 3, 267, []), (44, (.aload_n 0), 1, 0, []), (45, (.getfield 73), 3, 266, []), (48, (.iload_n 1), 1, 0, []), (49, .iastore, 1, 0, []), (50, (.aload_n 0), 1, 0, []), (51, (.getfield 41), 3, 268, []), (54, (.aload_n 0), 1, 0, []), (55, (.getfield 73), 3, 266, []), (58, (.iload_n 2), 1, 0, []), (59, .iastore, 1, 0, []), (60, (.aload_n 0), 1, 0, []), (61, (.getfield 44), 3, 269, []), (64, (.aload_n 0), 1, 0, []), (65, (.getfield 73), 3, 266, []), (68, (.iload_n 3), 1, 0, []), (69, .iastore, 1, 0, []), (70, (.aload_n 0), 1, 0, []), (71, .dup, 1, 0, []), (72, (.getfield 73), 3, 266, []), (75, (.iconst 1), 1, 0, []), (76, .iadd, 1, 0, []), (77, (.putfield 73), 3, 266, []), (80, (.aload_n 0), 1, 0, []), (81, (.getfield 73), 3, 266, []), (84, .ireturn, 1, 0, [])]
def q_k131 : List (Nat × q_E) := [(0, (.aload_n 0), 1, 0, []), (1, (.getfield 73), 3, 266, []), (4, (.istore_n 1), 1, 0, []), (5, (.aload_n 0), 1, 0, []), (6, (.iconst 0), 1, 0, []), (7, (.putfield 73), 3, 266, []), (10, (.iload_n 1), 1, 0, []), (11, .ireturn, 1, 0, [])]
def q_k132 : List (Nat × q_E) := [(0, (.aload_n 0), 1, 0, []), (1, (.iload_n 1), 1, 0, []), (2, (.invokevirtual 80), 3, 88, []), (5, (.ifCond .eq 15), 3, 20, []), (8, (.aload_n 0), 1, 0, []), (9, (.iload_n 2), 1, 0, []), (10, (.invokevirtual 80), 3, 88, []), (13, (.ifCond .eq 7), 3, 20, []), (16, (.iconst 1), 1, 0, []), (17, (.goto 4), 3, 21, []), (20, (.iconst 0), 1, 0, []), (21, (.istore_n 3), 1, 0, []), (22, (.iconst 0), 1, 0, []), (23, (.istore 4), 2, 0, []), (25, (.iload 4), 2, 0, []), (27, (.aload_n 0), 1, 0, []), (28, (.getfield 73), 3, 266, []), (31, (.if_icmp .ge 63), 3, 94, []), (34, (.aload_n 0), 1, 0, []), (35, (.getfield 38), 3, 267, []), (38, (.iload 4), 2, 0, []), (40, .iaload, 1, 0, []), (41, (.iload_n 1), 1, 0, []), (42, (.if_icmp .ne 21), 3, 63, []), (45, (.aload_n 0), 1, 0, []), (46, (.getfield 41), 3, 268, []), (49, (.iload 4), 2, 0, []), (51, .iaload, 1, 0, []), (52, (.iload_n 2), 1, 0, []), (53, (.invokestatic 65), 3, 86, []), (56, (.ifCond .eq 7), 3, 63, []), (59, (.iconst 0), 1, 0, []), (60, (.goto 4), 3, 64, []), (63, (.iconst 1), 1, 0, []), (64, (.istore 5), 2, 0, []), (66, (.iload_n 3), 1, 0, []), (67, (.ifCond .eq 19), 3, 86, []), (70, (.iload 5), 2, 0, []), (72, (.aload_n 0), 1, 0, []), (73, (.getfield 44), 3, 269, []), (76, (.iload 4), 2, 0, []), (78, .iaload, 1, 0, []), (79, (.if_icmp .ne 7), 3, 86, []), (82, (.iconst 1), 1, 0, []), (83, (.goto 4), 3, 87, []), (86, (.iconst 0), 1, 0, []), (87, (.istore_n 3), 1, 0, []), (88, (.iinc 4 1), 3, 0, []), (91, (.goto (-66)), 3, 25, []), (94, (.iload_n 3), 1, 0, []), (95, .ireturn, 1, 0, [])]
def q_k133 : List (Nat × q_E) := [(0, (.iload_n 1), 1, 0, []), (1, (.iconst 0), 1, 0, []), (2, (.iconst 1), 1, 0, []), (3, (.invokestatic 57), 3, 85, []), (6, (.ifCond .ne 5), 3, 11, []), (9, (.iconst (-1)), 1, 0, []), (10, .ireturn, 1, 0, []), (11, (.iconst 0), 1, 0, []), (12, (.istore_n 2), 1, 0, []), (13, (.bipush (-9)), 2, 0, []), (15, (.istore_n 3), 1, 0, []), (16, (.iconst 0), 1, 0, []), (17, (.istore 4), 2, 0, []), (19, (.iload 4), 2, 0, []), (21, (.bipush 16), 2, 0, []), (23, (.if_icmp .ge 38), 3, 61, []), (26, (.aload_n 0), 1, 0, []), (27, (.iload 4), 2, 0, []), (29, (.iconst 4), 1, 0, []), (30, .idiv, 1, 0, []), (31, (.iload 4), 2, 0, []), (33, (.iconst 4), 1, 0, []), (34, .irem, 1, 0, []), (35, (.invokevirtual 159), 3, 132, []), (38, (.ifCond .eq 17), 3, 55, []), (41, (.iload_n 2), 1, 0, []), (42, (.ifCond .ne 8), 3, 50, []), (45, (.iload 4), 2, 0, []), (47, (.goto 4), 3, 51, []), (50, (.iload_n 3), 1, 0, []), (51, (.istore_n 3), 1, 0, []), (52, (.iinc 2 1), 3, 0, []), (55, (.iinc 4 1), 3, 0, []), (58, (.goto (-39)), 3, 19, []), (61, (.iload_n 1), 1, 0, []), (62, (.ifCond .ne 7), 3, 69, []), (65, (.iload_n 2), 1, 0, []), (66, (.goto 4), 3, 70, []), (69, (.iload_n 3), 1, 0, []), (70, .ireturn, 1, 0, [])]
def q_k134 : List (Nat × q_E) := [(0, (.aload_n 0), 1, 0, []), (1, (.iconst 0), 1, 0, []), (2, (.invokevirtual 162), 3, 133, []), (5, (.istore_n 1), 1, 0, []), (6, (.iload_n 1), 1, 0, []), (7, (.iconst 2), 1, 0, []), (8, (.if_icmp .ge 6), 3, 14, []), (11, (.bipush (-9)), 2, 0, []), (13, .ireturn, 1, 0, []), (14, (.bipush (-9)), 2, 0, []), (16, (.istore_n 2), 1, 0, []), (17, (.iload_n 1), 1, 0, []), (18, (.iconst 1), 1, 0, []), (19, .iadd, 1, 0, []), (20, (.istore_n 3), 1, 0, []), (21, (.iconst 0), 1, 0, []), (22, (.istore 4), 2, 0, []), (24, (.iload 4), 2, 0, []), (26, (.bipush 64), 2, 0, []), (28, (.if_icmp .ge 141), 3, 169, []), (31, (.iload 4), 2, 0, []), (33, (.bipush 16), 2, 0, []), (35, .idiv, 1, 0, []), (36, (.istore 5), 2, 0, []), (38, (.iload 4), 2, 0, []), (40, (.bipush 16), 2, 0, []), (42, .irem, 1, 0, []), (43, (.istore 6), 2, 0, []), (45, (.aload_n 0), 1, 0, []), (46, (.iload 5), 2, 0, []), (48, (.invokevirtual 80), 3, 88, []), (51, (.ifCond .eq 112), 3, 163, []), (54, (.iload 6), 2, 0, []), (56, (.aload_n 0), 1, 0, []), (57, (.getfield 16), 3, 258, []), (60, (.iconst 0), 1, 0, []), (61, .iaload, 1, 0, []), (62, (.iconst (-1)), 1, 0, []), (63, .ixor, 1, 0, []), (64, .iand, 1, 0, []), (65, (.ifCond .ne 98), 3, 163, []), (68, (.iconst 0), 1, 0, []), (69, (.istore 7), 2, 0, []), (71, (.iconst 0), 1, 0, []), (72, (.istore 8), 2, 0, []), (74, (.iload 8), 2, 0, []), (76, (.iconst 4), 1, 0, []), (77, (.if_icmp .ge 40), 3, 117, []), (80, (.iload 7), 2, 0, []), (82, (.iload 6), 2, 0, []), (84, (.iload 8), 2, 0, []), (86, (.invokestatic 65), 3, 86, []), (89, (.ifCond .eq 18), 3, 107, []), (92, (.aload_n 0), 1, 0, []), (93, (.iload 5), 2, 0, []), (95, (.iload 8), 2, 0, []), (97, (.invokevirtual 159), 3, 132, []), (100, (.ifCond .eq 7), 3, 107, []), (103, (.iconst 1), 1, 0, []), (104, (.goto 4), 3, 108, []), (107, (.iconst 0), 1, 0, []), (108, .iadd, 1, 0, []), (109, (.istore 7), 2, 0, []), (111, (.iinc 8 1), 3, 0, []), (114, (.goto (-40)), 3, 74, []), (117, (.iload 7), 2, 0, []), (119, (.iload_n 1), 1, 0, []), (120, (.iload 7), 2, 0, []), (122, .isub, 1, 0, []), (123, (.if_icmp .le 8), 3, 131, []), (126, (.iload 7), 2, 0, []), (128, (.goto 7), 3, 135, []), (131, (.iload_n 1), 1, 0, []), (132, (.iload 7), 2, 0, []), (134, .isub, 1, 0, []), (135, (.istore 8), 2, 0, []), (137, (.iload 8), 2, 0, []), (139, (.iload_n 3), 1, 0, []), (140, (.if_icmp .ge 8), 3, 148, []), (143, (.iload 4), 2, 0, []), (145, (.goto 4), 3, 149, []), (148, (.iload_n 2), 1, 0, []), (149, (.istore_n 2), 1, 0, []), (150, (.iload 8), 2, 0, []), (152, (.iload_n 3), 1, 0, []), (153, (.if_icmp .ge 8), 3, 161, []), (156, (.iload 8), 2, 0, []), (158, (.goto 4), 3, 162, []), (161, (.iload_n 3), 1, 0, []), (162, (.istore_n 3), 1, 0, []), (163, (.iinc 4 1), 3, 0, []), (166, (.goto (-142)), 3, 24, []), (169, (.iload_n 2), 1, 0, []), (170, .ireturn, 1, 0, [])]
def q_k135 : List (Nat × q_E) := [(0, (.iload_n 1), 1, 0, []), (1, (.iconst 0), 1, 0, []), (2, (.iconst 1), 1, 0, []), (3, (.invokestatic 57), 3, 85, []), (6, (.ifCond .ne 5), 3, 11, []), (9, (.iconst (-1)), 1, 0, []), (10, .ireturn, 1, 0, []), (11, (.iconst 0), 1, 0, []), (12, (.istore_n 2), 1, 0, []), (13, (.iload_n 2), 1, 0, []), (14, (.bipush 61), 2, 0, []), (16, (.if_icmp .ge 26), 3, 42, []), (19, (.aload_n 0), 1, 0, []), (20, (.getfield 22), 3, 261, []), (23, (.bipush 61), 2, 0, []), (25, (.iload_n 1), 1, 0, []), (26, .imul, 1, 0, []), (27, (.iload_n 2), 1, 0, []), (28, .iadd, 1, 0, []), (29, (.aload_n 0), 1, 0, []), (30, (.getfield 16), 3, 258, []), (33, (.iload_n 2), 1, 0, []), (34, .iaload, 1, 0, []), (35, .iastore, 1, 0, []), (36, (.iinc 2 1), 3, 0, []), (39, (.goto (-26)), 3, 13, []), (42, (.aload_n 0), 1, 0, []), (43, (.getfield 25), 3, 262, []), (46, (.iload_n 1), 1, 0, []), (47, (.iconst 1), 1, 0, []), (48, .bastore, 1, 0, []), (49, (.aload_n 0), 1, 0, []), (50, (.getfield 16), 3, 258, []), (53, (.iconst 0), 1, 0, []), (54, .iaload, 1, 0, []), (55, (.invokestatic 86), 3, 89, []), (58, .ireturn, 1, 0, [])]
def q_k136 : List (Nat × q_E) := [(0, (.iload_n 1), 1, 0, []), (1, (.iconst 0), 1, 0, []), (2, (.iconst 1), 1, 0, []), (3, (.invokestatic 57), 3, 85, []), (6, (.ifCond .ne 5), 3, 11, []), (9, (.iconst (-1)), 1, 0, []), (10, .ireturn, 1, 0, []), (11, (.aload_n 0), 1, 0, []), (12, (.getfield 25), 3, 262, []), (15, (.iload_n 1), 1, 0, []), (16, .baload, 1, 0, []), (17, (.ifCond .ne 6), 3, 23, []), (20, (.bipush (-2)), 2, 0, []), (22, .ireturn, 1, 0, []), (23, (.iconst 0), 1, 0, []), (24, (.istore_n 2), 1, 0, []), (25, (.iload_n 2), 1, 0, []), (26, (.bipush 61), 2, 0, []), (28, (.if_icmp .ge 26), 3, 54, []), (31, (.aload_n 0), 1, 0, []), (32, (.getfield 16), 3, 258, []), (35, (.iload_n 2), 1, 0, []), (36, (.aload_n 0), 1, 0, []), (37, (.getfield 22), 3, 261, []), (40, (.bipush 61), 2, 0, []), (42, (.iload_n 1), 1, 0, []), (43, .imul, 1, 0, []), (44, (.iload_n 2), 1, 0, []), (45, .iadd, 1, 0, []), (46, .iaload, 1, 0, []), (47, .iastore, 1, 0, []), (48, (.iinc 2 1), 3, 0, []), (51, (.goto (-26)), 3, 25, []), (54, (.aload_n 0), 1, 0, []), (55, (.iconst 0), 1, 0, []), (56, (.putfield 69), 3, 260, []), (59, (.aload_n 0), 1, 0, []), (60, (.getfield 16), 3, 258, []), (63, (.iconst 0), 1, 0, []), (64, .iaload, 1, 0, []), (65, (.invokestatic 86), 3, 89, []), (68, .ireturn, 1, 0, [])]
def q_k137 : List (Nat × q_E) := [(0, (.iconst 0), 1, 0, []), (1, (.istore_n 1), 1, 0, []), (2, (.iconst 0), 1, 0, []), (3, (.istore_n 2), 1, 0, []), (4, (.iload_n 2), 1, 0, []), (5, (.bipush 16), 2, 0, []), (7, (.if_icmp .ge 57), 3, 64, []), (10, (.iload_n 1), 1, 0, []), (11, (.aload_n 0), 1, 0, []), (12, (.iload_n 2), 1, 0, []), (13, (.iconst 4), 1, 0, []), (14, .idiv, 1, 0, []), (15, (.invokevirtual 80), 3, 88, []), (18, (.ifCond .eq 37), 3, 55, []), (21, (.aload_n 0), 1, 0, []), (22, (.iload_n 2), 1, 0, []), (23, (.iconst 4), 1, 0, []), (24, .irem, 1, 0, []), (25, (.invokevirtual 80), 3, 88, []), (28, (.ifCond .eq 27), 3, 55, []), (31, (.aload_n 0), 1, 0, []), (32, (.getfield 16), 3, 258, []), (35, (.iconst 1), 1, 0, []), (36, (.iload_n 2), 1, 0, []), (37, .iadd, 1, 0, []), (38, .iaload, 1, 0, []), (39, (.aload_n 0), 1, 0, []), (40, (.getfield 16), 3, 258, []), (43, (.bipush 17), 2, 0, []), (45, (.iload_n 2), 1, 0, []), (46, .iadd, 1, 0, []), (47, .iaload, 1, 0, []), (48, (.if_icmp .eq 7), 3, 55, []), (51, (.iconst 1), 1, 0, []), (52, (.goto 4), 3, 56, []), (55, (.iconst 0), 1, 0, []), (56, .iadd, 1, 0, []), (57, (.istore_n 1), 1, 0, []), (58, (.iinc 2 1), 3, 0, []), (61, (.goto (-57)), 3, 4, []), (64, (.iload_n 1), 1, 0, []), (65, .ireturn, 1, 0, [])]
def q_k138 : List (Nat × q_E) := [(0, (.iload_n 1), 1, 0, []), (1, (.tableswitch 119 0 7 #[47, 54, 59, 67, 91, 104, 109, 114]), 47, 120, [48, 55, 60, 68, 92, 105, 110, 115]), (48, (.aload_n 0), 1, 0, []), (49, (.getfield 16), 3, 258, []), (52, (.iconst 0), 1, 0, []), (53, .iaload, 1, 0, []), (54, .ireturn, 1, 0, []), (55, (.aload_n 0), 1, 0, []), (56, (.invokevirtual 165), 3, 137, []), (59, .ireturn, 1, 0, []), (60, (.aload_n 0), 1, 0, []), (61, (.getfield 7), 3, 256, []), (64, (.bipush 48), 2, 0, []), (66, .iaload, 1, 0, []), (67, .ireturn, 1, 0, []), (68, (.aload_n 0), 1, 0, []), (69, (.iconst 0), 1, 0, []), (70, (.invokevirtual 133), 3, 116, []), (73, (.aload_n 0), 1, 0, []), (74, (.iconst 1), 1, 0, []), (75, (.invokevirtual 133), 3, 116, []), (78, .iadd, 1, 0, []), (79, (.aload_n 0), 1, 0, []), (80, (.iconst 2), 1, 0, []), (81, (.invokevirtual 133), 3, 116, []), (84, .iadd, 1, 0, []), (85, (.aload_n 0), 1, 0, []), (86, (.iconst 3), 1, 0, []), (87, (.invokevirtual 133), 3, 116, []), (90, .iadd, 1, 0, []), (91, .ireturn, 1, 0, []), (92, (.aload_n 0), 1, 0, []), (93, (.invokevirtual 122), 3, 109, []), (96, (.ifCond .eq 7), 3, 103, []), (99, (.iconst 1), 1, 0, []), (100, (.goto 4), 3, 104, []), (103, (.iconst 0), 1, 0, []), (104, .ireturn, 1, 0, []), (105, (.aload_n 0), 1, 0, []), (106, (.getfield 73), 3, 266, []), (109, .ireturn, 1, 0, []), (110, (.aload_n 0), 1, 0, []), (111, (.getfield 168), 3, 271, []), (114, .ireturn, 1, 0, []), (115, (.aload_n 0), 1, 0, []), (116, (.getfield 69), 3, 260, []), (119, .ireturn, 1, 0, []), (120, (.iconst (-1)), 1, 0, []), (121, .ireturn, 1, 0, [])]
def q_k139 : List (Nat × q_E) := [(0, (.iload_n 1), 1, 0, []), (1, (.iconst 0), 1, 0, []), (2, (.sipush 255), 3, 0, []), (5, (.invokestatic 57), 3, 85, []), (8, (.ifCond .ne 5), 3, 13, []), (11, (.iconst (-1)), 1, 0, []), (12, .ireturn, 1, 0, []), (13, (.aload_n 0), 1, 0, []), (14, (.getfield 168), 3, 271, []), (17, (.sipush 160), 3, 0, []), (20, (.if_icmp .ne 6), 3, 26, []), (23, (.bipush (-3)), 2, 0, []), (25, .ireturn, 1, 0, []), (26, (.aload_n 0), 1, 0, []), (27, (.getfield 47), 3, 270, []), (30, (.aload_n 0), 1, 0, []), (31, (.getfield 168), 3, 271, []), (34, (.iload_n 1), 1, 0, []), (35, .iastore, 1, 0, []), (36, (.aload_n 0), 1, 0, []), (37, .dup, 1, 0, []), (38, (.getfield 168), 3, 271, []), (41, (.iconst 1), 1, 0, []), (42, .iadd, 1, 0, []), (43, (.putfield 168), 3, 271, []), (46, (.aload_n 0), 1, 0, []), (47, (.getfield 168), 3, 271, []), (50, .ireturn, 1, 0, [])]
def q_k140 : List (Nat × q_E) := [(0, (.aload_n 0), 1, 0, []), (1, (.getfield 168), 3, 271, []), (4, (.istore_n 1), 1, 0, []), (5, (.aload_n 0), 1, 0, []), (6, (.iconst 0), 1, 0, []), (7, (.putfield 168), 3, 271, []), (10, (.iload_n 1), 1, 0, []), (11, .ireturn, 1, 0, [])]
def q_k141 : List (Nat × q_E) := [(0, (.iload_n 0), 1, 0, []), (1, (.bipush 101), 2, 0, []), (3, (.if_icmp .eq 27), 3, 30, []), (6, (.iload_n 0), 1, 0, []), (7, (.bipush 110), 2, 0, []), (9, (.if_icmp .eq 21), 3, 30, []), (12, (.iload_n 0), 1, 0, []), (13, (.bipush 103), 2, 0, []), (15, (.if_icmp .eq 15), 3, 30, []), (18, (.iload_n 0), 1, 0, []), (19, (.bipush 98), 2, 0, []), (21, (.if_icmp .eq 9), 3, 30, []), (24, (.iload_n 0), 1, 0, []), (25, (.bipush 109), 2, 0, []), (27, (.if_icmp .ne 7), 3, 34, []), (30, (.iconst 1), 1, 0, []), (31, (.goto 4), 3, 35, []), (34, (.iconst 0), 1, 0, []), (35, .ireturn, 1, 0, [])]
def q_k142 : List (Nat × q_E) := [(0, (.aload_n 0), 1, 0, []), (1, (.getfield 171), 3, 272, []), (4, (.aload_n 0), 1, 0, []), (5, (.getfield 168), 3, 271, []), (8, (.if_icmp .ge 30), 3, 38, []), (11, (.aload_n 0), 1, 0, []), (12, (.getfield 47), 3, 270, []), (15, (.aload_n 0), 1, 0, []), (16, (.getfield 171), 3, 272, []), (19, .iaload, 1, 0, []), (20, (.bipush 32), 2, 0, []), (22, (.if_icmp .ne 16), 3, 38, []), (25, (.aload_n 0), 1, 0, []), (26, .dup, 1, 0, []), (27, (.getfield 171), 3, 272, []), (30, (.iconst 1), 1, 0, []), (31, .iadd, 1, 0, []), (32, (.putfield 171), 3, 272, []), (35, (.goto (-35)), 3, 0, []), (38, (.aload_n 0), 1, 0, []), (39, (.aload_n 0), 1, 0, []), (40, (.getfield 171), 3, 272, []), (43, (.putfield 174), 3, 273, []), (46, (.aload_n 0), 1, 0, []), (47, (.iconst 0), 1, 0, []), (48, (.putfield 177), 3, 275, []), (51, (.aload_n 0), 1, 0, []), (52, (.getfield 171), 3, 272, []), (55, (.aload_n 0), 1, 0, []), (56, (.getfield 168), 3, 271, []), (59, (.if_icmp .ne 11), 3, 70, []), (62, (.aload_n 0), 1, 0, []), (63, (.iconst 0), 1, 0, []), (64, (.putfield 180), 3, 274, []), (67, (.goto 209), 3, 276, []), (70, (.aload_n 0), 1, 0, []), (71, (.getfield 47), 3, 270, []), (74, (.aload_n 0), 1, 0, []), (75, (.getfield 171), 3, 272, []), (78, .iaload, 1, 0, []), (79, (.bipush 48), 2, 0, []), (81, (.bipush 57), 2, 0, []), (83, (.invokestatic 57), 3, 85, []), (86, (.ifCond .eq 134), 3, 220, []), (89, (.aload_n 0), 1, 0, []), (90, (.getfield 171), 3, 272, []), (93, (.aload_n 0), 1, 0, []), (94, (.getfield 168), 3, 271, []), (97, (.if_icmp .ge 75), 3, 172, []), (100, (.aload_n 0), 1, 0, []), (101, (.getfield 47), 3, 270, []), (104, (.aload_n 0), 1, 0, []), (105, (.getfield 171), 3, 272, []), (108, .iaload, 1, 0, []), (109, (.bipush 48), 2, 0, []), (111, (.bipush 57), 2, 0, []), (113, (.invokestatic 57), 3, 85, []), (116, (.ifCond .eq 56), 3, 172, []), (119, (.aload_n 0), 1, 0, []), (120, (.aload_n 0), 1, 0, []), (121, (.getfield 177), 3, 275, []), (124, (.bipush 99), 2, 0, []), (126, (.if_icmp .le 10), 3, 136, []), (129, (.aload_n 0), 1, 0, []), (130, (.getfield 177), 3, 275, []), (133, (.goto 23), 3, 156, []), (136, (.bipush 10), 2, 0, []), (138, (.aload_n 0), 1, 0, []), (139, (.getfield 177), 3, 275, []), (142, .imul, 1, 0, []), (143, (.aload_n 0), 1, 0, []), (144, (.getfield 47), 3, 270, []), (147, (.aload_n 0), 1, 0, []), (148, (.getfield 171), 3, 272, []), (151, .iaload, 1, 0, []), (152, .iadd, 1, 0, []), (153, (.bipush 48), 2, 0, []), (155, .isub, 1, 0, []), (156, (.putfield 177), 3, 275, []), (159, (.aload_n 0), 1, 0, []), (160, .dup, 1, 0, []), (161, (.getfield 171), 3, 272, []), (164, (.iconst 1), 1, 0, []), (165, .iadd, 1, 0, []), (166, (.putfield 171), 3, 272, []), (169, (.goto (-80)), 3, 89, []), (172, (.aload_n 0), 1, 0, []), (173, (.aload_n 0), 1, 0, []), (174, (.getfield 177), 3, 275, []), (177, (.bipush 99), 2, 0, []), (179, (.if_icmp .gt 30), 3, 209, []), (182, (.aload_n 0), 1, 0, []), (183, (.getfield 47), 3, 270, []), (186, (.aload_n 0), 1, 0, []), (187, (.getfield 174), 3, 273, []), (190, .iaload, 1, 0, []), (191, (.bipush 48), 2, 0, []), (193, (.if_icmp .ne 20), 3, 213, []), (196, (.aload_n 0), 1, 0, []), (197, (.getfield 171), 3, 272, []), (200, (.aload_n 0), 1, 0, []), (201, (.getfield 174), 3, 273, []), (204, .isub, 1, 0, []), (205, (.iconst 1), 1, 0, []), (206, (.if_icmp .le 7), 3, 213, []), (209, (.iconst 2), 1, 0, []), (210, (.goto 4), 3, 214, []), (213, (.iconst 1), 1, 0, []), (214, (.putfield 180), 3, 274, []), (217, (.goto 59), 3, 276, []), (220, (.aload_n 0), 1, 0, []), (221, (.aload_n 0), 1, 0, []), (222, (.getfield 47), 3, 270, []), (225, (.aload_n 0), 1, 0, []), (226, (.getfield 171), 3, 272, []), (229, .iaload, 1, 0, []), (230, (.invokestatic 183), 3, 141, []), (233, (.ifCond .ne 17), 3, 250, []), (236, (.aload_n 0), 1, 0, []), (237, (.getfield 47), 3, 270, []), (240, (.aload_n 0), 1, 0, []), (241, (.getfield 171), 3, 272, []), (244, .iaload, 1, 0, []), (245, (.bipush 59), 2, 0, []), (247, (.if_icmp .ne 15), 3, 262, []), (250, (.aload_n 0), 1, 0, []), (251, (.getfield 47), 3, 270, []), (254, (.aload_n 0), 1, 0, []), (255, (.getfield 171), 3, 272, []), (258, .iaload, 1, 0, []), (259, (.goto 4), 3, 263, []), (262, (.iconst 2), 1, 0, []), (263, (.putfield 180), 3, 274, []), (266, (.aload_n 0), 1, 0, []), (267, .dup, 1, 0, []), (268, (.getfield 171), 3, 272, []), (271, (.iconst 1), 1, 0, []), (272, .iadd, 1, 0, []), (273, (.putfield 171), 3, 272, []), (276, .return_, 1, 0, [])]
def q_k143 : List (Nat × q_E) := [(0, (.aload_n 0), 1, 0, []), (1, (.getfield 177), 3, 275, []), (4, (.istore_n 2), 1, 0, []), (5, (.aload_n 0), 1, 0, []), (6, (.getfield 186), 3, 276, []), (9, (.bipush (-9)), 2, 0, []), (11, (.if_icmp .ne 22), 3, 33, []), (14, (.iload_n 1), 1, 0, []), (15, (.ifCond .eq 10), 3, 25, []), (18, (.aload_n 0), 1, 0, []), (19, (.invokevirtual 189), 3, 142, []), (22, (.goto 11), 3, 33, []), (25, (.aload_n 0), 1, 0, []), (26, (.aload_n 0), 1, 0, []), (27, (.getfield 174), 3, 273, []), (30, (.putfield 186), 3, 276, []), (33, (.iload_n 2), 1, 0, []), (34, .ireturn, 1, 0, [])]
def q_k144 : List (Nat × q_E) := [(0, (.aload_n 0), 1, 0, []), (1, (.aload_n 0), 1, 0, []), (2, (.getfield 180), 3, 274, []), (5, (.iconst 1), 1, 0, []), (6, (.if_icmp .ne 19), 3, 25, []), (9, (.aload_n 0), 1, 0, []), (10, (.getfield 177), 3, 275, []), (13, (.iload_n 1), 1, 0, []), (14, (.iload_n 2), 1, 0, []), (15, (.invokestatic 57), 3, 85, []), (18, (.ifCond .eq 7), 3, 25, []), (21, (.iconst 1), 1, 0, []), (22, (.goto 4), 3, 26, []), (25, (.iconst 0), 1, 0, []), (26, (.invokevirtual 192), 3, 143, []), (29, .ireturn, 1, 0, [])]
def q_k145 : List (Nat × q_E) := [(0, (.aload_n 0), 1, 0, []), (1, (.getfield 186), 3, 276, []), (4, (.bipush (-9)), 2, 0, []), (6, (.if_icmp .ne 10), 3, 16, []), (9, (.aload_n 0), 1, 0, []), (10, (.getfield 13), 3, 257, []), (13, (.iload_n 1), 1, 0, []), (14, (.iload_n 2), 1, 0, []), (15, .iastore, 1, 0, []), (16, .return_, 1, 0, [])]
def q_k146 : List (Nat × q_E) := [(0, (.aload_n 0), 1, 0, []), (1, (.getfield 180), 3, 274, []), (4, (.istore_n 1), 1, 0, []), (5, (.aload_n 0), 1, 0, []), (6, (.iload_n 1), 1, 0, []), (7, (.invokestatic 183), 3, 141, []), (10, (.invokevirtual 192), 3, 143, []), (13, .pop, 1, 0, []), (14, (.aload_n 0), 1, 0, []), (15, (.getfield 186), 3, 276, []), (18, (.bipush (-9)), 2, 0, []), (20, (.if_icmp .eq 4), 3, 24, []), (23, .return_, 1, 0, []), (24, (.iload_n 1), 1, 0, []), (25, (.bipush 109), 2, 0, []), (27, (.if_icmp .ne 7), 3, 34, []), (30, (.iconst 0), 1, 0, []), (31, (.goto 9), 3, 40, []), (34, (.aload_n 0), 1, 0, []), (35, (.iconst 0), 1, 0, []), (36, (.iconst 3), 1, 0, []), (37, (.invokevirtual 196), 3, 144, []), (40, (.istore_n 2), 1, 0, []), (41, (.iload_n 1), 1, 0, []), (42, (.bipush 109), 2, 0, []), (44, (.if_icmp .ne 19), 3, 63, []), (47, (.aload_n 0), 1, 0, []), (48, (.bipush 48), 2, 0, []), (50, (.aload_n 0), 1, 0, []), (51, (.iconst 1), 1, 0, []), (52, (.bipush 12), 2, 0, []), (54, (.invokevirtual 196), 3, 144, []), (57, (.invokevirtual 199), 3, 145, []), (60, (.goto 160), 3, 220, []), (63, (.iload_n 1), 1, 0, []), (64, (.bipush 98), 2, 0, []), (66, (.if_icmp .ne 21), 3, 87, []), (69, (.aload_n 0), 1, 0, []), (70, (.bipush 44), 2, 0, []), (72, (.iload_n 2), 1, 0, []), (73, .iadd, 1, 0, []), (74, (.aload_n 0), 1, 0, []), (75, (.iconst 0), 1, 0, []), (76, (.bipush 12), 2, 0, []), (78, (.invokevirtual 196), 3, 144, []), (81, (.invokevirtual 199), 3, 145, []), (84, (.goto 136), 3, 220, []), (87, (.iload_n 1), 1, 0, []), (88, (.bipush 110), 2, 0, []), (90, (.if_icmp .ne 32), 3, 122, []), (93, (.aload_n 0), 1, 0, []), (94, (.iconst 0), 1, 0, []), (95, (.iconst 2), 1, 0, []), (96, (.invokevirtual 196), 3, 144, []), (99, (.istore_n 3), 1, 0, []), (100, (.aload_n 0), 1, 0, []), (101, (.bipush 16), 2, 0, []), (103, (.iconst 3), 1, 0, []), (104, (.iload_n 2), 1, 0, []), (105, .imul, 1, 0, []), (106, .iadd, 1, 0, []), (107, (.iload_n 3), 1, 0, []), (108, .iadd, 1, 0, []), (109, (.aload_n 0), 1, 0, []), (110, (.iconst 0), 1, 0, []), (111, (.bipush 20), 2, 0, []), (113, (.invokevirtual 196), 3, 144, []), (116, (.invokevirtual 199), 3, 145, []), (119, (.goto 101), 3, 220, []), (122, (.iload_n 1), 1, 0, []), (123, (.bipush 101), 2, 0, []), (125, (.if_icmp .ne 38), 3, 163, []), (128, (.aload_n 0), 1, 0, []), (129, (.iconst 0), 1, 0, []), (130, (.iconst 3), 1, 0, []), (131, (.invokevirtual 196), 3, 144, []), (134, (.istore_n 3), 1, 0, []), (135, (.aload_n 0), 1, 0, []), (136, (.iconst 4), 1, 0, []), (137, (.iload_n 2), 1, 0, []), (138, .imul, 1, 0, []), (139, (.iload_n 3), 1, 0, []), (140, .iadd, 1, 0, []), (141, (.aload_n 0), 1, 0, []), (142, (.iload_n 3), 1, 0, []), (143, (.iload_n 2), 1, 0, []), (144, (.if_icmp .ne 7), 3, 151, []), (147, (.iconst 1), 1, 0, []), (148, (.goto 4), 3, 152, []), (151, (.iconst 0), 1, 0, []), (152, (.bipush 30), 2, 0, []), (154, (.invokevirtual 196), 3, 144, []), (157, (.invokevirtual 199), 3, 145, []), (160, (.goto 60), 3, 220, []), (163, (.aload_n 0), 1, 0, []), (164, (.aload_n 0), 1, 0, []), (165, (.getfield 180), 3, 274, []), (168, (.iconst 1), 1, 0, []), (169, (.if_icmp .ne 27), 3, 196, []), (172, (.aload_n 0), 1, 0, []), (173, (.getfield 177), 3, 275, []), (176, (.iconst 0), 1, 0, []), (177, (.iconst 3), 1, 0, []), (178, (.invokestatic 57), 3, 85, []), (181, (.ifCond .eq 15), 3, 196, []), (184, (.aload_n 0), 1, 0, []), (185, (.getfield 177), 3, 275, []), (188, (.iload_n 2), 1, 0, []), (189, (.if_icmp .eq 7), 3, 196, []), (192, (.iconst 1), 1, 0, []), (193, (.goto 4), 3, 197, []), (196, (.iconst 0), 1, 0, []), (197, (.invokevirtual 192), 3, 143, []), (200, (.istore_n 3), 1, 0, []), (201, (.aload_n 0), 1, 0, []), (202, (.bipush 28), 2, 0, []), (204, (.iconst 4), 1, 0, []), (205, (.iload_n 2), 1, 0, []), (206, .imul, 1, 0, []), (207, .iadd, 1, 0, []), (208, (.iload_n 3), 1, 0, []), (209, .iadd, 1, 0, []), (210, (.aload_n 0), 1, 0, []), (211, (.iconst 0), 1, 0, []), (212, (.bipush 9), 2, 0, []), (214, (.invokevirtual 196), 3, 144, []), (217, (.invokevirtual 199), 3, 145, []), (220, (.aload_n 0), 1, 0, []), (221, (.aload_n 0), 1, 0, []), (222, (.getfield 180), 3, 274, []), (225, (.bipush 59), 2, 0, []), (227, (.if_icmp .ne 7), 3, 234, []), (230, (.iconst 1), 1, 0, []), (231, (.goto 4), 3, 235, []), (234, (.iconst 0), 1, 0, []), (235, (.invokevirtual 192), 3, 143, []), (238, .pop, 1, 0, []), (239, .return_, 1, 0, [])]
def q_k147 : List (Nat × q_E) := [(0, (.aload_n 0), 1, 0, []), (1, (.getfield 13), 3, 257, []), (4, (.invokestatic 50), 3, 90, []), (7, (.aload_n 0), 1, 0, []), (8, (.iconst 0), 1, 0, []), (9, (.putfield 171), 3, 272, []), (12, (.aload_n 0), 1, 0, []), (13, (.bipush (-9)), 2, 0, []), (15, (.putfield 186), 3, 276, []), (18, (.iconst 0), 1, 0, []), (19, (.istore_n 1), 1, 0, []), (20, (.aload_n 0), 1, 0, []), (21, (.invokevirtual 189), 3, 142, []), (24, (.aload_n 0), 1, 0, []), (25, (.getfield 186), 3, 276, []), (28, (.bipush (-9)), 2, 0, []), (30, (.if_icmp .ne 20), 3, 50, []), (33, (.aload_n 0), 1, 0, []), (34, (.getfield 180), 3, 274, []), (37, (.ifCond .eq 13), 3, 50, []), (40, (.aload_n 0), 1, 0, []), (41, (.invokevirtual 203), 3, 146, []), (44, (.iinc 1 1), 3, 0, []), (47, (.goto (-23)), 3, 24, []), (50, (.aload_n 0), 1, 0, []), (51, (.getfield 186), 3, 276, []), (54, (.bipush (-9)), 2, 0, []), (56, (.if_icmp .eq 11), 3, 67, []), (59, (.bipush (-10)), 2, 0, []), (61, (.aload_n 0), 1, 0, []), (62, (.getfield 186), 3, 276, []), (65, .isub, 1, 0, []), (66, .ireturn, 1, 0, []), (67, (.iconst 0), 1, 0, []), (68, (.istore_n 2), 1, 0, []), (69, (.iload_n 2), 1, 0, []), (70, (.bipush 49), 2, 0, []), (72, (.if_icmp .ge 21), 3, 93, []), (75, (.aload_n 0), 1, 0, []), (76, (.getfield 7), 3, 256, []), (79, (.iload_n 2), 1, 0, []), (80, (.aload_n 0), 1, 0, []), (81, (.getfield 13), 3, 257, []), (84, (.iload_n 2), 1, 0, []), (85, .iaload, 1, 0, []), (86, .iastore, 1, 0, []), (87, (.iinc 2 1), 3, 0, []), (90, (.goto (-21)), 3, 69, []), (93, (.aload_n 0), 1, 0, []), (94, (.iconst 0), 1, 0, []), (95, (.putfield 168), 3, 271, []), (98, (.aload_n 0), 1, 0, []), (99, (.invokevirtual 54), 3, 91, []), (102, (.iload_n 1), 1, 0, []), (103, .ireturn, 1, 0, [])]
def q_k148 : List (Nat × q_E) := [(0, (.iload_n 0), 1, 0, []), (1, (.iload_n 0), 1, 0, []), (2, (.iconst 1), 1, 0, []), (3, .iushr, 1, 0, []), (4, (.ldc_w 265), 3, 1431655765, []), (7, .iand, 1, 0, []), (8, .isub, 1, 0, []), (9, (.istore_n 0), 1, 0, []), (10, (.iload_n 0), 1, 0, []), (11, (.ldc_w 266), 3, 858993459, []), (14, .iand, 1, 0, []), (15, (.iload_n 0), 1, 0, []), (16, (.iconst 2), 1, 0, []), (17, .iushr, 1, 0, []), (18, (.ldc_w 266), 3, 858993459, []), (21, .iand, 1, 0, []), (22, .iadd, 1, 0, []), (23, (.istore_n 0), 1, 0, []), (24, (.iload_n 0), 1, 0, []), (25, (.iload_n 0), 1, 0, []), (26, (.iconst 4), 1, 0, []), (27, .iushr, 1, 0, []), (28, .iadd, 1, 0, []), (29, (.ldc_w 267), 3, 252645135, []), (32, .iand, 1, 0, []), (33, (.istore_n 0), 1, 0, []), (34, (.iload_n 0), 1, 0, []), (35, (.iload_n 0), 1, 0, []), (36, (.bipush 8), 2, 0, []), (38, .iushr, 1, 0, []), (39, .iadd, 1, 0, []), (40, (.istore_n 0), 1, 0, []), (41, (.iload_n 0), 1, 0, []), (42, (.iload_n 0), 1, 0, []), (43, (.bipush 16), 2, 0, []), (45, .iushr, 1, 0, []), (46, .iadd, 1, 0, []), (47, (.istore_n 0), 1, 0, []), (48, (.iload_n 0), 1, 0, []), (49, (.bipush 63), 2, 0, []), (51, .iand, 1, 0, []), (52, .ireturn, 1, 0, [])]
def q_k149 : List (Nat × q_E) := [(0, (.iload_n 0), 1, 0, []), (1, (.iload_n 1), 1, 0, []), (2, (.if_icmp .lt 7), 3, 9, []), (5, (.iload_n 0), 1, 0, []), (6, (.goto 4), 3, 10, []), (9, (.iload_n 1), 1, 0, []), (10, .ireturn, 1, 0, [])]
def q_k150 : List (Nat × q_E) := [(0, (.iload_n 0), 1, 0, []), (1, (.iload_n 1), 1, 0, []), (2, (.if_icmp .gt 7), 3, 9, []), (5, (.iload_n 0), 1, 0, []), (6, (.goto 4), 3, 10, []), (9, (.iload_n 1), 1, 0, []), (10, .ireturn, 1, 0, [])]
def q_k151 : List (Nat × q_E) := [(0, (.new 7), 3, 7, []), (3, .dup, 1, 0, []), (4, (.invokespecial 9), 3, 50, []), (7, (.astore_n 1), 1, 0, []), (8, (.new 10), 3, 8, []), (11, .dup, 1, 0, []), (12, (.invokespecial 12), 3, 84, []), (15, (.astore_n 2), 1, 0, []), (16, (.iconst 0), 1, 0, []), (17, (.istore_n 3), 1, 0, []), (18, (.iload_n 3), 1, 0, []), (19, (.aload_n 0), 1, 0, []), (20, .arraylength, 1, 0, []), (21, (.bipush 7), 2, 0, []), (23, .isub, 1, 0, []), (24, (.if_icmp .gt 807), 3, 831, []), (27, (.aload_n 0), 1, 0, []), (28, (.iload_n 3), 1, 0, []), (29, .iaload, 1, 0, []), (30, (.bipush 31), 2, 0, []), (32, .iand, 1, 0, []), (33, (.tableswitch 792 0 24 #[115, 138, 151, 164, 187, 210, 253, 296, 309, 332, 345, 388, 421, 464, 539, 572, 585, 608, 631, 674, 687, 710, 723, 746, 769]), 115, 825, [148, 171, 184, 197, 220, 243, 286, 329, 342, 365, 378, 421, 454, 497, 572, 605, 618, 641, 664, 707, 720, 743, 756, 779, 802]), (148, (.aload_n 1), 1, 0, []), (149, (.aload_n 0), 1, 0, []), (150, (.iload_n 3), 1, 0, []), (151, (.iconst 1), 1, 0, []), (152, .iadd, 1, 0, []), (153, .iaload, 1, 0, []), (154, (.invokevirtual 13), 3, 51, []), (157, (.aload_n 2), 1, 0, []), (158, (.aload_n 0), 1, 0, []), (159, (.iload_n 3), 1, 0, []), (160, (.iconst 1), 1, 0, []), (161, .iadd, 1, 0, []), (162, .iaload, 1, 0, []), (163, (.invokevirtual 17), 3, 139, []), (166, (.if_icmp .eq 659), 3, 825, []), (169, (.iconst 0), 1, 0, []), (170, .ireturn, 1, 0, []), (171, (.aload_n 1), 1, 0, []), (172, (.invokevirtual 18), 3, 52, []), (175, (.aload_n 2), 1, 0, []), (176, (.invokevirtual 22), 3, 140, []), (179, (.if_icmp .eq 646), 3, 825, []), (182, (.iconst 0), 1, 0, []), (183, .ireturn, 1, 0, []), (184, (.aload_n 1), 1, 0, []), (185, (.invokevirtual 23), 3, 53, []), (188, (.aload_n 2), 1, 0, []), (189, (.invokevirtual 26), 3, 147, []), (192, (.if_icmp .eq 633), 3, 825, []), (195, (.iconst 0), 1, 0, []), (196, .ireturn, 1, 0, []), (197, (.aload_n 1), 1, 0, []), (198, (.aload_n 0), 1, 0, []), (199, (.iload_n 3), 1, 0, []), (200, (.iconst 1), 1, 0, []), (201, .iadd, 1, 0, []), (202, .iaload, 1, 0, []), (203, (.invokevirtual 27), 3, 54, []), (206, (.aload_n 2), 1, 0, []), (207, (.aload_n 0), 1, 0, []), (208, (.iload_n 3), 1, 0, []), (209, (.iconst 1), 1, 0, []), (210, .iadd, 1, 0, []), (211, .iaload, 1, 0, []), (212, (.invokevirtual 30), 3, 96, []), (215, (.if_icmp .eq 610), 3, 825, []), (218, (.iconst 0), 1, 0, []), (219, .ireturn, 1, 0, []), (220, (.aload_n 1), 1, 0, []), (221, (.aload_n 0), 1, 0, []), (222, (.iload_n 3), 1, 0, []), (223, (.iconst 1), 1, 0, []), (224, .iadd, 1, 0, []), (225, .iaload, 1, 0, []), (226, (.invokevirtual 31), 3, 55, []), (229, (.aload_n 2), 1, 0, []), (230, (.aload_n 0), 1, 0, []), (231, (.iload_n 3), 1, 0, []), (232, (.iconst 1), 1, 0, []), (233, .iadd, 1, 0, []), (234, .iaload, 1, 0, []), (235, (.invokevirtual 34), 3, 97, []), (238, (.if_icmp .eq 587), 3, 825, []), (241, (.iconst 0), 1, 0, []), (242, .ireturn, 1, 0, []), (243, (.aload_n 1), 1, 0, []), (244, (.aload_n 0), 1, 0, []), (245, (.iload_n 3), 1, 0, []), (246, (.iconst 1), 1, 0, []), (247, .iadd, 1, 0, []), (248, .iaload, 1, 0, []), (249, (.aload_n 0), 1, 0, []), (250, (.iload_n 3), 1, 0, []), (251, (.iconst 2), 1, 0, []), (252, .iadd, 1, 0, []), (253, .iaload, 1, 0, []), (254, (.aload_n 0), 1, 0, []), (255, (.iload_n 3), 1, 0, []), (256, (.iconst 3), 1, 0, []), (257, .iadd, 1, 0, []), (258, .iaload, 1, 0, []), (259, (.invokevirtual 35), 3, 56, []), (262, (.aload_n 2), 1, 0, []), (263, (.aload_n 0), 1, 0, []), (264, (.iload_n 3), 1, 0, []), (265, (.iconst 1), 1, 0, []), (266, .iadd, 1, 0, []), (267, .iaload, 1, 0, []), (268, (.aload_n 0), 1, 0, []), (269, (.iload_n 3), 1, 0, []), (270, (.iconst 2), 1, 0, []), (271, .iadd, 1, 0, []), (272, .iaload, 1, 0, []), (273, (.aload_n 0), 1, 0, []), (274, (.iload_n 3), 1, 0, []), (275, (.iconst 3), 1, 0, []), (276, .iadd, 1, 0, []), (277, .iaload, 1, 0, []), (278, (.invokevirtual 39), 3, 98, []), (281, (.if_icmp .eq 544), 3, 825, []), (284, (.iconst 0), 1, 0, []), (285, .ireturn, 1, 0, []), (286, (.aload_n 1), 1, 0, []), (287, (.aload_n 0), 1, 0, []), (288, (.iload_n 3), 1, 0, []), (289, (.iconst 1), 1, 0, []), (290, .iadd, 1, 0, []), (291, .iaload, 1, 0, []), (292, (.aload_n 0), 1, 0, []), (293, (.iload_n 3), 1, 0, []), (294, (.iconst 2), 1, 0, []), (295, .iadd, 1, 0, []), (296, .iaload, 1, 0, []), (297, (.aload_n 0), 1, 0, []), (298, (.iload_n 3), 1, 0, []), (299, (.iconst 3), 1, 0, []), (300, .iadd, 1, 0, []), (301, .iaload, 1, 0, []), (302, (.invokevirtual 40), 3, 57, []), (305, (.aload_n 2), 1, 0, []), (306, (.aload_n 0), 1, 0, []), (307, (.iload_n 3), 1, 0, []), (308, (.iconst 1), 1, 0, []), (309, .iadd, 1, 0, []), (310, .iaload, 1, 0, []), (311, (.aload_n 0), 1, 0, []), (312, (.iload_n 3), 1, 0, []), (313, (.iconst 2), 1, 0, []), (314, .iadd, 1, 0, []), (315, .iaload, 1, 0, []), (316, (.aload_n 0), 1, 0, []), (317, (.iload_n 3), 1, 0, []), (318, (.iconst 3), 1, 0, []), (319, .iadd, 1, 0, []), (320, .iaload, 1, 0, []), (321, (.invokevirtual 43), 3, 99, []), (324, (.if_icmp .eq 501), 3, 825, []), (327, (.iconst 0), 1, 0, []), (328, .ireturn, 1, 0, []), (329, (.aload_n 1), 1, 0, []), (330, (.invokevirtual 44), 3, 58, []), (333, (.aload_n 2), 1, 0, []), (334, (.invokevirtual 47), 3, 101, []), (337, (.if_icmp .eq 488), 3, 825, []), (340, (.iconst 0), 1, 0, []), (341, .ireturn, 1, 0, []), (342, (.aload_n 1), 1, 0, []), (343, (.aload_n 0), 1, 0, []), (344, (.iload_n 3), 1, 0, []), (345, (.iconst 1), 1, 0, []), (346, .iadd, 1, 0, []), (347, .iaload, 1, 0, []), (348, (.invokevirtual 48), 3, 59, []), (351, (.aload_n 2), 1, 0, []), (352, (.aload_n 0), 1, 0, []), (353, (.iload_n 3), 1, 0, []), (354, (.iconst 1), 1, 0, []), (355, .iadd, 1, 0, []), (356, .iaload, 1, 0, []), (357, (.invokevirtual 51), 3, 110, []), (360, (.if_icmp .eq 465), 3, 825, []), (363, (.iconst 0), 1, 0, []), (364, .ireturn, 1, 0, []), (365, (.aload_n 1), 1, 0, []), (366, (.invokevirtual 52), 3, 60, []), (369, (.aload_n 2), 1, 0, []), (370, (.invokevirtual 55), 3, 114, []), (373, (.if_icmp .eq 452), 3, 825, []), (376, (.iconst 0), 1, 0, []), (377, .ireturn, 1, 0, []), (378, (.aload_n 1), 1, 0, []), (379, (.aload_n 0), 1, 0, []), (380, (.iload_n 3), 1, 0, []), (381, (.iconst 1), 1, 0, []), (382, .iadd, 1, 0, []), (383, .iaload, 1, 0, []), (384, (.aload_n 0), 1, 0, []), (385, (.iload_n 3), 1, 0, []), (386, (.iconst 2), 1, 0, []), (387, .iadd, 1, 0, []), (388, .iaload, 1, 0, []), (389, (.aload_n 0), 1, 0, []), (390, (.iload_n 3), 1, 0, []), (391, (.iconst 3), 1, 0, []), (392, .iadd, 1, 0, []), (393, .iaload, 1, 0, []), (394, (.invokevirtual 56), 3, 61, []), (397, (.aload_n 2), 1, 0, []), (398, (.aload_n 0), 1, 0, []), (399, (.iload_n 3), 1, 0, []), (400, (.iconst 1), 1, 0, []), (401, .iadd, 1, 0, []), (402, .iaload, 1, 0, []), (403, (.aload_n 0), 1, 0, []), (404, (.iload_n 3), 1, 0, []), (405, (.iconst 2), 1, 0, []), (406, .iadd, 1, 0, []), (407, .iaload, 1, 0, []), (408, (.aload_n 0), 1, 0, []), (409, (.iload_n 3), 1, 0, []), (410, (.iconst 3), 1, 0, []), (411, .iadd, 1, 0, []), (412, .iaload, 1, 0, []), (413, (.invokevirtual 59), 3, 115, []), (416, (.if_icmp .eq 409), 3, 825, []), (419, (.iconst 0), 1, 0, []), (420, .ireturn, 1, 0, []), (421, (.aload_n 1), 1, 0, []), (422, (.aload_n 0), 1, 0, []), (423, (.iload_n 3), 1, 0, []), (424, (.iconst 1), 1, 0, []), (425, .iadd, 1, 0, []), (426, .iaload, 1, 0, []), (427, (.aload_n 0), 1, 0, []), (428, (.iload_n 3), 1, 0, []), (429, (.iconst 2), 1, 0, []), (430, .iadd, 1, 0, []), (431, .iaload, 1, 0, []), (432, (.invokevirtual 60), 3, 62, []), (435, (.aload_n 2), 1, 0, []), (436, (.aload_n 0), 1, 0, []), (437, (.iload_n 3), 1, 0, []), (438, (.iconst 1), 1, 0, []), (439, .iadd, 1, 0, []), (440, .iaload, 1, 0, []), (441, (.aload_n 0), 1, 0, []), (442, (.iload_n 3), 1, 0, []), (443, (.iconst 2), 1, 0, []), (444, .iadd, 1, 0, []), (445, .iaload, 1, 0, []), (446, (.invokevirtual 64), 3, 117, []), (449, (.if_icmp .eq 376), 3, 825, []), (452, (.iconst 0), 1, 0, []), (453, .ireturn, 1, 0, []), (454, (.aload_n 1), 1, 0, []), (455, (.aload_n 0), 1, 0, []), (456, (.iload_n 3), 1, 0, []), (457, (.iconst 1), 1, 0, []), (458, .iadd, 1, 0, []), (459, .iaload, 1, 0, []), (460, (.aload_n 0), 1, 0, []), (461, (.iload_n 3), 1, 0, []), (462, (.iconst 2), 1, 0, []), (463, .iadd, 1, 0, []), (464, .iaload, 1, 0, []), (465, (.aload_n 0), 1, 0, []), (466, (.iload_n 3), 1, 0, []), (467, (.iconst 3), 1, 0, []), (468, .iadd, 1, 0, []), (469, .iaload, 1, 0, []), (470, (.invokevirtual 65), 3, 63, []), (473, (.aload_n 2), 1, 0, []), (474, (.aload_n 0), 1, 0, []), (475, (.iload_n 3), 1, 0, []), (476, (.iconst 1), 1, 0, []), (477, .iadd, 1, 0, []), (478, .iaload, 1, 0, []), (479, (.aload_n 0), 1, 0, []), (480, (.iload_n 3), 1, 0, []), (481, (.iconst 2), 1, 0, []), (482, .iadd, 1, 0, []), (483, .iaload, 1, 0, []), (484, (.aload_n 0), 1, 0, []), (485, (.iload_n 3), 1, 0, []), (486, (.iconst 3), 1, 0, []), (487, .iadd, 1, 0, []), (488, .iaload, 1, 0, []), (489, (.invokevirtual 68), 3, 118, []), (492, (.if_icmp .eq 333), 3, 825, []), (495, (.iconst 0), 1, 0, []), (496, .ireturn, 1, 0, []), (497, (.aload_n 1), 1, 0, []), (498, (.aload_n 0), 1, 0, []), (499, (.iload_n 3), 1, 0, []), (500, (.iconst 1), 1, 0, []), (501, .iadd, 1, 0, []), (502, .iaload, 1, 0, []), (503, (.aload_n 0), 1, 0, []), (504, (.iload_n 3), 1, 0, []), (505, (.iconst 2), 1, 0, []), (506, .iadd, 1, 0, []), (507, .iaload, 1, 0, []), (508, (.aload_n 0), 1, 0, []), (509, (.iload_n 3), 1, 0, []), (510, (.iconst 3), 1, 0, []), (511, .iadd, 1, 0, []), (512, .iaload, 1, 0, []), (513, (.aload_n 0), 1, 0, []), (514, (.iload_n 3), 1, 0, []), (515, (.iconst 4), 1, 0, []), (516, .iadd, 1, 0, []), (517, .iaload, 1, 0, []), (518, (.aload_n 0), 1, 0, []), (519, (.iload_n 3), 1, 0, []), (520, (.iconst 5), 1, 0, []), (521, .iadd, 1, 0, []), (522, .iaload, 1, 0, []), (523, (.aload_n 0), 1, 0, []), (524, (.iload_n 3), 1, 0, []), (525, (.bipush 6), 2, 0, []), (527, .iadd, 1, 0, []), (528, .iaload, 1, 0, []), (529, (.invokevirtual 69), 3, 64, []), (532, (.aload_n 2), 1, 0, []), (533, (.aload_n 0), 1, 0, []), (534, (.iload_n 3), 1, 0, []), (535, (.iconst 1), 1, 0, []), (536, .iadd, 1, 0, []), (537, .iaload, 1, 0, []), (538, (.aload_n 0), 1, 0, []), (539, (.iload_n 3), 1, 0, []), (540, (.iconst 2), 1, 0, []), (541, .iadd, 1, 0, []), (542, .iaload, 1, 0, []), (543, (.aload_n 0), 1, 0, []), (544, (.iload_n 3), 1, 0, []), (545, (.iconst 3), 1, 0, []), (546, .iadd, 1, 0, []), (547, .iaload, 1, 0, []), (548, (.aload_n 0), 1, 0, []), (549, (.iload_n 3), 1, 0, []), (550, (.iconst 4), 1, 0, []), (551, .iadd, 1, 0, []), (552, .iaload, 1, 0, []), (553, (.aload_n 0), 1, 0, []), (554, (.iload_n 3), 1, 0, []), (555, (.iconst 5), 1, 0, []), (556, .iadd, 1, 0, []), (557, .iaload, 1, 0, []), (558, (.aload_n 0), 1, 0, []), (559, (.iload_n 3), 1, 0, []), (560, (.bipush 6), 2, 0, []), (562, .iadd, 1, 0, []), (563, .iaload, 1, 0, []), (564, (.invokevirtual 73), 3, 125, []), (567, (.if_icmp .eq 258), 3, 825, []), (570, (.iconst 0), 1, 0, []), (571, .ireturn, 1, 0, []), (572, (.aload_n 1), 1, 0, []), (573, (.aload_n 0), 1, 0, []), (574, (.iload_n 3), 1, 0, []), (575, (.iconst 1), 1, 0, []), (576, .iadd, 1, 0, []), (577, .iaload, 1, 0, []), (578, (.aload_n 0), 1, 0, []), (579, (.iload_n 3), 1, 0, []), (580, (.iconst 2), 1, 0, []), (581, .iadd, 1, 0, []), (582, .iaload, 1, 0, []), (583, (.invokevirtual 74), 3, 65, []), (586, (.aload_n 2), 1, 0, []), (587, (.aload_n 0), 1, 0, []), (588, (.iload_n 3), 1, 0, []), (589, (.iconst 1), 1, 0, []), (590, .iadd, 1, 0, []), (591, .iaload, 1, 0, []), (592, (.aload_n 0), 1, 0, []), (593, (.iload_n 3), 1, 0, []), (594, (.iconst 2), 1, 0, []), (595, .iadd, 1, 0, []), (596, .iaload, 1, 0, []), (597, (.invokevirtual 77), 3, 126, []), (600, (.if_icmp .eq 225), 3, 825, []), (603, (.iconst 0), 1, 0, []), (604, .ireturn, 1, 0, []), (605, (.aload_n 1), 1, 0, []), (606, (.invokevirtual 78), 3, 66, []), (609, (.aload_n 2), 1, 0, []), (610, (.invokevirtual 81), 3, 128, []), (613, (.if_icmp .eq 212), 3, 825, []), (616, (.iconst 0), 1, 0, []), (617, .ireturn, 1, 0, []), (618, (.aload_n 1), 1, 0, []), (619, (.aload_n 0), 1, 0, []), (620, (.iload_n 3), 1, 0, []), (621, (.iconst 1), 1, 0, []), (622, .iadd, 1, 0, []), (623, .iaload, 1, 0, []), (624, (.invokevirtual 82), 3, 67, []), (627, (.aload_n 2), 1, 0, []), (628, (.aload_n 0), 1, 0, []), (629, (.iload_n 3), 1, 0, []), (630, (.iconst 1), 1, 0, []), (631, .iadd, 1, 0, []), (632, .iaload, 1, 0, []), (633, (.invokevirtual 85), 3, 129, []), (636, (.if_icmp .eq 189), 3, 825, []), (639, (.iconst 0), 1, 0, []), (640, .ireturn, 1, 0, []), (641, (.aload_n 1), 1, 0, []), (642, (.aload_n 0), 1, 0, []), (643, (.iload_n 3), 1, 0, []), (644, (.iconst 1), 1, 0, []), (645, .iadd, 1, 0, []), (646, .iaload, 1, 0, []), (647, (.invokevirtual 86), 3, 68, []), (650, (.aload_n 2), 1, 0, []), (651, (.aload_n 0), 1, 0, []), (652, (.iload_n 3), 1, 0, []), (653, (.iconst 1), 1, 0, []), (654, .iadd, 1, 0, []), (655, .iaload, 1, 0, []), (656, (.invokevirtual 89), 3, 113, []), (659, (.if_icmp .eq 166), 3, 825, []), (662, (.iconst 0), 1, 0, []), (663, .ireturn, 1, 0, []), (664, (.aload_n 1), 1, 0, []), (665, (.aload_n 0), 1, 0, []), (666, (.iload_n 3), 1, 0, []), (667, (.iconst 1), 1, 0, []), (668, .iadd, 1, 0, []), (669, .iaload, 1, 0, []), (670, (.aload_n 0), 1, 0, []), (671, (.iload_n 3), 1, 0, []), (672, (.iconst 2), 1, 0, []), (673, .iadd, 1, 0, []), (674, .iaload, 1, 0, []), (675, (.aload_n 0), 1, 0, []), (676, (.iload_n 3), 1, 0, []), (677, (.iconst 3), 1, 0, []), (678, .iadd, 1, 0, []), (679, .iaload, 1, 0, []), (680, (.invokevirtual 90), 3, 69, []), (683, (.aload_n 2), 1, 0, []), (684, (.aload_n 0), 1, 0, []), (685, (.iload_n 3), 1, 0, []), (686, (.iconst 1), 1, 0, []), (687, .iadd, 1, 0, []), (688, .iaload, 1, 0, []), (689, (.aload_n 0), 1, 0, []), (690, (.iload_n 3), 1, 0, []), (691, (.iconst 2), 1, 0, []), (692, .iadd, 1, 0, []), (693, .iaload, 1, 0, []), (694, (.aload_n 0), 1, 0, []), (695, (.iload_n 3), 1, 0, []), (696, (.iconst 3), 1, 0, []), (697, .iadd, 1, 0, []), (698, .iaload, 1, 0, []), (699, (.invokevirtual 93), 3, 130, []), (702, (.if_icmp .eq 123), 3, 825, []), (705, (.iconst 0), 1, 0, []), (706, .ireturn, 1, 0, []), (707, (.aload_n 1), 1, 0, []), (708, (.invokevirtual 94), 3, 70, []), (711, (.aload_n 2), 1, 0, []), (712, (.invokevirtual 97), 3, 131, []), (715, (.if_icmp .eq 110), 3, 825, []), (718, (.iconst 0), 1, 0, []), (719, .ireturn, 1, 0, []), (720, (.aload_n 1), 1, 0, []), (721, (.aload_n 0), 1, 0, []), (722, (.iload_n 3), 1, 0, []), (723, (.iconst 1), 1, 0, []), (724, .iadd, 1, 0, []), (725, .iaload, 1, 0, []), (726, (.invokevirtual 98), 3, 71, []), (729, (.aload_n 2), 1, 0, []), (730, (.aload_n 0), 1, 0, []), (731, (.iload_n 3), 1, 0, []), (732, (.iconst 1), 1, 0, []), (733, .iadd, 1, 0, []), (734, .iaload, 1, 0, []), (735, (.invokevirtual 101), 3, 133, []), (738, (.if_icmp .eq 87), 3, 825, []), (741, (.iconst 0), 1, 0, []), (742, .ireturn, 1, 0, []), (743, (.aload_n 1), 1, 0, []), (744, (.invokevirtual 102), 3, 72, []), (747, (.aload_n 2), 1, 0, []), (748, (.invokevirtual 105), 3, 134, []), (751, (.if_icmp .eq 74), 3, 825, []), (754, (.iconst 0), 1, 0, []), (755, .ireturn, 1, 0, []), (756, (.aload_n 1), 1, 0, []), (757, (.aload_n 0), 1, 0, []), (758, (.iload_n 3), 1, 0, []), (759, (.iconst 1), 1, 0, []), (760, .iadd, 1, 0, []), (761, .iaload, 1, 0, []), (762, (.invokevirtual 106), 3, 73, []), (765, (.aload_n 2), 1, 0, []), (766, (.aload_n 0), 1, 0, []), (767, (.iload_n 3), 1, 0, []), (768, (.iconst 1), 1, 0, []), (769, .iadd, 1, 0, []), (770, .iaload, 1, 0, []), (771, (.invokevirtual 109), 3, 135, []), (774, (.if_icmp .eq 51), 3, 825, []), (777, (.iconst 0), 1, 0, []), (778, .ireturn, 1, 0, []), (779, (.aload_n 1), 1, 0, []), (780, (.aload_n 0), 1, 0, []), (781, (.iload_n 3), 1, 0, []), (782, (.iconst 1), 1, 0, []), (783, .iadd, 1, 0, []), (784, .iaload, 1, 0, []), (785, (.invokevirtual 110), 3, 74, []), (788, (.aload_n 2), 1, 0, []), (789, (.aload_n 0), 1, 0, []), (790, (.iload_n 3), 1, 0, []), (791, (.iconst 1), 1, 0, []), (792, .iadd, 1, 0, []), (793, .iaload, 1, 0, []), (794, (.invokevirtual 113), 3, 136, []), (797, (.if_icmp .eq 28), 3, 825, []), (800, (.iconst 0), 1, 0, []), (801, .ireturn, 1, 0, []), (802, (.aload_n 1), 1, 0, []), (803, (.aload_n 0), 1, 0, []), (804, (.iload_n 3), 1, 0, []), (805, (.iconst 1), 1, 0, []), (806, .iadd, 1, 0, []), (807, .iaload, 1, 0, []), (808, (.invokevirtual 114), 3, 75, []), (811, (.aload_n 2), 1, 0, []), (812, (.aload_n 0), 1, 0, []), (813, (.iload_n 3), 1, 0, []), (814, (.iconst 1), 1, 0, []), (815, .iadd, 1, 0, []), (816, .iaload, 1, 0, []), (817, (.invokevirtual 117), 3, 138, []), (820, (.if_icmp .eq 5), 3, 825, []), (823, (.iconst 0), 1, 0, []), (824, .ireturn, 1, 0, []), (825, (.iinc 3 7), 3, 0, []), (828, (.goto (-810)), 3, 18, []), (831, (.iconst 1), 1, 0, []), (832, .ireturn, 1, 0, [])]
def q_codes : List (List (Nat × q_E)) := [q_k0, q_k1, q_k2, q_k3, q_k4, q_k5, q_k6, q_k7, q_k8, q_k9, q_k10, q_k11, q_k12, q_k13, q_k14, q_k15, q_k16, q_k17, q_k18, q_k19, q_k20, q_k21, q_k22, q_k23, q_k24, q_k25, q_k26, q_k27, q_k28, q_k29, q_k30, q_k31, q_k32, q_k33, q_k34, q_k35, q_k36, q_k37, q_k38, q_k39, q_k40, q_k41, q_k42, q_k43, q_k44, q_k45, q_k46, q_k47, q_k48, q_k49, q_k50, q_k51, q_k52, q_k53, q_k54, q_k55, q_k56, q_k57, q_k58, q_k59, q_k60, q_k61, q_k62, q_k63, q_k64, q_k65, q_k66, q_k67, q_k68, q_k69, q_k70, q_k71, q_k72, q_k73, q_k74, q_k75, q_k76, q_k77, q_k78, q_k79, q_k80, q_k81, q_k82, q_k83, q_k84, q_k85, q_k86, q_k87, q_k88, q_k89, q_k90, q_k91, q_k92, q_k93, q_k94, q_k95, q_k96, q_k97, q_k98, q_k99, q_k100, q_k101, q_k102, q_k103, q_k104, q_k105, q_k106, q_k107, q_k108, q_k109, q_k110, q_k111, q_k112, q_k113, q_k114, q_k115, q_k116, q_k117, q_k118, q_k119, q_k120, q_k121, q_k122, q_k123, q_k124, q_k125, q_k126, q_k127, q_k128, q_k129, q_k130, q_k131, q_k132, q_k133, q_k134, q_k135, q_k136, q_k137, q_k138, q_k139, q_k140, q_k141, q_k142, q_k143, q_k144, q_k145, q_k146, q_k147, q_k148, q_k149, q_k150, q_k151]
def q_bs : List ByteArray := [cX0_init, cX0_becomeFirst, cX0_becomes, cX0_forgetsStruck, cX0_isOn, cX0_otherEars, cX1_init, cX1_remembers, cX1_givesLatest, cX2_init, cX2_level, cX2_laysRound, cX2_laysLine, cX2_quietest, cX2_isSteady, cX2_settledAfter, cX2_period, cX2_startsSpare, cX2_changesSpare, cX2_packed, cX3_init, cX3_learns, cX3_hearsBeats, cX3_learnsLine, cX3_makes, cX3_setsRow, cX3_bringsPivot, cX3_clearsColumn, cX3_gotBy, cX4_init, cX4_takesLetter, cX4_empties, cX4_readsInto, cX4_skipsBlanks, cX4_readsItem, cX4_readsEar, cX4_readsNoise, cX4_readsLeak, cX4_readsBudget, cX4_readsMask, cX4_readsNumber, cX4_readsFigures, cX4_readsEnd, cX5_init, cX5_becomeFirst, cX6_init, cX6_takes, cX6_suspects, cX6_least, cX6_best, cX7_init, cX7_type, cX7_clear, cX7_tells, cX7_joins, cX7_leaves, cX7_drifts, cX7_strikes, cX7_trains, cX7_fills, cX7_undo, cX7_pair, cX7_line, cX7_tone, cX7_send, cX7_maker, cX7_clean, cX7_hurt, cX7_settled, cX7_tries, cX7_forget, cX7_which, cX7_ask, cX7_keep, cX7_back, cX7_count, cX7_isLine, cX7_isSymbol, cX7_isLineOn, cX7_powerOf, cX7_powerOfAll, cX7_levelsOf, cX7_learntOtherwise, cX7_cleanAmong, cX8_init, cX8_in, cX8_has, cX8_isLine, cX8_isOn, cX8_bits, cX8_begin, cX8_start, cX8_symbol, cX8_by, cX8_mark, cX8_note, cX8_joins, cX8_leaves, cX8_drifts, cX8_strikes, cX8_heard, cX8_trains, cX8_clearPower, cX8_level, cX8_fillLine, cX8_round, cX8_copyPower, cX8_layPower, cX8_isPower, cX8_isSteady, cX8_fills, cX8_settledAfter, cX8_circle, cX8_settled, cX8_undo, cX8_pair, cX8_powerOf, cX8_line, cX8_tone, cX8_layGrid, cX8_isCleared, cX8_canMake, cX8_made, cX8_got, cX8_isSent, cX8_send, cX8_maker, cX8_cleanBy, cX8_clean, cX8_hurt, cX8_tries, cX8_forget, cX8_may, cX8_which, cX8_ask, cX8_keep, cX8_back, cX8_unlike, cX8_count, cX8_type, cX8_clear, cX8_isItem, cX8_next, cX8_must, cX8_number, cX8_lay, cX8_readItem, cX8_tells, cJ6_bitCount_0f7a4, cJ9_max_7cf53, cJ9_min_7cf53, cL_law]
def q_ys : List MethodName := [yX0_init, yX0_becomeFirst, yX0_becomes, yX0_forgetsStruck, yX0_isOn, yX0_otherEars, yX1_init, yX1_remembers, yX1_givesLatest, yX2_init, yX2_level, yX2_laysRound, yX2_laysLine, yX2_quietest, yX2_isSteady, yX2_settledAfter, yX2_period, yX2_startsSpare, yX2_changesSpare, yX2_packed, yX3_init, yX3_learns, yX3_hearsBeats, yX3_learnsLine, yX3_makes, yX3_setsRow, yX3_bringsPivot, yX3_clearsColumn, yX3_gotBy, yX4_init, yX4_takesLetter, yX4_empties, yX4_readsInto, yX4_skipsBlanks, yX4_readsItem, yX4_readsEar, yX4_readsNoise, yX4_readsLeak, yX4_readsBudget, yX4_readsMask, yX4_readsNumber, yX4_readsFigures, yX4_readsEnd, yX5_init, yX5_becomeFirst, yX6_init, yX6_takes, yX6_suspects, yX6_least, yX6_best, yX7_init, yX7_type, yX7_clear, yX7_tells, yX7_joins, yX7_leaves, yX7_drifts, yX7_strikes, yX7_trains, yX7_fills, yX7_undo, yX7_pair, yX7_line, yX7_tone, yX7_send, yX7_maker, yX7_clean, yX7_hurt, yX7_settled, yX7_tries, yX7_forget, yX7_which, yX7_ask, yX7_keep, yX7_back, yX7_count, yX7_isLine, yX7_isSymbol, yX7_isLineOn, yX7_powerOf, yX7_powerOfAll, yX7_levelsOf, yX7_learntOtherwise, yX7_cleanAmong, yX8_init, yX8_in, yX8_has, yX8_isLine, yX8_isOn, yX8_bits, yX8_begin, yX8_start, yX8_symbol, yX8_by, yX8_mark, yX8_note, yX8_joins, yX8_leaves, yX8_drifts, yX8_strikes, yX8_heard, yX8_trains, yX8_clearPower, yX8_level, yX8_fillLine, yX8_round, yX8_copyPower, yX8_layPower, yX8_isPower, yX8_isSteady, yX8_fills, yX8_settledAfter, yX8_circle, yX8_settled, yX8_undo, yX8_pair, yX8_powerOf, yX8_line, yX8_tone, yX8_layGrid, yX8_isCleared, yX8_canMake, yX8_made, yX8_got, yX8_isSent, yX8_send, yX8_maker, yX8_cleanBy, yX8_clean, yX8_hurt, yX8_tries, yX8_forget, yX8_may, yX8_which, yX8_ask, yX8_keep, yX8_back, yX8_unlike, yX8_count, yX8_type, yX8_clear, yX8_isItem, yX8_next, yX8_must, yX8_number, yX8_lay, yX8_readItem, yX8_tells, yJ6_bitCount_0f7a4, yJ9_max_7cf53, yJ9_min_7cf53, yL_law]
def q_mls : List Nat := [1, 3, 3, 2, 2, 5, 2, 2, 2, 1, 7, 5, 7, 6, 3, 4, 4, 3, 3, 4, 1, 4, 6, 7, 5, 9, 6, 5, 5, 1, 2, 2, 4, 1, 3, 5, 5, 5, 4, 3, 6, 5, 1, 1, 2, 1, 4, 4, 2, 11, 2, 2, 1, 3, 2, 3, 5, 5, 1, 3, 1, 5, 3, 4, 8, 4, 1, 2, 2, 4, 2, 2, 1, 2, 2, 2, 1, 1, 2, 4, 3, 4, 3, 4, 1, 3, 2, 1, 2, 3, 2, 2, 2, 3, 3, 2, 2, 2, 5, 4, 5, 6, 3, 5, 6, 2, 3, 3, 4, 2, 3, 2, 2, 4, 2, 4, 4, 3, 4, 6, 7, 4, 6, 9, 3, 7, 3, 6, 1, 2, 4, 2, 6, 5, 9, 3, 3, 3, 2, 2, 2, 1, 1, 3, 3, 3, 4, 3, 1, 2, 2, 4]
def q_nps : List Nat := [0, 1, 1, 0, 1, 2, 0, 1, 1, 0, 5, 3, 4, 3, 2, 2, 2, 1, 2, 1, 0, 1, 2, 2, 3, 4, 1, 1, 2, 0, 1, 0, 1, 0, 1, 1, 1, 1, 1, 1, 3, 0, 0, 0, 0, 0, 3, 1, 1, 1, 0, 1, 0, 0, 1, 1, 3, 3, 0, 1, 0, 3, 2, 3, 6, 2, 0, 1, 1, 3, 0, 1, 0, 1, 1, 1, 1, 1, 1, 1, 0, 1, 0, 1, 0, 3, 2, 1, 1, 1, 1, 0, 1, 2, 2, 0, 1, 1, 3, 3, 2, 0, 1, 2, 1, 0, 1, 1, 1, 0, 1, 0, 0, 1, 0, 3, 1, 2, 3, 1, 1, 1, 5, 6, 2, 6, 2, 1, 0, 1, 3, 0, 2, 1, 0, 1, 1, 0, 1, 1, 0, 1, 0, 1, 2, 2, 0, 0, 1, 2, 2, 1]
def q_nas : List Nat := [1, 2, 2, 1, 2, 3, 1, 2, 2, 1, 5, 4, 5, 4, 3, 3, 3, 2, 3, 1, 1, 2, 3, 3, 4, 5, 2, 2, 3, 1, 2, 1, 2, 1, 2, 2, 2, 2, 2, 2, 4, 1, 1, 1, 1, 1, 4, 2, 1, 2, 1, 2, 1, 1, 2, 2, 4, 4, 1, 2, 1, 4, 3, 4, 7, 3, 1, 2, 2, 4, 1, 2, 1, 2, 2, 2, 1, 1, 2, 2, 1, 2, 1, 2, 1, 3, 2, 1, 2, 1, 1, 1, 1, 2, 2, 1, 2, 2, 4, 4, 3, 1, 2, 3, 2, 1, 2, 2, 2, 1, 2, 1, 1, 2, 1, 4, 2, 3, 4, 2, 2, 2, 6, 7, 3, 7, 3, 2, 1, 2, 4, 1, 3, 2, 1, 2, 2, 1, 2, 2, 1, 1, 1, 2, 3, 3, 1, 1, 1, 2, 2, 1]
def q_rts : List Nat := [0, 0, 0, 0, 2, 1, 0, 0, 0, 0, 1, 0, 0, 1, 2, 1, 1, 0, 2, 3, 0, 1, 0, 1, 2, 0, 2, 0, 1, 0, 2, 1, 1, 0, 0, 0, 0, 0, 0, 0, 1, 1, 2, 0, 0, 0, 2, 1, 1, 1, 0, 1, 1, 1, 1, 1, 1, 1, 1, 1, 1, 1, 1, 1, 1, 1, 1, 1, 1, 1, 1, 1, 1, 1, 1, 1, 2, 2, 2, 1, 1, 1, 1, 1, 0, 2, 2, 2, 2, 1, 0, 0, 1, 1, 1, 0, 1, 1, 1, 1, 1, 1, 0, 1, 0, 0, 0, 0, 2, 2, 1, 1, 1, 1, 1, 1, 1, 1, 1, 0, 2, 2, 1, 1, 2, 1, 1, 1, 1, 1, 1, 1, 2, 1, 1, 1, 1, 1, 1, 1, 1, 2, 0, 1, 1, 0, 0, 1, 1, 1, 1, 2]
def q_cis : List Nat := [0, 0, 0, 0, 0, 0, 1, 1, 1, 2, 2, 2, 2, 2, 2, 2, 2, 2, 2, 2, 3, 3, 3, 3, 3, 3, 3, 3, 3, 4, 4, 4, 4, 4, 4, 4, 4, 4, 4, 4, 4, 4, 4, 5, 5, 6, 6, 6, 6, 6, 7, 7, 7, 7, 7, 7, 7, 7, 7, 7, 7, 7, 7, 7, 7, 7, 7, 7, 7, 7, 7, 7, 7, 7, 7, 7, 7, 7, 7, 7, 7, 7, 7, 7, 8, 8, 8, 8, 8, 8, 8, 8, 8, 8, 8, 8, 8, 8, 8, 8, 8, 8, 8, 8, 8, 8, 8, 8, 8, 8, 8, 8, 8, 8, 8, 8, 8, 8, 8, 8, 8, 8, 8, 8, 8, 8, 8, 8, 8, 8, 8, 8, 8, 8, 8, 8, 8, 8, 8, 8, 8, 8, 8, 8, 8, 8, 8, 8, 9, 10, 10, 11]
def q_frs : List Nat := [1, 1, 0, 0, 0, 0, 2, 1, 1, 1, 0, 2, 1, 0, 4, 4, 5, 0, 3, 0, 1, 2, 1, 1, 1, 0, 0, 0, 1, 1, 0, 0, 4, 0, 3, 2, 2, 2, 2, 2, 1, 0, 1, 1, 0, 1, 0, 0, 0, 1, 3, 1, 1, 5, 2, 2, 2, 2, 3, 5, 2, 1, 2, 1, 2, 2, 3, 3, 6, 1, 0, 1, 2, 1, 1, 5, 0, 0, 1, 0, 1, 1, 1, 2, 1, 0, 0, 1, 2, 1, 0, 0, 0, 1, 0, 0, 3, 3, 2, 2, 1, 2, 0, 1, 2, 3, 0, 0, 0, 4, 5, 5, 4, 6, 0, 2, 0, 3, 2, 1, 2, 3, 1, 2, 3, 4, 4, 4, 5, 5, 2, 0, 3, 4, 5, 2, 2, 3, 5, 1, 0, 0, 1, 2, 3, 0, 4, 5, 0, 0, 0, 9]
def q_los : List Nat := [12, 21, 0, 0, 0, 0, 32, 22, 22, 12, 0, 52, 26, 0, 98, 98, 121, 0, 76, 0, 12, 47, 21, 21, 28, 0, 0, 0, 21, 12, 0, 0, 95, 0, 73, 49, 49, 49, 49, 49, 24, 0, 20, 12, 0, 12, 0, 0, 0, 23, 53, 21, 21, 118, 43, 43, 43, 43, 70, 120, 43, 20, 49, 26, 52, 52, 75, 75, 144, 23, 0, 23, 53, 22, 22, 120, 0, 0, 21, 0, 23, 26, 24, 52, 21, 0, 0, 22, 42, 21, 0, 0, 0, 21, 0, 0, 63, 63, 42, 42, 22, 46, 0, 21, 45, 70, 0, 0, 0, 91, 112, 112, 91, 133, 0, 42, 0, 63, 45, 21, 43, 69, 21, 46, 63, 92, 92, 92, 117, 117, 42, 0, 63, 88, 112, 43, 43, 63, 112, 22, 0, 0, 22, 42, 64, 0, 86, 109, 0, 0, 0, 334]
def q_cps : List Nat := [116, 222, 343, 226, 335, 497, 148, 339, 430, 185, 402, 395, 399, 406, 410, 509, 513, 414, 418, 421, 168, 375, 380, 386, 463, 467, 471, 477, 481, 59, 268, 276, 284, 288, 292, 296, 312, 316, 320, 324, 300, 304, 308, 80, 218, 201, 522, 534, 537, 545, 51, 264, 272, 280, 328, 356, 360, 367, 371, 391, 426, 434, 438, 451, 455, 485, 489, 501, 505, 518, 526, 530, 541, 554, 559, 563, 331, 363, 459, 442, 571, 446, 567, 493, 576, 658, 665, 655, 662, 672, 580, 584, 691, 705, 702, 669, 652, 676, 684, 688, 699, 695, 680, 721, 717, 713, 729, 737, 733, 725, 709, 745, 749, 741, 753, 757, 765, 761, 769, 785, 789, 781, 793, 797, 777, 773, 801, 809, 805, 813, 817, 821, 829, 825, 833, 838, 842, 850, 846, 854, 858, 869, 866, 877, 881, 885, 873, 862, 349, 550, 346, 0]
def q_code (M : Nat) : List (Nat × q_E) := q_codes.getD M []
def q_at (M pc : Nat) : Option q_E := (q_code M).lookup pc
def q_b (M : Nat) : ByteArray := q_bs.getD M (.mk #[])
def q_y (M : Nat) : MethodName := q_ys.getD M yL_law
def q_ml (M : Nat) : Nat := q_mls.getD M 0
def q_np (M : Nat) : Nat := q_nps.getD M 0
def q_na (M : Nat) : Nat := q_nas.getD M 0
def q_rt (M : Nat) : Nat := q_rts.getD M 0
def q_ci (M : Nat) : Nat := q_cis.getD M 0
def q_fr (M : Nat) : Nat := q_frs.getD M 0
def q_lo (M : Nat) : Nat := q_los.getD M 0
def q_cp (M : Nat) : Nat := q_cps.getD M 0
def q_cn (c : Nat) : String := ([RX0, RX1, RX2, RX3, RX4, RX5, RX6, RX7, RX8, RJ6, RJ9, RL] : List String).getD c ""
def q_own (M : Nat) : String := q_cn (q_ci M)
def q_T (c : Nat) : u_T := ([TX0, TX1, TX2, TX3, TX4, TX5, TX6, TX7, TX8] : List u_T).getD c TX0
def q_ty (c : Nat) : Nat → FieldType := ([tyX0, tyX1, tyX2, tyX3, tyX4, tyX5, tyX6, tyX7, tyX8] : List (Nat → FieldType)).getD c tyX0
def q_ret (M : Nat) : Option FieldType := if q_rt M = 0 then none else if q_rt M = 1 then some .int else if q_rt M = 2 then some .boolean else some .long
def q_ini (M : Nat) : Bool := decide ((q_y M).name = "<init>")
/-- links: kind, class, place in its pool, what it is, in one number; the words of the tables that say so, by their places -/
def q_lk0 : List Nat := [38654705665, 64424509442, 77309411331, 90194313220, 103079215104, 140857747439619, 281487861613543]
def q_lp0 : List (List Nat) := [[121], [124], [127], [130], [118], [223, 224, 225, 39], [117, 53, 54]]
def q_lk1 : List Nat := [4445291151392, 4466765987873, 4501125726242, 145221434212354, 215620243161238, 285877318190055, 285937447731400, 356280422105088, 426649166282763]
def q_lp1 : List (List Nat) := [[153], [154], [155], [340, 341, 342, 39], [344, 345, 45, 346], [149, 53, 54], [152, 115, 39], [150, 113, 39], [150, 151]]
def q_lk2 : List Nat := [8834747727936, 8860517531713, 8873402433698, 8894877270177, 8942121910435, 8955006812324, 8989366550532, 9028021256192, 9109625634882, 149645250527244, 149709675036685, 149748329742353, 149778394513426, 149795574382607, 149812754251787, 220031174574090, 220198678298643, 290283954635751]
def q_lp2 : List (List Nat) := [[187], [188], [90], [86], [94], [98], [131], [120], [189], [396, 397, 398, 42], [403, 404, 405, 42], [411, 412, 413, 42], [415, 416, 417, 42], [514, 507, 508, 42], [422, 393, 394, 42], [400, 401, 42], [419, 420, 42], [186, 53, 54]]
def q_lk3 : List Nat := [13232794239072, 13258564042849, 13271448944738, 13357348290563, 13370233192449, 13396002996226, 83751862272000, 83824876716033, 154021822201860, 154047592005654, 154064771874839, 154081951744003, 154146376253465, 154163556122650, 154176441024539, 294682001146855]
def q_lp3 : List (List Nat) := [[170], [171], [173], [128], [122], [125], [381], [472], [376, 333, 334, 39], [377, 378, 379, 41], [383, 384, 385, 41], [387, 224, 225, 39], [464, 465, 466, 41], [468, 469, 470, 41], [474, 475, 476, 41], [169, 53, 54]]
def q_lk4 : List Nat := [17639430684800, 17656610553985, 17673790423170, 17686675325059, 17828409245856, 17849884082338, 17862768984225, 17875653886115, 17888538788004, 158437048582177, 158449933484066, 158467113353251, 158479998255140, 158492883157029, 158505768058918, 158518652960807, 158531537862696, 158548717731882, 158638912045097, 299080047657959]
def q_lp4 : List (List Nat) := [[61], [62], [64], [65], [84], [91], [87], [95], [99], [285, 286, 287, 37], [289, 290, 291, 37], [293, 294, 295, 37], [309, 310, 311, 37], [313, 314, 315, 37], [317, 318, 319, 37], [321, 322, 323, 37], [297, 298, 299, 37], [305, 306, 307, 37], [301, 302, 303, 37], [60, 53, 54]]
def q_lk5 : List Nat := [22028887261344, 22054657065121, 22067541967010, 22080426868899, 22093311770788, 303478094169063]
def q_lp5 : List (List Nat) := [[82], [85], [89], [93], [97], [81, 53, 54]]
def q_lk6 : List Nat := [26435523707072, 26452703576257, 26469883445442, 167224551669807, 237610475716756, 237631950553237, 307876140680167]
def q_lp6 : List (List Nat) := [[203], [204], [205], [546, 532, 533, 43], [547, 348, 46], [548, 549, 45, 550], [202, 53, 54]]
def q_lk7 : List Nat := [30837865185504, 30867929956577, 30885109825762, 30910879629539, 30940944400612, 30971009171685, 31001073942758, 31031138713831, 31048318583016, 31065498452202, 31095563223200, 31138512896129, 31190052503586, 31202937405634, 31215822307561, 31271656882176, 31310311587844, 31331786424321, 31336081391619, 31413390802946, 31426275704993, 31439160606883, 31477815312546, 31537944854625, 31692563677348, 171820166676524, 171845936480257, 171858821382174, 171893181120543, 171910360989728, 171979080466436, 171991965368327, 172086454648853, 172103634518027, 172120814387214, 172137994256392, 172189533864015, 172202418765905, 172245368438862, 172258253340696, 172288318111772, 172305497981011, 172318382882831, 172335562752016, 172348447653934, 172365627523119, 172391397326897, 172404282228738, 172417167130706, 172442936934480, 172455821836293, 242334939742284, 242390774317204, 242425134055501, 242596932747274, 242747256602672, 312274187191271, 312308546928869, 312338611699955, 312381561372872, 312411626143750, 312441690915036, 312471755686097, 312501820457205, 382668701171716, 382698765942789, 382741715615744, 382771780386817, 382801845157891, 382831909928962, 382861974700038, 453110459793419]
def q_lp7 : List (List Nat) := [[227], [228], [229], [230], [231], [232], [233], [234], [235], [237], [83], [63], [156], [206], [236], [119], [132], [123], [129], [126], [88], [96], [92], [172], [100], [215, 216, 217, 38], [219, 220, 221, 39], [265, 266, 267, 37], [273, 274, 275, 37], [281, 282, 283, 37], [332, 333, 334, 39], [336, 337, 338, 40], [372, 373, 374, 41], [392, 393, 394, 42], [407, 408, 409, 42], [427, 428, 429, 40], [439, 441, 0, 36], [443, 445, 1, 36], [456, 458, 2, 36], [460, 461, 462, 41], [478, 479, 480, 41], [490, 492, 3, 36], [506, 507, 508, 42], [510, 511, 512, 42], [519, 520, 521, 43], [531, 532, 533, 43], [542, 543, 544, 43], [555, 341, 342, 39], [564, 566, 4, 36], [568, 570, 5, 36], [494, 495, 496, 39], [329, 330, 36], [347, 348, 46], [361, 362, 36], [447, 401, 42], [535, 536, 43], [52, 53, 54], [57, 58, 37], [78, 79, 38], [114, 115, 39], [146, 147, 40], [166, 167, 41], [183, 184, 42], [199, 200, 43], [55, 56, 37], [76, 77, 38], [112, 113, 39], [144, 145, 40], [164, 165, 41], [181, 182, 42], [197, 198, 43], [112, 151]]
def q_lk8 : List Nat := [35214436860160, 35240206663937, 35253091565826, 35265976467715, 35278861369605, 35291746271494, 35308926140679, 35321811042568, 35334695944457, 35347580846347, 35360465748236, 35373350650125, 35386235552014, 35480724832516, 35497904701706, 35905926594831, 35918811496720, 35931696398609, 35944581300499, 35957466202386, 35983236006164, 176153788678235, 176265457827928, 176278342729823, 176304112533606, 176338472271972, 176364242075751, 176377126977640, 176390011879530, 176402896781417, 176415781683308, 176432961552491, 176445846454381, 176463026323567, 176480206192752, 176493091094644, 176505975996535, 176518860898424, 176531745800314, 176548925669500, 176561810571385, 176574695473275, 176591875342463, 176604760244356, 176617645146245, 176630530048137, 176733609263246, 176746494165135, 176763674034320, 176776558936209, 176793738805394, 246505352986714, 246535417757781, 246552597626967, 246569777496150, 246617022136412, 246659971809369, 246690036580446, 246720101351517, 247076583637133, 316663643767783]
def q_lp8 : List (List Nat) := [[585], [586], [587], [588], [590], [591], [592], [593], [594], [596], [597], [598], [599], [589], [595], [600], [601], [602], [604], [603], [605], [581, 583, 6, 44], [659, 661, 7, 44], [666, 668, 8, 44], [677, 679, 9, 44], [696, 698, 10, 44], [718, 720, 13, 44], [714, 716, 12, 44], [726, 728, 15, 44], [710, 712, 11, 44], [730, 732, 16, 44], [734, 736, 17, 44], [722, 724, 14, 44], [742, 744, 18, 44], [746, 748, 19, 44], [762, 764, 20, 44], [782, 784, 23, 44], [786, 788, 24, 44], [790, 792, 25, 44], [774, 776, 21, 44], [778, 780, 22, 44], [794, 796, 26, 44], [806, 808, 27, 44], [826, 828, 28, 44], [834, 823, 824, 44], [847, 849, 29, 44], [863, 865, 30, 44], [874, 876, 32, 44], [878, 880, 33, 44], [882, 884, 34, 44], [870, 872, 31, 44], [578, 579, 44], [656, 657, 44], [653, 654, 44], [663, 664, 44], [689, 690, 44], [670, 671, 44], [700, 701, 44], [703, 704, 44], [867, 868, 44], [577, 53, 54]]
def q_lk9 : List Nat := [533303225832789, 533306948137779, 533310636756751]
def q_lp9 : List (List Nat) := [[350], [351], [352]]
def q_lk10 : List Nat := []
def q_lp10 : List (List Nat) := []
def q_lk11 : List Nat := [189171834552371, 189189014421643, 189193309388852, 189210489258124, 189214784225333, 189227669127315, 189231964094518, 189244848996448, 189249143963703, 189262028865633, 189266323832888, 189283503702114, 189287798669369, 189300683571299, 189304978538554, 189317863440485, 189322158407739, 189335043309678, 189339338276924, 189352223178866, 189356518146109, 189369403048051, 189373698015294, 189390877884533, 189395172851775, 189408057753718, 189412352720960, 189429532590205, 189433827557441, 189446712459390, 189451007426626, 189463892328576, 189468187295811, 189481072197761, 189485367164996, 189498252066929, 189502547034181, 189515431936130, 189519726903366, 189532611805315, 189536906772551, 189549791674501, 189554086641736, 189566971543686, 189571266510921, 189584151412871, 189588446380106, 189601331282056, 189605626249291, 189618511151242, 329892143038514, 329905027940436, 400252297281543, 400265182183432]
def q_lp11 : List (List Nat) := [[261, 262, 263, 36], [851, 852, 853, 44], [269, 270, 271, 36], [855, 856, 857, 44], [277, 278, 279, 36], [859, 860, 861, 44], [325, 326, 327, 36], [649, 650, 651, 44], [353, 354, 355, 36], [673, 674, 675, 44], [357, 358, 359, 36], [681, 682, 683, 44], [364, 365, 366, 36], [685, 686, 687, 44], [368, 369, 370, 36], [692, 693, 694, 44], [388, 389, 390, 36], [706, 707, 708, 44], [423, 424, 425, 36], [750, 751, 752, 44], [431, 432, 433, 36], [754, 755, 756, 44], [435, 436, 437, 36], [758, 759, 760, 44], [448, 449, 450, 36], [766, 767, 768, 44], [452, 453, 454, 36], [770, 771, 772, 44], [482, 483, 484, 36], [798, 799, 800, 44], [486, 487, 488, 36], [802, 803, 804, 44], [498, 499, 500, 36], [810, 811, 812, 44], [502, 503, 504, 36], [738, 739, 740, 44], [515, 516, 517, 36], [814, 815, 816, 44], [523, 524, 525, 36], [818, 819, 820, 44], [527, 528, 529, 36], [822, 823, 824, 44], [538, 539, 540, 36], [830, 831, 832, 44], [551, 552, 553, 36], [835, 836, 837, 44], [556, 557, 558, 36], [839, 840, 841, 44], [560, 561, 562, 36], [843, 844, 845, 44], [49, 50, 36], [574, 575, 44], [47, 48, 36], [572, 573, 44]]
def q_lk (c : Nat) : List Nat := ([q_lk0, q_lk1, q_lk2, q_lk3, q_lk4, q_lk5, q_lk6, q_lk7, q_lk8, q_lk9, q_lk10, q_lk11] : List (List Nat)).getD c []
def q_lp (c : Nat) : List (List Nat) := ([q_lp0, q_lp1, q_lp2, q_lp3, q_lp4, q_lp5, q_lp6, q_lp7, q_lp8, q_lp9, q_lp10, q_lp11] : List (List (List Nat))).getD c []
end
section
/-! ===== one step of the pure machine; its runs ===== -/
def q_ins (X : Nat × (Nat → Int32)) (M pc : Nat) (L S : List Value) (w : q_M) (i : Instr) (n g : Nat) (pl : List Nat) : Option q_D := match i with
  | .iconst c => q_go M (pc + n) L (.int (Int32.ofInt c) :: S) w
  | .bipush c => q_go M (pc + n) L (.int (Int8.ofInt c).toInt32 :: S) w
  | .sipush c => q_go M (pc + n) L (.int (Int16.ofInt c).toInt32 :: S) w
  | .ldc_w _ => q_go M (pc + n) L (.int (Int32.ofNat g) :: S) w
  | .lconst c => q_go M (pc + n) L (.long (Int64.ofNat c) :: S) w
  | .iload_n k => q_ldi M (pc + n) L S w k
  | .iload k => q_ldi M (pc + n) L S w k
  | .lload_n k => q_ldl M (pc + n) L S w k
  | .aload_n k => q_lda M (pc + n) L S w k
  | .istore_n k => q_sti M (pc + n) L S w k
  | .istore k => q_sti M (pc + n) L S w k
  | .lstore_n k => q_stl M (pc + n) L S w k
  | .astore_n k => q_sta M (pc + n) L S w k
  | .iinc k c => (match L[k]? with
    | some (.int x) => if M = 19 ∧ k = 2 then none else q_go M (pc + n) (q_st1 L k (.int (x + Int32.ofInt c))) S w
    | _ => none)
  | .iadd => q_i2 M (pc + n) L S w (fun x y => x + y)
  | .isub => q_i2 M (pc + n) L S w (fun x y => x - y)
  | .imul => q_i2 M (pc + n) L S w (fun x y => x * y)
  | .iand => q_i2 M (pc + n) L S w (fun x y => x &&& y)
  | .ior => q_i2 M (pc + n) L S w (fun x y => x ||| y)
  | .ixor => q_i2 M (pc + n) L S w (fun x y => x ^^^ y)
  | .ishl => q_i2 M (pc + n) L S w (fun x y => x <<< (y &&& 31))
  | .ishr => q_i2 M (pc + n) L S w (fun x y => x >>> (y &&& 31))
  | .iushr => q_i2 M (pc + n) L S w (fun x y => (x.toUInt32 >>> (y.toUInt32 &&& Int32.toUInt32 31)).toInt32)
  | .idiv => (match S with
    | .int y :: .int x :: S => if y = 0 then none else q_go M (pc + n) L (.int (x / y) :: S) w
    | _ => none)
  | .irem => (match S with
    | .int y :: .int x :: S => if y = 0 then none else q_go M (pc + n) L (.int (x - x / y * y) :: S) w
    | _ => none)
  | .i2l => (match S with
    | .int x :: S => q_go M (pc + n) L (.long x.toInt64 :: S) w
    | _ => none)
  | .lshl => (match S with
    | .int y :: .long x :: S => q_go M (pc + n) L (.long (x <<< (y.toInt64 &&& 63)) :: S) w
    | _ => none)
  | .lor => (match S with
    | .long y :: .long x :: S => q_go M (pc + n) L (.long (x ||| y) :: S) w
    | _ => none)
  | .lcmp => (match S with
    | .long y :: .long x :: S => q_go M (pc + n) L (.int (lg_cmp x y) :: S) w
    | _ => none)
  | .dup => (match S with
    | v :: S => if v.category = 1 then q_go M (pc + n) L (v :: v :: S) w else none
    | _ => none)
  | .pop => (match S with
    | v :: S => if v.category = 1 then q_go M (pc + n) L S w else none
    | _ => none)
  | .dup2 => (match S with
    | v :: u :: S => if v.category = 1 ∧ u.category = 1 then q_go M (pc + n) L (v :: u :: v :: u :: S) w else none
    | _ => none)
  | .ifCond .eq _ => q_c1 M (pc + n) g L S w (fun x => decide (x = 0))
  | .ifCond .ne _ => q_c1 M (pc + n) g L S w (fun x => decide (¬ x = 0))
  | .ifCond .lt _ => q_c1 M (pc + n) g L S w (fun x => decide (x < 0))
  | .ifCond .ge _ => q_c1 M (pc + n) g L S w (fun x => decide (0 ≤ x))
  | .ifCond .le _ => q_c1 M (pc + n) g L S w (fun x => decide (x ≤ 0))
  | .if_icmp .eq _ => q_c2 M (pc + n) g L S w (fun x y => decide (x = y))
  | .if_icmp .ne _ => q_c2 M (pc + n) g L S w (fun x y => decide (¬ x = y))
  | .if_icmp .lt _ => q_c2 M (pc + n) g L S w (fun x y => decide (x < y))
  | .if_icmp .ge _ => q_c2 M (pc + n) g L S w (fun x y => decide (y ≤ x))
  | .if_icmp .gt _ => q_c2 M (pc + n) g L S w (fun x y => decide (y < x))
  | .if_icmp .le _ => q_c2 M (pc + n) g L S w (fun x y => decide (x ≤ y))
  | .goto _ => q_go M g L S w
  | .getfield _ => q_gf M (pc + n) L S w (g / 32) (g % 32)
  | .putfield _ => q_pf M (pc + n) L S w (g / 32) (g % 32)
  | .getstatic _ => q_go M (pc + n) L (.float (UInt32.ofNat g) :: S) w
  | .iaload => q_ald X M (pc + n) L S w 9
  | .baload => q_ald X M (pc + n) L S w 10
  | .aaload => q_ald2 M (pc + n) L S w
  | .iastore => q_ast M (pc + n) L S w 9
  | .bastore => q_ast M (pc + n) L S w 10
  | .aastore => q_ast2 M (pc + n) L S w
  | .arraylength => q_alen X M (pc + n) L S w
  | .new _ => q_new M (pc + n) L S w g
  | .newarray _ => q_newa M (pc + n) L S w g
  | .anewarray _ => q_newa M (pc + n) L S w g
  | .invokevirtual _ => q_callV M (pc + n) L S w g (q_na g) (q_ml g) (q_ci g)
  | .invokestatic _ => if g = 149 then q_mm M (pc + n) L S w (fun x y => if x < y then y else x) else if g = 150 then q_mm M (pc + n) L S w (fun x y => if y < x then y else x) else q_call M (pc + n) L S w g (q_na g) (q_ml g)
  | .invokespecial _ => if g = 999 then (match S with
      | [.ref _] => q_go M (pc + n) L [] w
      | _ => none)
    else (match S[q_na (g % 200) - 1]? with
      | some (.ref _) => if 0 < q_na (g % 200) then q_call M (pc + n) L S w (g % 200) (q_na (g % 200)) (q_ml (g % 200)) else none
      | _ => none)
  | .ireturn => q_ret1 S w (q_rt M)
  | .lreturn => (match S with
    | [.long x] => if q_rt M = 3 then some (.inl (some (.long x), w)) else none
    | _ => none)
  | .return_ => (match S with
    | [] => if q_rt M = 0 then some (.inl (none, w)) else none
    | _ => none)
  | .tableswitch _ lo hi _ => q_sw M L S w lo hi pl g
  | .lookupswitch _ ps => (match S with
    | .int x :: S => q_go M (q_lsw ps.toList pl g x) L S w
    | _ => none)
  | _ => none
def q_nxt (X : Nat × (Nat → Int32)) (σ : q_S) : Option q_D := match q_at σ.1 σ.2.1 with
  | none => none
  | some (i, n, g, pl) => q_ins X σ.1 σ.2.1 σ.2.2.1 σ.2.2.2.1 σ.2.2.2.2 i n g pl
def q_run (X : Nat × (Nat → Int32)) : Nat → q_S → Option (Option Value × q_M)
  | 0, _ => none
  | n + 1, σ => match q_nxt X σ with
    | none => none
    | some (.inl r) => some r
    | some (.inr (.inl σ')) => q_run X n σ'
    | some (.inr (.inr (σc, M, pc, L, S))) => match q_run X n σc with
      | none => none
      | some (r, w) => q_run X n (M, pc, L, r.toList ++ S, w)
theorem q_run_s (X : Nat × (Nat → Int32)) (n : Nat) (σ : q_S) : q_run X (n + 1) σ = match q_nxt X σ with
    | none => none
    | some (.inl r) => some r
    | some (.inr (.inl σ')) => q_run X n σ'
    | some (.inr (.inr (σc, M, pc, L, S))) => match q_run X n σc with
      | none => none
      | some (r, w) => q_run X n (M, pc, L, r.toList ++ S, w) := rfl
theorem q_run_1 {X : Nat × (Nat → Int32)} {n : Nat} : ∀ {σ : q_S} {r : Option Value × q_M}, q_run X n σ = some r → q_run X (n + 1) σ = some r := by
  induction n with
  | zero => intro σ r h; cases h
  | succ n ih =>
    intro σ r h
    rw [q_run_s] at h ⊢
    cases hn : q_nxt X σ with
    | none => rw [hn] at h; cases h
    | some d =>
      rw [hn] at h
      rcases d with d | d | ⟨σc, M, pc, L, S⟩
      · exact h
      · exact ih h
      · dsimp only at h ⊢
        cases hc : q_run X n σc with
        | none => rw [hc] at h; cases h
        | some y =>
          rw [hc] at h
          rw [ih hc]
          exact ih h
theorem q_run_le {X : Nat × (Nat → Int32)} {n k : Nat} (hk : n ≤ k) {σ : q_S} {r : Option Value × q_M} (h : q_run X n σ = some r) : q_run X k σ = some r := by
  induction hk with
  | refl => exact h
  | step _ ih => exact q_run_1 ih
/-- the run's end, if there is one -/
def q_ev (X : Nat × (Nat → Int32)) (σ : q_S) (r : Option Value × q_M) : Prop := ∃ n, q_run X n σ = some r
theorem q_ev_det {X : Nat × (Nat → Int32)} {σ : q_S} {r r' : Option Value × q_M} (h : q_ev X σ r) (h' : q_ev X σ r') : r = r' := by
  obtain ⟨n, h⟩ := h
  obtain ⟨k, h'⟩ := h'
  have a := q_run_le (Nat.le_add_right n k) h
  have b := q_run_le (Nat.le_add_left k n) h'
  exact Option.some.inj (a.symm.trans b)
noncomputable def q_ex (X : Nat × (Nat → Int32)) (σ : q_S) : Option (Option Value × q_M) := @dite _ (∃ r, q_ev X σ r) (Classical.propDecidable _) (fun h => some h.choose) (fun _ => none)
theorem q_ex_iff {X : Nat × (Nat → Int32)} {σ : q_S} {r : Option Value × q_M} : q_ex X σ = some r ↔ q_ev X σ r := by
  constructor
  · intro h
    unfold q_ex at h
    by_cases hx : ∃ r, q_ev X σ r
    · rw [dif_pos hx] at h
      rw [← Option.some.inj h]
      exact hx.choose_spec
    · rw [dif_neg hx] at h; cases h
  · intro h
    unfold q_ex
    rw [dif_pos ⟨r, h⟩]
    exact congrArg some (q_ev_det (Exists.choose_spec (⟨r, h⟩ : ∃ r, q_ev X σ r)) h)
theorem q_ex_ext {X : Nat × (Nat → Int32)} {σ : q_S} {o : Option (Option Value × q_M)} (h : ∀ r, q_ev X σ r ↔ o = some r) : q_ex X σ = o := by
  cases o with
  | some r => exact q_ex_iff.mpr ((h r).mpr rfl)
  | none =>
    cases hx : q_ex X σ with
    | none => rfl
    | some r => exact absurd ((h r).mp (q_ex_iff.mp hx)) (by simp)
/-- the three ways to go on -/
theorem q_ex_ret {X : Nat × (Nat → Int32)} {σ : q_S} {r : Option Value × q_M} (h : q_nxt X σ = some (.inl r)) : q_ex X σ = some r :=
  q_ex_iff.mpr ⟨1, by rw [q_run_s, h]⟩
theorem q_ex_go {X : Nat × (Nat → Int32)} {σ σ' : q_S} (h : q_nxt X σ = some (.inr (.inl σ'))) : q_ex X σ = q_ex X σ' := by
  refine q_ex_ext fun r => ⟨fun ⟨n, hn⟩ => ?_, fun hr => ?_⟩
  · cases n with
    | zero => cases hn
    | succ n =>
      rw [q_run_s, h] at hn
      exact q_ex_iff.mpr ⟨n, hn⟩
  · obtain ⟨n, hn⟩ := q_ex_iff.mp hr
    exact ⟨n + 1, by rw [q_run_s, h]; exact hn⟩
theorem q_ex_call {X : Nat × (Nat → Int32)} {σ σc : q_S} {M pc : Nat} {L S : List Value} (h : q_nxt X σ = some (.inr (.inr (σc, M, pc, L, S)))) :
    q_ex X σ = (q_ex X σc).bind (fun r => q_ex X (M, pc, L, r.1.toList ++ S, r.2)) := by
  refine q_ex_ext fun r => ⟨fun ⟨n, hn⟩ => ?_, fun hr => ?_⟩
  · cases n with
    | zero => cases hn
    | succ n =>
      rw [q_run_s, h] at hn
      dsimp only at hn
      cases hc : q_run X n σc with
      | none => rw [hc] at hn; cases hn
      | some y =>
        rw [hc] at hn
        rw [q_ex_iff.mpr ⟨n, hc⟩, Option.bind_some]
        exact q_ex_iff.mpr ⟨n, hn⟩
  · cases hc : q_ex X σc with
    | none => rw [hc] at hr; cases hr
    | some y =>
      rw [hc, Option.bind_some] at hr
      obtain ⟨n, hn⟩ := q_ex_iff.mp hc
      obtain ⟨k, hk⟩ := q_ex_iff.mp hr
      refine ⟨n + k + 1, ?_⟩
      rw [q_run_s, h]
      dsimp only
      rw [q_run_le (Nat.le_add_right n k) hn]
      exact q_run_le (Nat.le_add_left k n) hk
/-- what the machine has made stays made -/
theorem q_go_K {M pc : Nat} {L S : List Value} {w : q_M} {d : q_D} (h : q_go M pc L S w = some d) : d = .inr (.inl (M, pc, L, S, w)) := (Option.some.inj h).symm
def q_grow (K : q_K) (d : q_D) : Prop := match d with
  | .inl r => K <+: r.2.1
  | .inr (.inl σ) => K <+: σ.2.2.2.2.1
  | .inr (.inr (σc, _)) => K <+: σc.2.2.2.2.1
set_option maxHeartbeats 4000000 in
theorem q_ins_grow {X : Nat × (Nat → Int32)} {M pc : Nat} {L S : List Value} {w : q_M} {i : Instr} {n g : Nat} {pl : List Nat} {d : q_D} (h : q_ins X M pc L S w i n g pl = some d) : q_grow w.1 d := by
  unfold q_ins at h
  split at h
  all_goals try simp only [q_i2, q_c1, q_c2, q_ldi, q_lda, q_ldl, q_sti, q_sta, q_stl, q_gf, q_pf, q_ald, q_ast, q_ald2, q_ast2, q_new, q_newa, q_alen, q_callV, q_call, q_ret1, q_sw, q_mm, q_go] at h
  all_goals (repeat' (split at h))
  all_goals first
    | (cases h; done)
    | (cases h; first | exact List.prefix_refl _ | exact List.prefix_append _ _)
theorem q_nxt_grow {X : Nat × (Nat → Int32)} {σ : q_S} {d : q_D} (h : q_nxt X σ = some d) : q_grow σ.2.2.2.2.1 d := by
  unfold q_nxt at h
  split at h
  · cases h
  · exact q_ins_grow h
theorem q_run_grow {X : Nat × (Nat → Int32)} {n : Nat} : ∀ {σ : q_S} {r : Option Value × q_M}, q_run X n σ = some r → σ.2.2.2.2.1 <+: r.2.1 := by
  induction n with
  | zero => intro σ r h; cases h
  | succ n ih =>
    intro σ r h
    rw [q_run_s] at h
    cases hn : q_nxt X σ with
    | none => rw [hn] at h; cases h
    | some d =>
      rw [hn] at h
      have hg := q_nxt_grow hn
      rcases d with d | d | ⟨σc, M, pc, L, S⟩
      · cases h; exact hg
      · exact List.IsPrefix.trans hg (ih h)
      · dsimp only at h
        cases hc : q_run X n σc with
        | none => rw [hc] at h; cases h
        | some y =>
          rw [hc] at h
          exact List.IsPrefix.trans hg (List.IsPrefix.trans (ih hc) (ih h))
theorem q_sl_le {K K' : q_K} (h : K <+: K') : K.length ≤ K'.length ∧ q_sl K ≤ q_sl K' := by
  obtain ⟨t, rfl⟩ := h
  exact ⟨by simp, by simp [q_sl]⟩
end
section
/-! ===== what the tables must say for an instruction; that they do ===== -/
def q_ln (i : Instr) (n : Nat) : Bool := match i with
  | .bipush _ | .iload _ | .istore _ | .newarray _ => n == 2
  | .sipush _ | .ldc_w _ | .iinc _ _ | .ifCond _ _ | .if_icmp _ _ | .goto _ | .getfield _ | .putfield _ | .getstatic _ | .new _ | .anewarray _ | .invokevirtual _ | .invokestatic _ | .invokespecial _ => n == 3
  | .tableswitch _ _ _ _ | .lookupswitch _ _ => true
  | _ => n == 1
/-- the words of a link: kind, class, place in the pool, what it is -/
def q_wk (k c x g : Nat) : List Jvm.Cond :=
  if k = 0 then [.fieldLink (q_cn c) x (q_T (g / 32) (g % 32)).1 (q_T (g / 32) (g % 32)).2.1 (q_T (g / 32) (g % 32)).2.2.1]
  else if k = 1 then [.fieldLink (q_cn c) x RX3 (if g = 0 then "MARKS" else "ONE_BY") "[I"]
  else if k = 2 then [.methodLink (q_cn c) x (q_y g), .instanceMethod (q_y g), .selects (q_own g) (q_y g) (q_y g), .initialized (q_own g)]
  else if k = 3 then (if g = 149 then [.methodLink (q_cn c) x Lib.Math.max.name, .static Lib.Math.max.name, .initialized "java/lang/Math", .code Lib.Math.max.name Lib.Math.max.code 2 (some .int)] else if g = 150 then [.methodLink (q_cn c) x Lib.Math.min.name, .static Lib.Math.min.name, .initialized "java/lang/Math", .code Lib.Math.min.name Lib.Math.min.code 2 (some .int)] else [.methodLink (q_cn c) x (q_y g), .static (q_y g), .initialized (q_own g)])
  else if k = 4 then (if g = 999 then [.methodLink (q_cn c) x objectInit, .instanceMethod objectInit, .code objectInit ⟨#[0xb1]⟩ 1 none]
    else if g < 200 then [.methodLink (q_cn c) x (q_y (g % 200)), .instanceMethod (q_y (g % 200)), .initialized (q_own (g % 200))]
    else [.methodLinkNest (q_cn c) x (q_y (g % 200)) "QuietPairs", .instanceMethod (q_y (g % 200)), .initialized (q_own (g % 200))])
  else if k = 5 then [.classLink (q_cn c) x (q_cn g), .instantiable (q_cn g) (q_ft g).length, .initialized (q_cn g)]
  else if k = 6 then [.classLink (q_cn c) x RX0, .arrayOver (.object RX0)]
  else [.constant (q_cn c) x (Int32.ofNat g)]
def q_dec (n : Nat) : List Jvm.Cond := q_wk (n / 4294967296 / 1024 / 16) (n / 4294967296 / 1024 % 16) (n / 4294967296 % 1024) (n % 4294967296)
def q_enc (k c x g : Nat) : Nat := ((k * 16 + c) * 1024 + x) * 4294967296 + g
def q_kd (i : Instr) : Option (Nat × Nat) := match i with
  | .getfield x | .putfield x => some (0, x)
  | .getstatic x => some (1, x)
  | .invokevirtual x => some (2, x)
  | .invokestatic x => some (3, x)
  | .invokespecial x => some (4, x)
  | .new x => some (5, x)
  | .anewarray x => some (6, x)
  | .ldc_w x => some (7, x)
  | _ => none
def q_lkd (c : Nat) (i : Instr) (g : Nat) : Bool := match q_kd i with
  | some (k, x) => decide (k < 16) && decide (x < 1024) && decide (g < 4294967296) && (q_lk c).contains (q_enc k c x g)
  | none => true
/-- a call has its room, and its method's name is as told -/
def q_cl (M y : Nat) : Bool := decide (y < 149) && decide (q_fr y + 1 ≤ q_fr M) && decide (8 + (q_ml y + 11) + q_lo y ≤ q_lo M)
def q_xc (M pc : Nat) (i : Instr) (g : Nat) (pl : List Nat) : Bool := match i with
  | .ifCond _ o | .if_icmp _ o | .goto o => decide ((pc : Int) + o = (g : Int))
  | .getfield _ => decide (g / 32 < 9) && decide (g % 32 < (q_ft (g / 32)).length)
  | .putfield _ => decide (g / 32 < 9) && decide (g % 32 < (q_ft (g / 32)).length) && ((q_T (g / 32) (g % 32)).2.2.2 == false || (q_ini M && decide ((q_T (g / 32) (g % 32)).1 = q_own M)))
  | .getstatic _ => decide (g < 2)
  | .invokevirtual _ => q_cl M g && decide (q_na g = q_np g + 1)
  | .invokestatic _ => if g = 149 ∨ g = 150 then decide (1 ≤ q_fr M) && decide (21 ≤ q_lo M) else q_cl M g && decide (q_na g = q_np g)
  | .invokespecial _ => if g = 999 then decide (1 ≤ q_fr M) && decide (12 ≤ q_lo M) else q_cl M (g % 200) && decide (q_na (g % 200) = q_np (g % 200) + 1) && q_ini (g % 200) && decide (q_rt (g % 200) = 0)
  | .newarray t => decide ((newarray.typeOf t = .int ∧ g = 9) ∨ (newarray.typeOf t = .boolean ∧ g = 10))
  | .anewarray _ => decide (g = 11)
  | .new _ => decide (g < 9)
  | .tableswitch d lo hi os => decide ((pc : Int) + d = (g : Int)) && decide (pl.map Int.ofNat = os.toList.map (fun o => (pc : Int) + o))
  | .lookupswitch d ps => decide ((pc : Int) + d = (g : Int)) && decide (pl.map Int.ofNat = ps.toList.map (fun o => (pc : Int) + o.2)) && (ps.toList.zip (ps.toList.drop 1)).all (fun (a, next) => a.1 < next.1)
  | _ => true
def q_chk1 (M : Nat) (e : Nat × q_E) : Bool := decide (decode (q_b M) e.1 = .ok (e.2.1, e.2.2.1)) && q_ln e.2.1 e.2.2.1 && q_lkd (q_ci M) e.2.1 e.2.2.2.1 && q_xc M e.1 e.2.1 e.2.2.2.1 e.2.2.2.2
/-- the entries a to a + n of a method's code -/
def q_chk (M a n : Nat) : Bool := (((q_code M).drop a).take n).all (q_chk1 M)
def q_chl (c : Nat) : Bool := decide ((q_lp c).map (fun ps => ps.map (fun j => lw_tbl[j]?)) = (q_lk c).map (fun n => (q_dec n).map some))
set_option maxRecDepth 100000 in
theorem q_cl_0 : (List.range 12).all q_chl = true := by decide +kernel
end
section
set_option maxRecDepth 100000 in
theorem q_c0_0 : q_chk 0 0 19 = true := by decide +kernel
set_option maxRecDepth 100000 in
theorem q_c1_0 : q_chk 1 0 46 = true := by decide +kernel
set_option maxRecDepth 100000 in
theorem q_c2_0 : q_chk 2 0 58 = true := by decide +kernel
set_option maxRecDepth 100000 in
theorem q_c3_0 : q_chk 3 0 13 = true := by decide +kernel
set_option maxRecDepth 100000 in
theorem q_c4_0 : q_chk 4 0 12 = true := by decide +kernel
set_option maxRecDepth 100000 in
theorem q_c5_0 : q_chk 5 0 36 = true := by decide +kernel
set_option maxRecDepth 100000 in
theorem q_c6_0 : q_chk 6 0 21 = true := by decide +kernel
set_option maxRecDepth 100000 in
theorem q_c7_0 : q_chk 7 0 30 = true := by decide +kernel
set_option maxRecDepth 100000 in
theorem q_c8_0 : q_chk 8 0 25 = true := by decide +kernel
set_option maxRecDepth 100000 in
theorem q_c9_0 : q_chk 9 0 11 = true := by decide +kernel
set_option maxRecDepth 100000 in
theorem q_c10_0 : q_chk 10 0 55 = true := by decide +kernel
set_option maxRecDepth 100000 in
theorem q_c11_0 : q_chk 11 0 21 = true := by decide +kernel
set_option maxRecDepth 100000 in
theorem q_c12_0 : q_chk 12 0 66 = true := by decide +kernel
set_option maxRecDepth 100000 in
theorem q_c13_0 : q_chk 13 0 34 = true := by decide +kernel
set_option maxRecDepth 100000 in
theorem q_c14_0 : q_chk 14 0 14 = true := by decide +kernel
set_option maxRecDepth 100000 in
theorem q_c15_0 : q_chk 15 0 21 = true := by decide +kernel
set_option maxRecDepth 100000 in
theorem q_c16_0 : q_chk 16 0 33 = true := by decide +kernel
set_option maxRecDepth 100000 in
theorem q_c17_0 : q_chk 17 0 15 = true := by decide +kernel
set_option maxRecDepth 100000 in
theorem q_c18_0 : q_chk 18 0 22 = true := by decide +kernel
set_option maxRecDepth 100000 in
theorem q_c19_0 : q_chk 19 0 20 = true := by decide +kernel
set_option maxRecDepth 100000 in
theorem q_c20_0 : q_chk 20 0 15 = true := by decide +kernel
set_option maxRecDepth 100000 in
theorem q_c21_0 : q_chk 21 0 28 = true := by decide +kernel
set_option maxRecDepth 100000 in
theorem q_c22_0 : q_chk 22 0 54 = true := by decide +kernel
set_option maxRecDepth 100000 in
theorem q_c23_0 : q_chk 23 0 67 = true := by decide +kernel
set_option maxRecDepth 100000 in
theorem q_c24_0 : q_chk 24 0 67 = true := by decide +kernel
set_option maxRecDepth 100000 in
theorem q_c25_0 : q_chk 25 0 70 = true := by decide +kernel
set_option maxRecDepth 100000 in
theorem q_c25_70 : q_chk 25 70 17 = true := by decide +kernel
end
section
set_option maxRecDepth 100000 in
theorem q_c26_0 : q_chk 26 0 70 = true := by decide +kernel
set_option maxRecDepth 100000 in
theorem q_c26_70 : q_chk 26 70 12 = true := by decide +kernel
set_option maxRecDepth 100000 in
theorem q_c27_0 : q_chk 27 0 61 = true := by decide +kernel
set_option maxRecDepth 100000 in
theorem q_c28_0 : q_chk 28 0 46 = true := by decide +kernel
set_option maxRecDepth 100000 in
theorem q_c29_0 : q_chk 29 0 7 = true := by decide +kernel
set_option maxRecDepth 100000 in
theorem q_c30_0 : q_chk 30 0 20 = true := by decide +kernel
set_option maxRecDepth 100000 in
theorem q_c31_0 : q_chk 31 0 8 = true := by decide +kernel
set_option maxRecDepth 100000 in
theorem q_c32_0 : q_chk 32 0 43 = true := by decide +kernel
set_option maxRecDepth 100000 in
theorem q_c33_0 : q_chk 33 0 20 = true := by decide +kernel
set_option maxRecDepth 100000 in
theorem q_c34_0 : q_chk 34 0 63 = true := by decide +kernel
set_option maxRecDepth 100000 in
theorem q_c35_0 : q_chk 35 0 36 = true := by decide +kernel
set_option maxRecDepth 100000 in
theorem q_c36_0 : q_chk 36 0 31 = true := by decide +kernel
set_option maxRecDepth 100000 in
theorem q_c37_0 : q_chk 37 0 31 = true := by decide +kernel
set_option maxRecDepth 100000 in
theorem q_c38_0 : q_chk 38 0 21 = true := by decide +kernel
set_option maxRecDepth 100000 in
theorem q_c39_0 : q_chk 39 0 13 = true := by decide +kernel
set_option maxRecDepth 100000 in
theorem q_c40_0 : q_chk 40 0 30 = true := by decide +kernel
set_option maxRecDepth 100000 in
theorem q_c41_0 : q_chk 41 0 70 = true := by decide +kernel
set_option maxRecDepth 100000 in
theorem q_c41_70 : q_chk 41 70 3 = true := by decide +kernel
set_option maxRecDepth 100000 in
theorem q_c42_0 : q_chk 42 0 34 = true := by decide +kernel
set_option maxRecDepth 100000 in
theorem q_c43_0 : q_chk 43 0 19 = true := by decide +kernel
set_option maxRecDepth 100000 in
theorem q_c44_0 : q_chk 44 0 54 = true := by decide +kernel
set_option maxRecDepth 100000 in
theorem q_c45_0 : q_chk 45 0 11 = true := by decide +kernel
set_option maxRecDepth 100000 in
theorem q_c46_0 : q_chk 46 0 35 = true := by decide +kernel
set_option maxRecDepth 100000 in
theorem q_c47_0 : q_chk 47 0 56 = true := by decide +kernel
set_option maxRecDepth 100000 in
theorem q_c48_0 : q_chk 48 0 18 = true := by decide +kernel
set_option maxRecDepth 100000 in
theorem q_c49_0 : q_chk 49 0 70 = true := by decide +kernel
end
section
set_option maxRecDepth 100000 in
theorem q_c50_0 : q_chk 50 0 70 = true := by decide +kernel
set_option maxRecDepth 100000 in
theorem q_c50_70 : q_chk 50 70 4 = true := by decide +kernel
set_option maxRecDepth 100000 in
theorem q_c51_0 : q_chk 51 0 18 = true := by decide +kernel
set_option maxRecDepth 100000 in
theorem q_c52_0 : q_chk 52 0 4 = true := by decide +kernel
set_option maxRecDepth 100000 in
theorem q_c53_0 : q_chk 53 0 46 = true := by decide +kernel
set_option maxRecDepth 100000 in
theorem q_c54_0 : q_chk 54 0 31 = true := by decide +kernel
set_option maxRecDepth 100000 in
theorem q_c55_0 : q_chk 55 0 50 = true := by decide +kernel
set_option maxRecDepth 100000 in
theorem q_c56_0 : q_chk 56 0 48 = true := by decide +kernel
set_option maxRecDepth 100000 in
theorem q_c57_0 : q_chk 57 0 46 = true := by decide +kernel
set_option maxRecDepth 100000 in
theorem q_c58_0 : q_chk 58 0 17 = true := by decide +kernel
set_option maxRecDepth 100000 in
theorem q_c59_0 : q_chk 59 0 49 = true := by decide +kernel
set_option maxRecDepth 100000 in
theorem q_c60_0 : q_chk 60 0 15 = true := by decide +kernel
set_option maxRecDepth 100000 in
theorem q_c61_0 : q_chk 61 0 36 = true := by decide +kernel
set_option maxRecDepth 100000 in
theorem q_c62_0 : q_chk 62 0 32 = true := by decide +kernel
set_option maxRecDepth 100000 in
theorem q_c63_0 : q_chk 63 0 46 = true := by decide +kernel
set_option maxRecDepth 100000 in
theorem q_c64_0 : q_chk 64 0 70 = true := by decide +kernel
set_option maxRecDepth 100000 in
theorem q_c64_70 : q_chk 64 70 15 = true := by decide +kernel
set_option maxRecDepth 100000 in
theorem q_c65_0 : q_chk 65 0 47 = true := by decide +kernel
set_option maxRecDepth 100000 in
theorem q_c66_0 : q_chk 66 0 6 = true := by decide +kernel
set_option maxRecDepth 100000 in
theorem q_c67_0 : q_chk 67 0 30 = true := by decide +kernel
set_option maxRecDepth 100000 in
theorem q_c68_0 : q_chk 68 0 20 = true := by decide +kernel
set_option maxRecDepth 100000 in
theorem q_c69_0 : q_chk 69 0 28 = true := by decide +kernel
set_option maxRecDepth 100000 in
theorem q_c70_0 : q_chk 70 0 10 = true := by decide +kernel
set_option maxRecDepth 100000 in
theorem q_c71_0 : q_chk 71 0 20 = true := by decide +kernel
set_option maxRecDepth 100000 in
theorem q_c72_0 : q_chk 72 0 7 = true := by decide +kernel
set_option maxRecDepth 100000 in
theorem q_c73_0 : q_chk 73 0 27 = true := by decide +kernel
set_option maxRecDepth 100000 in
theorem q_c74_0 : q_chk 74 0 32 = true := by decide +kernel
set_option maxRecDepth 100000 in
theorem q_c75_0 : q_chk 75 0 42 = true := by decide +kernel
set_option maxRecDepth 100000 in
theorem q_c76_0 : q_chk 76 0 9 = true := by decide +kernel
set_option maxRecDepth 100000 in
theorem q_c77_0 : q_chk 77 0 9 = true := by decide +kernel
set_option maxRecDepth 100000 in
theorem q_c78_0 : q_chk 78 0 12 = true := by decide +kernel
end
section
set_option maxRecDepth 100000 in
theorem q_c79_0 : q_chk 79 0 23 = true := by decide +kernel
set_option maxRecDepth 100000 in
theorem q_c80_0 : q_chk 80 0 17 = true := by decide +kernel
set_option maxRecDepth 100000 in
theorem q_c81_0 : q_chk 81 0 25 = true := by decide +kernel
set_option maxRecDepth 100000 in
theorem q_c82_0 : q_chk 82 0 26 = true := by decide +kernel
set_option maxRecDepth 100000 in
theorem q_c83_0 : q_chk 83 0 54 = true := by decide +kernel
set_option maxRecDepth 100000 in
theorem q_c84_0 : q_chk 84 0 60 = true := by decide +kernel
set_option maxRecDepth 100000 in
theorem q_c85_0 : q_chk 85 0 10 = true := by decide +kernel
set_option maxRecDepth 100000 in
theorem q_c86_0 : q_chk 86 0 11 = true := by decide +kernel
set_option maxRecDepth 100000 in
theorem q_c87_0 : q_chk 87 0 5 = true := by decide +kernel
set_option maxRecDepth 100000 in
theorem q_c88_0 : q_chk 88 0 14 = true := by decide +kernel
set_option maxRecDepth 100000 in
theorem q_c89_0 : q_chk 89 0 21 = true := by decide +kernel
set_option maxRecDepth 100000 in
theorem q_c90_0 : q_chk 90 0 38 = true := by decide +kernel
set_option maxRecDepth 100000 in
theorem q_c91_0 : q_chk 91 0 59 = true := by decide +kernel
set_option maxRecDepth 100000 in
theorem q_c92_0 : q_chk 92 0 12 = true := by decide +kernel
set_option maxRecDepth 100000 in
theorem q_c93_0 : q_chk 93 0 12 = true := by decide +kernel
set_option maxRecDepth 100000 in
theorem q_c94_0 : q_chk 94 0 17 = true := by decide +kernel
set_option maxRecDepth 100000 in
theorem q_c95_0 : q_chk 95 0 54 = true := by decide +kernel
set_option maxRecDepth 100000 in
theorem q_c96_0 : q_chk 96 0 29 = true := by decide +kernel
set_option maxRecDepth 100000 in
theorem q_c97_0 : q_chk 97 0 34 = true := by decide +kernel
set_option maxRecDepth 100000 in
theorem q_c98_0 : q_chk 98 0 49 = true := by decide +kernel
set_option maxRecDepth 100000 in
theorem q_c99_0 : q_chk 99 0 51 = true := by decide +kernel
set_option maxRecDepth 100000 in
theorem q_c100_0 : q_chk 100 0 47 = true := by decide +kernel
set_option maxRecDepth 100000 in
theorem q_c101_0 : q_chk 101 0 70 = true := by decide +kernel
set_option maxRecDepth 100000 in
theorem q_c101_70 : q_chk 101 70 39 = true := by decide +kernel
set_option maxRecDepth 100000 in
theorem q_c102_0 : q_chk 102 0 19 = true := by decide +kernel
set_option maxRecDepth 100000 in
theorem q_c103_0 : q_chk 103 0 67 = true := by decide +kernel
end
section
set_option maxRecDepth 100000 in
theorem q_c104_0 : q_chk 104 0 70 = true := by decide +kernel
set_option maxRecDepth 100000 in
theorem q_c104_70 : q_chk 104 70 8 = true := by decide +kernel
set_option maxRecDepth 100000 in
theorem q_c105_0 : q_chk 105 0 18 = true := by decide +kernel
set_option maxRecDepth 100000 in
theorem q_c106_0 : q_chk 106 0 17 = true := by decide +kernel
set_option maxRecDepth 100000 in
theorem q_c107_0 : q_chk 107 0 17 = true := by decide +kernel
set_option maxRecDepth 100000 in
theorem q_c108_0 : q_chk 108 0 27 = true := by decide +kernel
set_option maxRecDepth 100000 in
theorem q_c109_0 : q_chk 109 0 17 = true := by decide +kernel
set_option maxRecDepth 100000 in
theorem q_c110_0 : q_chk 110 0 32 = true := by decide +kernel
set_option maxRecDepth 100000 in
theorem q_c111_0 : q_chk 111 0 19 = true := by decide +kernel
set_option maxRecDepth 100000 in
theorem q_c112_0 : q_chk 112 0 31 = true := by decide +kernel
set_option maxRecDepth 100000 in
theorem q_c113_0 : q_chk 113 0 36 = true := by decide +kernel
set_option maxRecDepth 100000 in
theorem q_c114_0 : q_chk 114 0 34 = true := by decide +kernel
set_option maxRecDepth 100000 in
theorem q_c115_0 : q_chk 115 0 51 = true := by decide +kernel
set_option maxRecDepth 100000 in
theorem q_c116_0 : q_chk 116 0 24 = true := by decide +kernel
set_option maxRecDepth 100000 in
theorem q_c117_0 : q_chk 117 0 43 = true := by decide +kernel
set_option maxRecDepth 100000 in
theorem q_c118_0 : q_chk 118 0 47 = true := by decide +kernel
set_option maxRecDepth 100000 in
theorem q_c119_0 : q_chk 119 0 70 = true := by decide +kernel
set_option maxRecDepth 100000 in
theorem q_c119_70 : q_chk 119 70 15 = true := by decide +kernel
set_option maxRecDepth 100000 in
theorem q_c120_0 : q_chk 120 0 70 = true := by decide +kernel
set_option maxRecDepth 100000 in
theorem q_c120_70 : q_chk 120 70 61 = true := by decide +kernel
set_option maxRecDepth 100000 in
theorem q_c121_0 : q_chk 121 0 46 = true := by decide +kernel
set_option maxRecDepth 100000 in
theorem q_c122_0 : q_chk 122 0 45 = true := by decide +kernel
set_option maxRecDepth 100000 in
theorem q_c123_0 : q_chk 123 0 48 = true := by decide +kernel
set_option maxRecDepth 100000 in
theorem q_c124_0 : q_chk 124 0 11 = true := by decide +kernel
end
section
set_option maxRecDepth 100000 in
theorem q_c125_0 : q_chk 125 0 62 = true := by decide +kernel
set_option maxRecDepth 100000 in
theorem q_c126_0 : q_chk 126 0 30 = true := by decide +kernel
set_option maxRecDepth 100000 in
theorem q_c127_0 : q_chk 127 0 70 = true := by decide +kernel
set_option maxRecDepth 100000 in
theorem q_c127_70 : q_chk 127 70 12 = true := by decide +kernel
set_option maxRecDepth 100000 in
theorem q_c128_0 : q_chk 128 0 7 = true := by decide +kernel
set_option maxRecDepth 100000 in
theorem q_c129_0 : q_chk 129 0 31 = true := by decide +kernel
set_option maxRecDepth 100000 in
theorem q_c130_0 : q_chk 130 0 48 = true := by decide +kernel
set_option maxRecDepth 100000 in
theorem q_c131_0 : q_chk 131 0 8 = true := by decide +kernel
set_option maxRecDepth 100000 in
theorem q_c132_0 : q_chk 132 0 51 = true := by decide +kernel
set_option maxRecDepth 100000 in
theorem q_c133_0 : q_chk 133 0 40 = true := by decide +kernel
set_option maxRecDepth 100000 in
theorem q_c134_0 : q_chk 134 0 70 = true := by decide +kernel
set_option maxRecDepth 100000 in
theorem q_c134_70 : q_chk 134 70 24 = true := by decide +kernel
set_option maxRecDepth 100000 in
theorem q_c135_0 : q_chk 135 0 37 = true := by decide +kernel
set_option maxRecDepth 100000 in
theorem q_c136_0 : q_chk 136 0 42 = true := by decide +kernel
set_option maxRecDepth 100000 in
theorem q_c137_0 : q_chk 137 0 42 = true := by decide +kernel
set_option maxRecDepth 100000 in
theorem q_c138_0 : q_chk 138 0 49 = true := by decide +kernel
set_option maxRecDepth 100000 in
theorem q_c139_0 : q_chk 139 0 28 = true := by decide +kernel
set_option maxRecDepth 100000 in
theorem q_c140_0 : q_chk 140 0 8 = true := by decide +kernel
set_option maxRecDepth 100000 in
theorem q_c141_0 : q_chk 141 0 19 = true := by decide +kernel
set_option maxRecDepth 100000 in
theorem q_c142_0 : q_chk 142 0 70 = true := by decide +kernel
set_option maxRecDepth 100000 in
theorem q_c142_70 : q_chk 142 70 70 = true := by decide +kernel
set_option maxRecDepth 100000 in
theorem q_c143_0 : q_chk 143 0 18 = true := by decide +kernel
set_option maxRecDepth 100000 in
theorem q_c144_0 : q_chk 144 0 16 = true := by decide +kernel
set_option maxRecDepth 100000 in
theorem q_c145_0 : q_chk 145 0 10 = true := by decide +kernel
end
section
set_option maxRecDepth 100000 in
theorem q_c146_0 : q_chk 146 0 70 = true := by decide +kernel
set_option maxRecDepth 100000 in
theorem q_c146_70 : q_chk 146 70 68 = true := by decide +kernel
set_option maxRecDepth 100000 in
theorem q_c147_0 : q_chk 147 0 55 = true := by decide +kernel
set_option maxRecDepth 100000 in
theorem q_c148_0 : q_chk 148 0 42 = true := by decide +kernel
set_option maxRecDepth 100000 in
theorem q_c149_0 : q_chk 149 0 7 = true := by decide +kernel
set_option maxRecDepth 100000 in
theorem q_c150_0 : q_chk 150 0 7 = true := by decide +kernel
set_option maxRecDepth 100000 in
theorem q_c151_0 : q_chk 151 0 50 = true := by decide +kernel
set_option maxRecDepth 100000 in
theorem q_c151_50 : q_chk 151 50 50 = true := by decide +kernel
set_option maxRecDepth 100000 in
theorem q_c151_100 : q_chk 151 100 50 = true := by decide +kernel
end
section
set_option maxRecDepth 100000 in
theorem q_c151_150 : q_chk 151 150 50 = true := by decide +kernel
set_option maxRecDepth 100000 in
theorem q_c151_200 : q_chk 151 200 50 = true := by decide +kernel
set_option maxRecDepth 100000 in
theorem q_c151_250 : q_chk 151 250 50 = true := by decide +kernel
set_option maxRecDepth 100000 in
theorem q_c151_300 : q_chk 151 300 50 = true := by decide +kernel
end
section
set_option maxRecDepth 100000 in
theorem q_c151_350 : q_chk 151 350 50 = true := by decide +kernel
set_option maxRecDepth 100000 in
theorem q_c151_400 : q_chk 151 400 50 = true := by decide +kernel
set_option maxRecDepth 100000 in
theorem q_c151_450 : q_chk 151 450 50 = true := by decide +kernel
set_option maxRecDepth 100000 in
theorem q_c151_500 : q_chk 151 500 50 = true := by decide +kernel
set_option maxRecDepth 100000 in
theorem q_c151_550 : q_chk 151 550 1 = true := by decide +kernel
end
section
/-! ===== the certificates joined ===== -/
def q_chd (M : Nat) : Bool := decide ((parseMethodDescriptor (q_y M).desc).map (fun d => d.parameters.length) = some (q_np M)) && decide ((q_y M).cls ≠ "java/lang/invoke/MethodHandle" ∧ (q_y M).cls ≠ "java/lang/invoke/VarHandle") && plainName (q_y M).cls && decide ((q_y M).cls = q_own M)
def q_chw (M : Nat) : Bool := decide (lw_tbl[q_cp M]? = some (.code (q_y M) (q_b M) (q_ml M) (q_ret M)))
set_option maxRecDepth 100000 in
theorem q_cd_0 : (List.range' 0 40).all q_chd = true := by decide +kernel
set_option maxRecDepth 100000 in
theorem q_cd_40 : (List.range' 40 40).all q_chd = true := by decide +kernel
set_option maxRecDepth 100000 in
theorem q_cd_80 : (List.range' 80 40).all q_chd = true := by decide +kernel
set_option maxRecDepth 100000 in
theorem q_cd_120 : (List.range' 120 29).all q_chd = true := by decide +kernel
end
section
set_option maxRecDepth 100000 in
theorem q_cw_0 : (List.range' 0 20).all q_chw = true := by decide +kernel
set_option maxRecDepth 100000 in
theorem q_cw_20 : (List.range' 20 20).all q_chw = true := by decide +kernel
set_option maxRecDepth 100000 in
theorem q_cw_40 : (List.range' 40 20).all q_chw = true := by decide +kernel
set_option maxRecDepth 100000 in
theorem q_cw_60 : (List.range' 60 20).all q_chw = true := by decide +kernel
set_option maxRecDepth 100000 in
theorem q_cw_80 : (List.range' 80 20).all q_chw = true := by decide +kernel
set_option maxRecDepth 100000 in
theorem q_cw_100 : (List.range' 100 20).all q_chw = true := by decide +kernel
set_option maxRecDepth 100000 in
theorem q_cw_120 : (List.range' 120 20).all q_chw = true := by decide +kernel
set_option maxRecDepth 100000 in
theorem q_cw_140 : (List.range' 140 9).all q_chw = true := by decide +kernel
end
section
theorem q_all_in {f : Nat → Bool} {a n M : Nat} (h : (List.range' a n).all f = true) (h1 : a ≤ M) (h2 : M < a + n) : f M = true := List.all_eq_true.mp h M (by rw [List.mem_range'_1]; exact ⟨h1, h2⟩)
theorem q_cd {M : Nat} (h : M < 149) : q_chd M = true := by
  by_cases h0 : M < 40
  · exact q_all_in q_cd_0 (by omega) (by omega)
  by_cases h40 : M < 80
  · exact q_all_in q_cd_40 (by omega) (by omega)
  by_cases h80 : M < 120
  · exact q_all_in q_cd_80 (by omega) (by omega)
  by_cases h120 : M < 160
  · exact q_all_in q_cd_120 (by omega) (by omega)
  exact absurd h (by omega)
theorem q_cw {M : Nat} (h : M < 149) : q_chw M = true := by
  by_cases h0 : M < 20
  · exact q_all_in q_cw_0 (by omega) (by omega)
  by_cases h20 : M < 40
  · exact q_all_in q_cw_20 (by omega) (by omega)
  by_cases h40 : M < 60
  · exact q_all_in q_cw_40 (by omega) (by omega)
  by_cases h60 : M < 80
  · exact q_all_in q_cw_60 (by omega) (by omega)
  by_cases h80 : M < 100
  · exact q_all_in q_cw_80 (by omega) (by omega)
  by_cases h100 : M < 120
  · exact q_all_in q_cw_100 (by omega) (by omega)
  by_cases h120 : M < 140
  · exact q_all_in q_cw_120 (by omega) (by omega)
  by_cases h140 : M < 160
  · exact q_all_in q_cw_140 (by omega) (by omega)
  exact absurd h (by omega)
theorem q_chk_app {M a n k : Nat} (h1 : q_chk M a n = true) (h2 : q_chk M (a + n) k = true) : q_chk M a (n + k) = true := by
  unfold q_chk at *
  rw [List.all_eq_true] at *
  intro e he
  rw [List.take_add, List.drop_drop] at he
  rcases List.mem_append.mp he with h | h
  · exact h1 e h
  · exact h2 e h
theorem q_chk_all {M n : Nat} (h : q_chk M 0 n = true) (hn : (q_code M).length ≤ n) : (q_code M).all (q_chk1 M) = true := by
  unfold q_chk at h
  rwa [List.drop_zero, List.take_of_length_le hn] at h
set_option maxRecDepth 100000 in
theorem q_a0 : (q_code 0).all (q_chk1 0) = true := q_chk_all (n := 19) q_c0_0 (Nat.le_of_ble_eq_true rfl)
set_option maxRecDepth 100000 in
theorem q_a1 : (q_code 1).all (q_chk1 1) = true := q_chk_all (n := 46) q_c1_0 (Nat.le_of_ble_eq_true rfl)
set_option maxRecDepth 100000 in
theorem q_a2 : (q_code 2).all (q_chk1 2) = true := q_chk_all (n := 58) q_c2_0 (Nat.le_of_ble_eq_true rfl)
set_option maxRecDepth 100000 in
theorem q_a3 : (q_code 3).all (q_chk1 3) = true := q_chk_all (n := 13) q_c3_0 (Nat.le_of_ble_eq_true rfl)
set_option maxRecDepth 100000 in
theorem q_a4 : (q_code 4).all (q_chk1 4) = true := q_chk_all (n := 12) q_c4_0 (Nat.le_of_ble_eq_true rfl)
set_option maxRecDepth 100000 in
theorem q_a5 : (q_code 5).all (q_chk1 5) = true := q_chk_all (n := 36) q_c5_0 (Nat.le_of_ble_eq_true rfl)
set_option maxRecDepth 100000 in
theorem q_a6 : (q_code 6).all (q_chk1 6) = true := q_chk_all (n := 21) q_c6_0 (Nat.le_of_ble_eq_true rfl)
set_option maxRecDepth 100000 in
theorem q_a7 : (q_code 7).all (q_chk1 7) = true := q_chk_all (n := 30) q_c7_0 (Nat.le_of_ble_eq_true rfl)
set_option maxRecDepth 100000 in
theorem q_a8 : (q_code 8).all (q_chk1 8) = true := q_chk_all (n := 25) q_c8_0 (Nat.le_of_ble_eq_true rfl)
set_option maxRecDepth 100000 in
theorem q_a9 : (q_code 9).all (q_chk1 9) = true := q_chk_all (n := 11) q_c9_0 (Nat.le_of_ble_eq_true rfl)
set_option maxRecDepth 100000 in
theorem q_a10 : (q_code 10).all (q_chk1 10) = true := q_chk_all (n := 55) q_c10_0 (Nat.le_of_ble_eq_true rfl)
set_option maxRecDepth 100000 in
theorem q_a11 : (q_code 11).all (q_chk1 11) = true := q_chk_all (n := 21) q_c11_0 (Nat.le_of_ble_eq_true rfl)
set_option maxRecDepth 100000 in
theorem q_a12 : (q_code 12).all (q_chk1 12) = true := q_chk_all (n := 66) q_c12_0 (Nat.le_of_ble_eq_true rfl)
set_option maxRecDepth 100000 in
theorem q_a13 : (q_code 13).all (q_chk1 13) = true := q_chk_all (n := 34) q_c13_0 (Nat.le_of_ble_eq_true rfl)
set_option maxRecDepth 100000 in
theorem q_a14 : (q_code 14).all (q_chk1 14) = true := q_chk_all (n := 14) q_c14_0 (Nat.le_of_ble_eq_true rfl)
set_option maxRecDepth 100000 in
theorem q_a15 : (q_code 15).all (q_chk1 15) = true := q_chk_all (n := 21) q_c15_0 (Nat.le_of_ble_eq_true rfl)
set_option maxRecDepth 100000 in
theorem q_a16 : (q_code 16).all (q_chk1 16) = true := q_chk_all (n := 33) q_c16_0 (Nat.le_of_ble_eq_true rfl)
set_option maxRecDepth 100000 in
theorem q_a17 : (q_code 17).all (q_chk1 17) = true := q_chk_all (n := 15) q_c17_0 (Nat.le_of_ble_eq_true rfl)
set_option maxRecDepth 100000 in
theorem q_a18 : (q_code 18).all (q_chk1 18) = true := q_chk_all (n := 22) q_c18_0 (Nat.le_of_ble_eq_true rfl)
set_option maxRecDepth 100000 in
theorem q_a19 : (q_code 19).all (q_chk1 19) = true := q_chk_all (n := 20) q_c19_0 (Nat.le_of_ble_eq_true rfl)
set_option maxRecDepth 100000 in
theorem q_a20 : (q_code 20).all (q_chk1 20) = true := q_chk_all (n := 15) q_c20_0 (Nat.le_of_ble_eq_true rfl)
set_option maxRecDepth 100000 in
theorem q_a21 : (q_code 21).all (q_chk1 21) = true := q_chk_all (n := 28) q_c21_0 (Nat.le_of_ble_eq_true rfl)
set_option maxRecDepth 100000 in
theorem q_a22 : (q_code 22).all (q_chk1 22) = true := q_chk_all (n := 54) q_c22_0 (Nat.le_of_ble_eq_true rfl)
set_option maxRecDepth 100000 in
theorem q_a23 : (q_code 23).all (q_chk1 23) = true := q_chk_all (n := 67) q_c23_0 (Nat.le_of_ble_eq_true rfl)
set_option maxRecDepth 100000 in
theorem q_a24 : (q_code 24).all (q_chk1 24) = true := q_chk_all (n := 67) q_c24_0 (Nat.le_of_ble_eq_true rfl)
set_option maxRecDepth 100000 in
theorem q_a25 : (q_code 25).all (q_chk1 25) = true := q_chk_all (n := 87) (q_chk_app (M := 25) (a := 0) (n := 70) (k := 17) q_c25_0 q_c25_70) (Nat.le_of_ble_eq_true rfl)
set_option maxRecDepth 100000 in
theorem q_a26 : (q_code 26).all (q_chk1 26) = true := q_chk_all (n := 82) (q_chk_app (M := 26) (a := 0) (n := 70) (k := 12) q_c26_0 q_c26_70) (Nat.le_of_ble_eq_true rfl)
set_option maxRecDepth 100000 in
theorem q_a27 : (q_code 27).all (q_chk1 27) = true := q_chk_all (n := 61) q_c27_0 (Nat.le_of_ble_eq_true rfl)
set_option maxRecDepth 100000 in
theorem q_a28 : (q_code 28).all (q_chk1 28) = true := q_chk_all (n := 46) q_c28_0 (Nat.le_of_ble_eq_true rfl)
set_option maxRecDepth 100000 in
theorem q_a29 : (q_code 29).all (q_chk1 29) = true := q_chk_all (n := 7) q_c29_0 (Nat.le_of_ble_eq_true rfl)
set_option maxRecDepth 100000 in
theorem q_a30 : (q_code 30).all (q_chk1 30) = true := q_chk_all (n := 20) q_c30_0 (Nat.le_of_ble_eq_true rfl)
set_option maxRecDepth 100000 in
theorem q_a31 : (q_code 31).all (q_chk1 31) = true := q_chk_all (n := 8) q_c31_0 (Nat.le_of_ble_eq_true rfl)
set_option maxRecDepth 100000 in
theorem q_a32 : (q_code 32).all (q_chk1 32) = true := q_chk_all (n := 43) q_c32_0 (Nat.le_of_ble_eq_true rfl)
set_option maxRecDepth 100000 in
theorem q_a33 : (q_code 33).all (q_chk1 33) = true := q_chk_all (n := 20) q_c33_0 (Nat.le_of_ble_eq_true rfl)
set_option maxRecDepth 100000 in
theorem q_a34 : (q_code 34).all (q_chk1 34) = true := q_chk_all (n := 63) q_c34_0 (Nat.le_of_ble_eq_true rfl)
set_option maxRecDepth 100000 in
theorem q_a35 : (q_code 35).all (q_chk1 35) = true := q_chk_all (n := 36) q_c35_0 (Nat.le_of_ble_eq_true rfl)
set_option maxRecDepth 100000 in
theorem q_a36 : (q_code 36).all (q_chk1 36) = true := q_chk_all (n := 31) q_c36_0 (Nat.le_of_ble_eq_true rfl)
set_option maxRecDepth 100000 in
theorem q_a37 : (q_code 37).all (q_chk1 37) = true := q_chk_all (n := 31) q_c37_0 (Nat.le_of_ble_eq_true rfl)
set_option maxRecDepth 100000 in
theorem q_a38 : (q_code 38).all (q_chk1 38) = true := q_chk_all (n := 21) q_c38_0 (Nat.le_of_ble_eq_true rfl)
set_option maxRecDepth 100000 in
theorem q_a39 : (q_code 39).all (q_chk1 39) = true := q_chk_all (n := 13) q_c39_0 (Nat.le_of_ble_eq_true rfl)
set_option maxRecDepth 100000 in
theorem q_a40 : (q_code 40).all (q_chk1 40) = true := q_chk_all (n := 30) q_c40_0 (Nat.le_of_ble_eq_true rfl)
set_option maxRecDepth 100000 in
theorem q_a41 : (q_code 41).all (q_chk1 41) = true := q_chk_all (n := 73) (q_chk_app (M := 41) (a := 0) (n := 70) (k := 3) q_c41_0 q_c41_70) (Nat.le_of_ble_eq_true rfl)
set_option maxRecDepth 100000 in
theorem q_a42 : (q_code 42).all (q_chk1 42) = true := q_chk_all (n := 34) q_c42_0 (Nat.le_of_ble_eq_true rfl)
set_option maxRecDepth 100000 in
theorem q_a43 : (q_code 43).all (q_chk1 43) = true := q_chk_all (n := 19) q_c43_0 (Nat.le_of_ble_eq_true rfl)
set_option maxRecDepth 100000 in
theorem q_a44 : (q_code 44).all (q_chk1 44) = true := q_chk_all (n := 54) q_c44_0 (Nat.le_of_ble_eq_true rfl)
set_option maxRecDepth 100000 in
theorem q_a45 : (q_code 45).all (q_chk1 45) = true := q_chk_all (n := 11) q_c45_0 (Nat.le_of_ble_eq_true rfl)
set_option maxRecDepth 100000 in
theorem q_a46 : (q_code 46).all (q_chk1 46) = true := q_chk_all (n := 35) q_c46_0 (Nat.le_of_ble_eq_true rfl)
set_option maxRecDepth 100000 in
theorem q_a47 : (q_code 47).all (q_chk1 47) = true := q_chk_all (n := 56) q_c47_0 (Nat.le_of_ble_eq_true rfl)
set_option maxRecDepth 100000 in
theorem q_a48 : (q_code 48).all (q_chk1 48) = true := q_chk_all (n := 18) q_c48_0 (Nat.le_of_ble_eq_true rfl)
set_option maxRecDepth 100000 in
theorem q_a49 : (q_code 49).all (q_chk1 49) = true := q_chk_all (n := 70) q_c49_0 (Nat.le_of_ble_eq_true rfl)
set_option maxRecDepth 100000 in
theorem q_a50 : (q_code 50).all (q_chk1 50) = true := q_chk_all (n := 74) (q_chk_app (M := 50) (a := 0) (n := 70) (k := 4) q_c50_0 q_c50_70) (Nat.le_of_ble_eq_true rfl)
set_option maxRecDepth 100000 in
theorem q_a51 : (q_code 51).all (q_chk1 51) = true := q_chk_all (n := 18) q_c51_0 (Nat.le_of_ble_eq_true rfl)
set_option maxRecDepth 100000 in
theorem q_a52 : (q_code 52).all (q_chk1 52) = true := q_chk_all (n := 4) q_c52_0 (Nat.le_of_ble_eq_true rfl)
set_option maxRecDepth 100000 in
theorem q_a53 : (q_code 53).all (q_chk1 53) = true := q_chk_all (n := 46) q_c53_0 (Nat.le_of_ble_eq_true rfl)
set_option maxRecDepth 100000 in
theorem q_a54 : (q_code 54).all (q_chk1 54) = true := q_chk_all (n := 31) q_c54_0 (Nat.le_of_ble_eq_true rfl)
set_option maxRecDepth 100000 in
theorem q_a55 : (q_code 55).all (q_chk1 55) = true := q_chk_all (n := 50) q_c55_0 (Nat.le_of_ble_eq_true rfl)
set_option maxRecDepth 100000 in
theorem q_a56 : (q_code 56).all (q_chk1 56) = true := q_chk_all (n := 48) q_c56_0 (Nat.le_of_ble_eq_true rfl)
set_option maxRecDepth 100000 in
theorem q_a57 : (q_code 57).all (q_chk1 57) = true := q_chk_all (n := 46) q_c57_0 (Nat.le_of_ble_eq_true rfl)
set_option maxRecDepth 100000 in
theorem q_a58 : (q_code 58).all (q_chk1 58) = true := q_chk_all (n := 17) q_c58_0 (Nat.le_of_ble_eq_true rfl)
set_option maxRecDepth 100000 in
theorem q_a59 : (q_code 59).all (q_chk1 59) = true := q_chk_all (n := 49) q_c59_0 (Nat.le_of_ble_eq_true rfl)
set_option maxRecDepth 100000 in
theorem q_a60 : (q_code 60).all (q_chk1 60) = true := q_chk_all (n := 15) q_c60_0 (Nat.le_of_ble_eq_true rfl)
set_option maxRecDepth 100000 in
theorem q_a61 : (q_code 61).all (q_chk1 61) = true := q_chk_all (n := 36) q_c61_0 (Nat.le_of_ble_eq_true rfl)
set_option maxRecDepth 100000 in
theorem q_a62 : (q_code 62).all (q_chk1 62) = true := q_chk_all (n := 32) q_c62_0 (Nat.le_of_ble_eq_true rfl)
set_option maxRecDepth 100000 in
theorem q_a63 : (q_code 63).all (q_chk1 63) = true := q_chk_all (n := 46) q_c63_0 (Nat.le_of_ble_eq_true rfl)
set_option maxRecDepth 100000 in
theorem q_a64 : (q_code 64).all (q_chk1 64) = true := q_chk_all (n := 85) (q_chk_app (M := 64) (a := 0) (n := 70) (k := 15) q_c64_0 q_c64_70) (Nat.le_of_ble_eq_true rfl)
set_option maxRecDepth 100000 in
theorem q_a65 : (q_code 65).all (q_chk1 65) = true := q_chk_all (n := 47) q_c65_0 (Nat.le_of_ble_eq_true rfl)
set_option maxRecDepth 100000 in
theorem q_a66 : (q_code 66).all (q_chk1 66) = true := q_chk_all (n := 6) q_c66_0 (Nat.le_of_ble_eq_true rfl)
set_option maxRecDepth 100000 in
theorem q_a67 : (q_code 67).all (q_chk1 67) = true := q_chk_all (n := 30) q_c67_0 (Nat.le_of_ble_eq_true rfl)
set_option maxRecDepth 100000 in
theorem q_a68 : (q_code 68).all (q_chk1 68) = true := q_chk_all (n := 20) q_c68_0 (Nat.le_of_ble_eq_true rfl)
set_option maxRecDepth 100000 in
theorem q_a69 : (q_code 69).all (q_chk1 69) = true := q_chk_all (n := 28) q_c69_0 (Nat.le_of_ble_eq_true rfl)
set_option maxRecDepth 100000 in
theorem q_a70 : (q_code 70).all (q_chk1 70) = true := q_chk_all (n := 10) q_c70_0 (Nat.le_of_ble_eq_true rfl)
set_option maxRecDepth 100000 in
theorem q_a71 : (q_code 71).all (q_chk1 71) = true := q_chk_all (n := 20) q_c71_0 (Nat.le_of_ble_eq_true rfl)
set_option maxRecDepth 100000 in
theorem q_a72 : (q_code 72).all (q_chk1 72) = true := q_chk_all (n := 7) q_c72_0 (Nat.le_of_ble_eq_true rfl)
set_option maxRecDepth 100000 in
theorem q_a73 : (q_code 73).all (q_chk1 73) = true := q_chk_all (n := 27) q_c73_0 (Nat.le_of_ble_eq_true rfl)
set_option maxRecDepth 100000 in
theorem q_a74 : (q_code 74).all (q_chk1 74) = true := q_chk_all (n := 32) q_c74_0 (Nat.le_of_ble_eq_true rfl)
set_option maxRecDepth 100000 in
theorem q_a75 : (q_code 75).all (q_chk1 75) = true := q_chk_all (n := 42) q_c75_0 (Nat.le_of_ble_eq_true rfl)
set_option maxRecDepth 100000 in
theorem q_a76 : (q_code 76).all (q_chk1 76) = true := q_chk_all (n := 9) q_c76_0 (Nat.le_of_ble_eq_true rfl)
set_option maxRecDepth 100000 in
theorem q_a77 : (q_code 77).all (q_chk1 77) = true := q_chk_all (n := 9) q_c77_0 (Nat.le_of_ble_eq_true rfl)
set_option maxRecDepth 100000 in
theorem q_a78 : (q_code 78).all (q_chk1 78) = true := q_chk_all (n := 12) q_c78_0 (Nat.le_of_ble_eq_true rfl)
set_option maxRecDepth 100000 in
theorem q_a79 : (q_code 79).all (q_chk1 79) = true := q_chk_all (n := 23) q_c79_0 (Nat.le_of_ble_eq_true rfl)
set_option maxRecDepth 100000 in
theorem q_a80 : (q_code 80).all (q_chk1 80) = true := q_chk_all (n := 17) q_c80_0 (Nat.le_of_ble_eq_true rfl)
set_option maxRecDepth 100000 in
theorem q_a81 : (q_code 81).all (q_chk1 81) = true := q_chk_all (n := 25) q_c81_0 (Nat.le_of_ble_eq_true rfl)
set_option maxRecDepth 100000 in
theorem q_a82 : (q_code 82).all (q_chk1 82) = true := q_chk_all (n := 26) q_c82_0 (Nat.le_of_ble_eq_true rfl)
set_option maxRecDepth 100000 in
theorem q_a83 : (q_code 83).all (q_chk1 83) = true := q_chk_all (n := 54) q_c83_0 (Nat.le_of_ble_eq_true rfl)
set_option maxRecDepth 100000 in
theorem q_a84 : (q_code 84).all (q_chk1 84) = true := q_chk_all (n := 60) q_c84_0 (Nat.le_of_ble_eq_true rfl)
set_option maxRecDepth 100000 in
theorem q_a85 : (q_code 85).all (q_chk1 85) = true := q_chk_all (n := 10) q_c85_0 (Nat.le_of_ble_eq_true rfl)
set_option maxRecDepth 100000 in
theorem q_a86 : (q_code 86).all (q_chk1 86) = true := q_chk_all (n := 11) q_c86_0 (Nat.le_of_ble_eq_true rfl)
set_option maxRecDepth 100000 in
theorem q_a87 : (q_code 87).all (q_chk1 87) = true := q_chk_all (n := 5) q_c87_0 (Nat.le_of_ble_eq_true rfl)
set_option maxRecDepth 100000 in
theorem q_a88 : (q_code 88).all (q_chk1 88) = true := q_chk_all (n := 14) q_c88_0 (Nat.le_of_ble_eq_true rfl)
set_option maxRecDepth 100000 in
theorem q_a89 : (q_code 89).all (q_chk1 89) = true := q_chk_all (n := 21) q_c89_0 (Nat.le_of_ble_eq_true rfl)
set_option maxRecDepth 100000 in
theorem q_a90 : (q_code 90).all (q_chk1 90) = true := q_chk_all (n := 38) q_c90_0 (Nat.le_of_ble_eq_true rfl)
set_option maxRecDepth 100000 in
theorem q_a91 : (q_code 91).all (q_chk1 91) = true := q_chk_all (n := 59) q_c91_0 (Nat.le_of_ble_eq_true rfl)
set_option maxRecDepth 100000 in
theorem q_a92 : (q_code 92).all (q_chk1 92) = true := q_chk_all (n := 12) q_c92_0 (Nat.le_of_ble_eq_true rfl)
set_option maxRecDepth 100000 in
theorem q_a93 : (q_code 93).all (q_chk1 93) = true := q_chk_all (n := 12) q_c93_0 (Nat.le_of_ble_eq_true rfl)
set_option maxRecDepth 100000 in
theorem q_a94 : (q_code 94).all (q_chk1 94) = true := q_chk_all (n := 17) q_c94_0 (Nat.le_of_ble_eq_true rfl)
set_option maxRecDepth 100000 in
theorem q_a95 : (q_code 95).all (q_chk1 95) = true := q_chk_all (n := 54) q_c95_0 (Nat.le_of_ble_eq_true rfl)
set_option maxRecDepth 100000 in
theorem q_a96 : (q_code 96).all (q_chk1 96) = true := q_chk_all (n := 29) q_c96_0 (Nat.le_of_ble_eq_true rfl)
set_option maxRecDepth 100000 in
theorem q_a97 : (q_code 97).all (q_chk1 97) = true := q_chk_all (n := 34) q_c97_0 (Nat.le_of_ble_eq_true rfl)
set_option maxRecDepth 100000 in
theorem q_a98 : (q_code 98).all (q_chk1 98) = true := q_chk_all (n := 49) q_c98_0 (Nat.le_of_ble_eq_true rfl)
set_option maxRecDepth 100000 in
theorem q_a99 : (q_code 99).all (q_chk1 99) = true := q_chk_all (n := 51) q_c99_0 (Nat.le_of_ble_eq_true rfl)
set_option maxRecDepth 100000 in
theorem q_a100 : (q_code 100).all (q_chk1 100) = true := q_chk_all (n := 47) q_c100_0 (Nat.le_of_ble_eq_true rfl)
set_option maxRecDepth 100000 in
theorem q_a101 : (q_code 101).all (q_chk1 101) = true := q_chk_all (n := 109) (q_chk_app (M := 101) (a := 0) (n := 70) (k := 39) q_c101_0 q_c101_70) (Nat.le_of_ble_eq_true rfl)
set_option maxRecDepth 100000 in
theorem q_a102 : (q_code 102).all (q_chk1 102) = true := q_chk_all (n := 19) q_c102_0 (Nat.le_of_ble_eq_true rfl)
set_option maxRecDepth 100000 in
theorem q_a103 : (q_code 103).all (q_chk1 103) = true := q_chk_all (n := 67) q_c103_0 (Nat.le_of_ble_eq_true rfl)
set_option maxRecDepth 100000 in
theorem q_a104 : (q_code 104).all (q_chk1 104) = true := q_chk_all (n := 78) (q_chk_app (M := 104) (a := 0) (n := 70) (k := 8) q_c104_0 q_c104_70) (Nat.le_of_ble_eq_true rfl)
set_option maxRecDepth 100000 in
theorem q_a105 : (q_code 105).all (q_chk1 105) = true := q_chk_all (n := 18) q_c105_0 (Nat.le_of_ble_eq_true rfl)
set_option maxRecDepth 100000 in
theorem q_a106 : (q_code 106).all (q_chk1 106) = true := q_chk_all (n := 17) q_c106_0 (Nat.le_of_ble_eq_true rfl)
set_option maxRecDepth 100000 in
theorem q_a107 : (q_code 107).all (q_chk1 107) = true := q_chk_all (n := 17) q_c107_0 (Nat.le_of_ble_eq_true rfl)
set_option maxRecDepth 100000 in
theorem q_a108 : (q_code 108).all (q_chk1 108) = true := q_chk_all (n := 27) q_c108_0 (Nat.le_of_ble_eq_true rfl)
set_option maxRecDepth 100000 in
theorem q_a109 : (q_code 109).all (q_chk1 109) = true := q_chk_all (n := 17) q_c109_0 (Nat.le_of_ble_eq_true rfl)
set_option maxRecDepth 100000 in
theorem q_a110 : (q_code 110).all (q_chk1 110) = true := q_chk_all (n := 32) q_c110_0 (Nat.le_of_ble_eq_true rfl)
set_option maxRecDepth 100000 in
theorem q_a111 : (q_code 111).all (q_chk1 111) = true := q_chk_all (n := 19) q_c111_0 (Nat.le_of_ble_eq_true rfl)
set_option maxRecDepth 100000 in
theorem q_a112 : (q_code 112).all (q_chk1 112) = true := q_chk_all (n := 31) q_c112_0 (Nat.le_of_ble_eq_true rfl)
set_option maxRecDepth 100000 in
theorem q_a113 : (q_code 113).all (q_chk1 113) = true := q_chk_all (n := 36) q_c113_0 (Nat.le_of_ble_eq_true rfl)
set_option maxRecDepth 100000 in
theorem q_a114 : (q_code 114).all (q_chk1 114) = true := q_chk_all (n := 34) q_c114_0 (Nat.le_of_ble_eq_true rfl)
set_option maxRecDepth 100000 in
theorem q_a115 : (q_code 115).all (q_chk1 115) = true := q_chk_all (n := 51) q_c115_0 (Nat.le_of_ble_eq_true rfl)
set_option maxRecDepth 100000 in
theorem q_a116 : (q_code 116).all (q_chk1 116) = true := q_chk_all (n := 24) q_c116_0 (Nat.le_of_ble_eq_true rfl)
set_option maxRecDepth 100000 in
theorem q_a117 : (q_code 117).all (q_chk1 117) = true := q_chk_all (n := 43) q_c117_0 (Nat.le_of_ble_eq_true rfl)
set_option maxRecDepth 100000 in
theorem q_a118 : (q_code 118).all (q_chk1 118) = true := q_chk_all (n := 47) q_c118_0 (Nat.le_of_ble_eq_true rfl)
set_option maxRecDepth 100000 in
theorem q_a119 : (q_code 119).all (q_chk1 119) = true := q_chk_all (n := 85) (q_chk_app (M := 119) (a := 0) (n := 70) (k := 15) q_c119_0 q_c119_70) (Nat.le_of_ble_eq_true rfl)
set_option maxRecDepth 100000 in
theorem q_a120 : (q_code 120).all (q_chk1 120) = true := q_chk_all (n := 131) (q_chk_app (M := 120) (a := 0) (n := 70) (k := 61) q_c120_0 q_c120_70) (Nat.le_of_ble_eq_true rfl)
set_option maxRecDepth 100000 in
theorem q_a121 : (q_code 121).all (q_chk1 121) = true := q_chk_all (n := 46) q_c121_0 (Nat.le_of_ble_eq_true rfl)
set_option maxRecDepth 100000 in
theorem q_a122 : (q_code 122).all (q_chk1 122) = true := q_chk_all (n := 45) q_c122_0 (Nat.le_of_ble_eq_true rfl)
set_option maxRecDepth 100000 in
theorem q_a123 : (q_code 123).all (q_chk1 123) = true := q_chk_all (n := 48) q_c123_0 (Nat.le_of_ble_eq_true rfl)
set_option maxRecDepth 100000 in
theorem q_a124 : (q_code 124).all (q_chk1 124) = true := q_chk_all (n := 11) q_c124_0 (Nat.le_of_ble_eq_true rfl)
set_option maxRecDepth 100000 in
theorem q_a125 : (q_code 125).all (q_chk1 125) = true := q_chk_all (n := 62) q_c125_0 (Nat.le_of_ble_eq_true rfl)
set_option maxRecDepth 100000 in
theorem q_a126 : (q_code 126).all (q_chk1 126) = true := q_chk_all (n := 30) q_c126_0 (Nat.le_of_ble_eq_true rfl)
set_option maxRecDepth 100000 in
theorem q_a127 : (q_code 127).all (q_chk1 127) = true := q_chk_all (n := 82) (q_chk_app (M := 127) (a := 0) (n := 70) (k := 12) q_c127_0 q_c127_70) (Nat.le_of_ble_eq_true rfl)
set_option maxRecDepth 100000 in
theorem q_a128 : (q_code 128).all (q_chk1 128) = true := q_chk_all (n := 7) q_c128_0 (Nat.le_of_ble_eq_true rfl)
set_option maxRecDepth 100000 in
theorem q_a129 : (q_code 129).all (q_chk1 129) = true := q_chk_all (n := 31) q_c129_0 (Nat.le_of_ble_eq_true rfl)
set_option maxRecDepth 100000 in
theorem q_a130 : (q_code 130).all (q_chk1 130) = true := q_chk_all (n := 48) q_c130_0 (Nat.le_of_ble_eq_true rfl)
set_option maxRecDepth 100000 in
theorem q_a131 : (q_code 131).all (q_chk1 131) = true := q_chk_all (n := 8) q_c131_0 (Nat.le_of_ble_eq_true rfl)
set_option maxRecDepth 100000 in
theorem q_a132 : (q_code 132).all (q_chk1 132) = true := q_chk_all (n := 51) q_c132_0 (Nat.le_of_ble_eq_true rfl)
set_option maxRecDepth 100000 in
theorem q_a133 : (q_code 133).all (q_chk1 133) = true := q_chk_all (n := 40) q_c133_0 (Nat.le_of_ble_eq_true rfl)
set_option maxRecDepth 100000 in
theorem q_a134 : (q_code 134).all (q_chk1 134) = true := q_chk_all (n := 94) (q_chk_app (M := 134) (a := 0) (n := 70) (k := 24) q_c134_0 q_c134_70) (Nat.le_of_ble_eq_true rfl)
set_option maxRecDepth 100000 in
theorem q_a135 : (q_code 135).all (q_chk1 135) = true := q_chk_all (n := 37) q_c135_0 (Nat.le_of_ble_eq_true rfl)
set_option maxRecDepth 100000 in
theorem q_a136 : (q_code 136).all (q_chk1 136) = true := q_chk_all (n := 42) q_c136_0 (Nat.le_of_ble_eq_true rfl)
set_option maxRecDepth 100000 in
theorem q_a137 : (q_code 137).all (q_chk1 137) = true := q_chk_all (n := 42) q_c137_0 (Nat.le_of_ble_eq_true rfl)
set_option maxRecDepth 100000 in
theorem q_a138 : (q_code 138).all (q_chk1 138) = true := q_chk_all (n := 49) q_c138_0 (Nat.le_of_ble_eq_true rfl)
set_option maxRecDepth 100000 in
theorem q_a139 : (q_code 139).all (q_chk1 139) = true := q_chk_all (n := 28) q_c139_0 (Nat.le_of_ble_eq_true rfl)
set_option maxRecDepth 100000 in
theorem q_a140 : (q_code 140).all (q_chk1 140) = true := q_chk_all (n := 8) q_c140_0 (Nat.le_of_ble_eq_true rfl)
set_option maxRecDepth 100000 in
theorem q_a141 : (q_code 141).all (q_chk1 141) = true := q_chk_all (n := 19) q_c141_0 (Nat.le_of_ble_eq_true rfl)
set_option maxRecDepth 100000 in
theorem q_a142 : (q_code 142).all (q_chk1 142) = true := q_chk_all (n := 140) (q_chk_app (M := 142) (a := 0) (n := 70) (k := 70) q_c142_0 q_c142_70) (Nat.le_of_ble_eq_true rfl)
set_option maxRecDepth 100000 in
theorem q_a143 : (q_code 143).all (q_chk1 143) = true := q_chk_all (n := 18) q_c143_0 (Nat.le_of_ble_eq_true rfl)
set_option maxRecDepth 100000 in
theorem q_a144 : (q_code 144).all (q_chk1 144) = true := q_chk_all (n := 16) q_c144_0 (Nat.le_of_ble_eq_true rfl)
set_option maxRecDepth 100000 in
theorem q_a145 : (q_code 145).all (q_chk1 145) = true := q_chk_all (n := 10) q_c145_0 (Nat.le_of_ble_eq_true rfl)
set_option maxRecDepth 100000 in
theorem q_a146 : (q_code 146).all (q_chk1 146) = true := q_chk_all (n := 138) (q_chk_app (M := 146) (a := 0) (n := 70) (k := 68) q_c146_0 q_c146_70) (Nat.le_of_ble_eq_true rfl)
set_option maxRecDepth 100000 in
theorem q_a147 : (q_code 147).all (q_chk1 147) = true := q_chk_all (n := 55) q_c147_0 (Nat.le_of_ble_eq_true rfl)
set_option maxRecDepth 100000 in
theorem q_a148 : (q_code 148).all (q_chk1 148) = true := q_chk_all (n := 42) q_c148_0 (Nat.le_of_ble_eq_true rfl)
set_option maxRecDepth 100000 in
theorem q_a149 : (q_code 149).all (q_chk1 149) = true := q_chk_all (n := 7) q_c149_0 (Nat.le_of_ble_eq_true rfl)
set_option maxRecDepth 100000 in
theorem q_a150 : (q_code 150).all (q_chk1 150) = true := q_chk_all (n := 7) q_c150_0 (Nat.le_of_ble_eq_true rfl)
set_option maxRecDepth 100000 in
theorem q_a151 : (q_code 151).all (q_chk1 151) = true := q_chk_all (n := 551) (q_chk_app (M := 151) (a := 0) (n := 550) (k := 1) (q_chk_app (M := 151) (a := 0) (n := 500) (k := 50) (q_chk_app (M := 151) (a := 0) (n := 450) (k := 50) (q_chk_app (M := 151) (a := 0) (n := 400) (k := 50) (q_chk_app (M := 151) (a := 0) (n := 350) (k := 50) (q_chk_app (M := 151) (a := 0) (n := 300) (k := 50) (q_chk_app (M := 151) (a := 0) (n := 250) (k := 50) (q_chk_app (M := 151) (a := 0) (n := 200) (k := 50) (q_chk_app (M := 151) (a := 0) (n := 150) (k := 50) (q_chk_app (M := 151) (a := 0) (n := 100) (k := 50) (q_chk_app (M := 151) (a := 0) (n := 50) (k := 50) q_c151_0 q_c151_50) q_c151_100) q_c151_150) q_c151_200) q_c151_250) q_c151_300) q_c151_350) q_c151_400) q_c151_450) q_c151_500) q_c151_550) (Nat.le_of_ble_eq_true rfl)
theorem q_ck {M : Nat} (h : M < 152) : (q_code M).all (q_chk1 M) = true := by
  match M, h with
  | 0, _ => exact q_a0
  | 1, _ => exact q_a1
  | 2, _ => exact q_a2
  | 3, _ => exact q_a3
  | 4, _ => exact q_a4
  | 5, _ => exact q_a5
  | 6, _ => exact q_a6
  | 7, _ => exact q_a7
  | 8, _ => exact q_a8
  | 9, _ => exact q_a9
  | 10, _ => exact q_a10
  | 11, _ => exact q_a11
  | 12, _ => exact q_a12
  | 13, _ => exact q_a13
  | 14, _ => exact q_a14
  | 15, _ => exact q_a15
  | 16, _ => exact q_a16
  | 17, _ => exact q_a17
  | 18, _ => exact q_a18
  | 19, _ => exact q_a19
  | 20, _ => exact q_a20
  | 21, _ => exact q_a21
  | 22, _ => exact q_a22
  | 23, _ => exact q_a23
  | 24, _ => exact q_a24
  | 25, _ => exact q_a25
  | 26, _ => exact q_a26
  | 27, _ => exact q_a27
  | 28, _ => exact q_a28
  | 29, _ => exact q_a29
  | 30, _ => exact q_a30
  | 31, _ => exact q_a31
  | 32, _ => exact q_a32
  | 33, _ => exact q_a33
  | 34, _ => exact q_a34
  | 35, _ => exact q_a35
  | 36, _ => exact q_a36
  | 37, _ => exact q_a37
  | 38, _ => exact q_a38
  | 39, _ => exact q_a39
  | 40, _ => exact q_a40
  | 41, _ => exact q_a41
  | 42, _ => exact q_a42
  | 43, _ => exact q_a43
  | 44, _ => exact q_a44
  | 45, _ => exact q_a45
  | 46, _ => exact q_a46
  | 47, _ => exact q_a47
  | 48, _ => exact q_a48
  | 49, _ => exact q_a49
  | 50, _ => exact q_a50
  | 51, _ => exact q_a51
  | 52, _ => exact q_a52
  | 53, _ => exact q_a53
  | 54, _ => exact q_a54
  | 55, _ => exact q_a55
  | 56, _ => exact q_a56
  | 57, _ => exact q_a57
  | 58, _ => exact q_a58
  | 59, _ => exact q_a59
  | 60, _ => exact q_a60
  | 61, _ => exact q_a61
  | 62, _ => exact q_a62
  | 63, _ => exact q_a63
  | 64, _ => exact q_a64
  | 65, _ => exact q_a65
  | 66, _ => exact q_a66
  | 67, _ => exact q_a67
  | 68, _ => exact q_a68
  | 69, _ => exact q_a69
  | 70, _ => exact q_a70
  | 71, _ => exact q_a71
  | 72, _ => exact q_a72
  | 73, _ => exact q_a73
  | 74, _ => exact q_a74
  | 75, _ => exact q_a75
  | 76, _ => exact q_a76
  | 77, _ => exact q_a77
  | 78, _ => exact q_a78
  | 79, _ => exact q_a79
  | 80, _ => exact q_a80
  | 81, _ => exact q_a81
  | 82, _ => exact q_a82
  | 83, _ => exact q_a83
  | 84, _ => exact q_a84
  | 85, _ => exact q_a85
  | 86, _ => exact q_a86
  | 87, _ => exact q_a87
  | 88, _ => exact q_a88
  | 89, _ => exact q_a89
  | 90, _ => exact q_a90
  | 91, _ => exact q_a91
  | 92, _ => exact q_a92
  | 93, _ => exact q_a93
  | 94, _ => exact q_a94
  | 95, _ => exact q_a95
  | 96, _ => exact q_a96
  | 97, _ => exact q_a97
  | 98, _ => exact q_a98
  | 99, _ => exact q_a99
  | 100, _ => exact q_a100
  | 101, _ => exact q_a101
  | 102, _ => exact q_a102
  | 103, _ => exact q_a103
  | 104, _ => exact q_a104
  | 105, _ => exact q_a105
  | 106, _ => exact q_a106
  | 107, _ => exact q_a107
  | 108, _ => exact q_a108
  | 109, _ => exact q_a109
  | 110, _ => exact q_a110
  | 111, _ => exact q_a111
  | 112, _ => exact q_a112
  | 113, _ => exact q_a113
  | 114, _ => exact q_a114
  | 115, _ => exact q_a115
  | 116, _ => exact q_a116
  | 117, _ => exact q_a117
  | 118, _ => exact q_a118
  | 119, _ => exact q_a119
  | 120, _ => exact q_a120
  | 121, _ => exact q_a121
  | 122, _ => exact q_a122
  | 123, _ => exact q_a123
  | 124, _ => exact q_a124
  | 125, _ => exact q_a125
  | 126, _ => exact q_a126
  | 127, _ => exact q_a127
  | 128, _ => exact q_a128
  | 129, _ => exact q_a129
  | 130, _ => exact q_a130
  | 131, _ => exact q_a131
  | 132, _ => exact q_a132
  | 133, _ => exact q_a133
  | 134, _ => exact q_a134
  | 135, _ => exact q_a135
  | 136, _ => exact q_a136
  | 137, _ => exact q_a137
  | 138, _ => exact q_a138
  | 139, _ => exact q_a139
  | 140, _ => exact q_a140
  | 141, _ => exact q_a141
  | 142, _ => exact q_a142
  | 143, _ => exact q_a143
  | 144, _ => exact q_a144
  | 145, _ => exact q_a145
  | 146, _ => exact q_a146
  | 147, _ => exact q_a147
  | 148, _ => exact q_a148
  | 149, _ => exact q_a149
  | 150, _ => exact q_a150
  | 151, _ => exact q_a151
  | k + 152, h => exact absurd h (by omega)
theorem q_look {α : Type} {l : List (Nat × α)} {k : Nat} {v : α} (h : l.lookup k = some v) : (k, v) ∈ l := by
  induction l with
  | nil => cases h
  | cons a l ih =>
    obtain ⟨a, b⟩ := a
    rw [List.lookup_cons] at h
    by_cases hk : k = a
    · subst hk
      simp at h
      subst h
      exact List.mem_cons_self
    · have : (k == a) = false := by simpa using hk
      rw [this] at h
      exact List.mem_cons_of_mem _ (ih h)
set_option maxRecDepth 100000 in
theorem q_at_lt {M pc : Nat} {e : q_E} (h : q_at M pc = some e) : M < 152 := by
  by_cases hM : M < 152
  · exact hM
  · have hn : q_codes[M]? = none := List.getElem?_eq_none (show q_codes.length ≤ M from Nat.le_trans (Nat.le_of_ble_eq_true rfl) (Nat.not_lt.mp hM))
    unfold q_at q_code at h
    rw [List.getD_eq_getElem?_getD, hn] at h
    cases h
set_option maxRecDepth 100000 in
theorem q_enc_dec {k c x g : Nat} (hk : k < 16) (hc : c < 16) (hx : x < 1024) (hg : g < 4294967296) : q_dec (q_enc k c x g) = q_wk k c x g := by
  unfold q_dec q_enc
  have h1 : (((k * 16 + c) * 1024 + x) * 4294967296 + g) / 4294967296 = (k * 16 + c) * 1024 + x := by omega
  have h2 : (((k * 16 + c) * 1024 + x) * 4294967296 + g) % 4294967296 = g := by omega
  rw [h1, h2]
  have h3 : ((k * 16 + c) * 1024 + x) / 1024 = k * 16 + c := by omega
  have h4 : ((k * 16 + c) * 1024 + x) % 1024 = x := by omega
  rw [h3, h4]
  have h5 : (k * 16 + c) / 16 = k := by omega
  have h6 : (k * 16 + c) % 16 = c := by omega
  rw [h5, h6]
theorem q_lk_words {c n : Nat} (hc : c < 12) (h : n ∈ q_lk c) : ∀ w ∈ q_dec n, w ∈ lw_tbl := by
  have h1 : q_chl c = true := List.all_eq_true.mp q_cl_0 c (List.mem_range.mpr hc)
  unfold q_chl at h1
  have h2 := of_decide_eq_true h1
  intro w hw
  have hm : (q_dec n).map some ∈ (q_lk c).map (fun n => (q_dec n).map some) := List.mem_map.mpr ⟨n, h, rfl⟩
  rw [← h2] at hm
  obtain ⟨ps, -, hps⟩ := List.mem_map.mp hm
  have hw2 : some w ∈ (q_dec n).map some := List.mem_map.mpr ⟨w, hw, rfl⟩
  rw [← hps] at hw2
  obtain ⟨j, -, hj⟩ := List.mem_map.mp hw2
  exact List.mem_of_getElem? hj
def q_wd (M : Nat) (i : Instr) (g : Nat) : List Jvm.Cond := match q_kd i with
  | some (k, x) => q_wk k (q_ci M) x g
  | none => []
theorem q_ci_lt {M : Nat} (h : M < 152) : q_ci M < 12 := by
  have h1 : (List.range 152).all (fun M => decide (q_ci M < 12)) = true := by decide +kernel
  exact of_decide_eq_true (List.all_eq_true.mp h1 M (List.mem_range.mpr h))
theorem q_cert {M pc : Nat} {i : Instr} {n g : Nat} {pl : List Nat} (h : q_at M pc = some (i, n, g, pl)) : decode (q_b M) pc = .ok (i, n) ∧ q_ln i n = true ∧ (∀ w ∈ q_wd M i g, w ∈ lw_tbl) ∧ q_xc M pc i g pl = true := by
  have h1 := List.all_eq_true.mp (q_ck (q_at_lt h)) _ (q_look h)
  unfold q_chk1 at h1
  simp only [Bool.and_eq_true, decide_eq_true_eq] at h1
  obtain ⟨⟨⟨a, b⟩, c⟩, d⟩ := h1
  refine ⟨a, b, ?_, d⟩
  unfold q_wd
  unfold q_lkd at c
  cases hk : q_kd i with
  | none => intro w hw; cases hw
  | some kx =>
    obtain ⟨k, x⟩ := kx
    rw [hk] at c
    simp only [Bool.and_eq_true, decide_eq_true_eq, List.contains_iff_mem] at c
    obtain ⟨⟨⟨c1, c2⟩, c3⟩, c4⟩ := c
    have hc := q_ci_lt (q_at_lt h)
    have h2 := q_lk_words hc c4
    rwa [q_enc_dec c1 (by omega) c2 c3] at h2
/-- the words that a contract hands on -/
def lw_g : List Jvm.Cond := lw_tbl.filter goodWord
theorem q_in_g {w : Jvm.Cond} (h : w ∈ lw_tbl) (hg : goodWord w = true) : w ∈ lw_g := List.mem_filter.mpr ⟨h, hg⟩
theorem q_g_good : GoodIn lw_g lw_g := fun w hw => ⟨hw, good_of_word (List.mem_filter.mp hw).2⟩
end
section
/-! ===== the pure machine's memory over the heap ===== -/
def q_A (base : Nat) : Nat → Prop := fun q => base ≤ q
def q_rl (base : Nat) (T : Nat → Nat) : Value → Value
  | .ref k => .ref (base + k)
  | .float u => .ref (T u.toNat)
  | v => v
def q_fv (base : Nat) (w : q_M) (a i t : Nat) : Value := if t = 0 then .int (w.2.1 a i) else if t = 1 then va_rf ((w.2.2.1 a i).map (fun r => base + r)) else .long (w.2.2.2 a)
def q_fl (base : Nat) (w : q_M) (a k : Nat) : List Value := (q_ft k).mapIdx (fun i t => q_fv base w a i t)
def q_cell (base : Nat) (cI cZ cD : ClassId) (w : q_M) (a : Nat) : va_E := match w.1[a]? with
  | none => .inr (0, [])
  | some (k, n) => if k = 9 then .inl (cI, n, .inl (w.2.1 a)) else if k = 10 then .inl (cZ, n, .inl (w.2.1 a)) else if k = 11 then .inl (cD, n, .inr (.inr (.inr (.inr (fun i => (w.2.2.1 a i).map (fun r => base + r)))))) else .inr (k, q_fl base w a k)
def q_ws (base : Nat) (cI cZ cD : ClassId) (w : q_M) : va_W := (List.range w.1.length).map (fun a => (base + a, q_cell base cI cZ cD w a))
section QW
variable {base : Nat} {cI cZ cD : ClassId} {w w' : q_M}
theorem q_ws_at {a : Nat} (h : a < w.1.length) : (q_ws base cI cZ cD w)[a]? = some (base + a, q_cell base cI cZ cD w a) := by
  unfold q_ws
  rw [List.getElem?_map, List.getElem?_range h]
  rfl
theorem q_ws_of {a : Nat} {q : Nat × va_E} (h : (q_ws base cI cZ cD w)[a]? = some q) : a < w.1.length ∧ q = (base + a, q_cell base cI cZ cD w a) := by
  have hl : a < w.1.length := by
    have := (List.getElem?_eq_some_iff.mp h).1
    simpa [q_ws] using this
  rw [q_ws_at hl] at h
  exact ⟨hl, (Option.some.inj h).symm⟩
theorem q_ws_len : (q_ws base cI cZ cD w).length = w.1.length := by simp [q_ws]
theorem q_ws_D : va_D (q_A base) (q_ws base cI cZ cD w) := by
  refine ⟨fun i j p q hi hj hpq => ?_, fun k q hk => ?_⟩
  · obtain ⟨-, rfl⟩ := q_ws_of hi
    obtain ⟨-, rfl⟩ := q_ws_of hj
    have : base + i = base + j := hpq
    omega
  · obtain ⟨-, rfl⟩ := q_ws_of hk
    show base ≤ base + k
    omega
theorem q_cell_same {b : Nat} (hK : w'.1[b]? = w.1[b]?) (h1 : w'.2.1 b = w.2.1 b) (h2 : w'.2.2.1 b = w.2.2.1 b) (h3 : w'.2.2.2 b = w.2.2.2 b) : q_cell base cI cZ cD w' b = q_cell base cI cZ cD w b := by
  unfold q_cell q_fl q_fv
  rw [hK, h1, h2, h3]
theorem q_ws_upd {a : Nat} (hK : w'.1 = w.1) (ho : ∀ b, b ≠ a → w'.2.1 b = w.2.1 b ∧ w'.2.2.1 b = w.2.2.1 b ∧ w'.2.2.2 b = w.2.2.2 b) : (q_ws base cI cZ cD w).set a (base + a, q_cell base cI cZ cD w' a) = q_ws base cI cZ cD w' := by
  apply List.ext_getElem?
  intro i
  by_cases hi : i < w.1.length
  · have hi' : i < w'.1.length := by rw [hK]; exact hi
    rw [q_ws_at hi']
    by_cases hia : i = a
    · subst hia
      rw [List.getElem?_set_self (by rw [q_ws_len]; exact hi)]
    · rw [List.getElem?_set_ne (Ne.symm hia), q_ws_at hi]
      obtain ⟨h1, h2, h3⟩ := ho i hia
      rw [q_cell_same (by rw [hK]) h1 h2 h3]
  · rw [List.getElem?_eq_none (by rw [List.length_set, q_ws_len]; omega), List.getElem?_eq_none (by rw [q_ws_len, hK]; omega)]
theorem q_ws_nw {k n : Nat} : q_ws base cI cZ cD (q_nw w k n) = q_ws base cI cZ cD w ++ [(base + w.1.length, q_cell base cI cZ cD (q_nw w k n) w.1.length)] := by
  unfold q_ws
  have hl : (q_nw w k n).1.length = w.1.length + 1 := by simp [q_nw]
  rw [hl, List.range_succ, List.map_append]
  congr 1
  apply List.map_congr_left
  intro b hb
  have hb' : b < w.1.length := List.mem_range.mp hb
  have hne : b ≠ w.1.length := by omega
  rw [q_cell_same (w := w)]
  · show (w.1 ++ [(k, n)])[b]? = _
    rw [List.getElem?_append_left hb']
  · exact va_up_ne _ _ hne
  · exact va_up_ne _ _ hne
  · exact va_up_ne _ _ hne
theorem q_fl_at {a ci k t : Nat} (h : (q_ft ci)[k]? = some t) : (q_fl base w a ci)[k]? = some (q_fv base w a k t) := by
  unfold q_fl
  rw [List.getElem?_mapIdx, h]
  rfl
theorem q_fl_set {a ci k t : Nat} {v : Value} (h : (q_ft ci)[k]? = some t) (hv : q_fv base w' a k t = v) (ho : ∀ i u, i ≠ k → (q_ft ci)[i]? = some u → q_fv base w' a i u = q_fv base w a i u) : (q_fl base w a ci).set k v = q_fl base w' a ci := by
  apply List.ext_getElem?
  intro i
  have hk : k < (q_ft ci).length := (List.getElem?_eq_some_iff.mp h).1
  have hlen : ∀ w : q_M, (q_fl base w a ci).length = (q_ft ci).length := fun w => by simp [q_fl]
  by_cases hi : i = k
  · subst hi
    rw [List.getElem?_set_self (by rw [hlen]; exact hk), q_fl_at h, hv]
  · rw [List.getElem?_set_ne (Ne.symm hi)]
    unfold q_fl
    rw [List.getElem?_mapIdx, List.getElem?_mapIdx]
    cases hu : (q_ft ci)[i]? with
    | none => rfl
    | some u => exact congrArg some (ho i u hi hu).symm
theorem q_cell_obj {a ci n : Nat} (h : w.1[a]? = some (ci, n)) (hc : ci < 9) : q_cell base cI cZ cD w a = .inr (ci, q_fl base w a ci) := by
  unfold q_cell
  rw [h]
  dsimp only
  rw [if_neg (by omega), if_neg (by omega), if_neg (by omega)]
theorem q_cell_I {a n : Nat} (h : w.1[a]? = some (9, n)) : q_cell base cI cZ cD w a = .inl (cI, n, .inl (w.2.1 a)) := by
  unfold q_cell
  rw [h]
  rfl
theorem q_cell_Z {a n : Nat} (h : w.1[a]? = some (10, n)) : q_cell base cI cZ cD w a = .inl (cZ, n, .inl (w.2.1 a)) := by
  unfold q_cell
  rw [h]
  rfl
theorem q_cell_D {a n : Nat} (h : w.1[a]? = some (11, n)) : q_cell base cI cZ cD w a = .inl (cD, n, .inr (.inr (.inr (.inr (fun i => (w.2.2.1 a i).map (fun r => base + r)))))) := by
  unfold q_cell
  rw [h]
  rfl
theorem q_lt_of {K : q_K} {a : Nat} {x : Nat × Nat} (h : K[a]? = some x) : a < K.length := (List.getElem?_eq_some_iff.mp h).1
theorem q_fst_of {K : q_K} {a c : Nat} (h : (K[a]?).map Prod.fst = some c) : ∃ n, K[a]? = some (c, n) := by
  cases hk : K[a]? with
  | none => rw [hk] at h; cases h
  | some x =>
    rw [hk] at h
    obtain ⟨x, n⟩ := x
    cases h
    exact ⟨n, rfl⟩
end QW
/-! ===== locals ===== -/
def q_Lo (base : Nat) (T : Nat → Nat) (M : Nat) (L : List Value) (ls : Array Slot) : Prop := L.length = q_ml M ∧ ls.size = q_ml M ∧ lv_wf ls ∧ (∀ (k : Nat) (v : Value), L[k]? = some v → v ≠ .null → ls[k]? = some (.val (q_rl base T v))) ∧ ∀ (k : Nat) (v : Value), L[k]? = some v → v.category = 2 → M = 19 ∧ k = 1
def q_lvl (base : Nat) (T : Nat → Nat) (L : List Value) : List (Nat × Value) := (L.mapIdx (fun i v => (i, v))).filterMap (fun q => if q.2 = .null then none else some (q.1, q_rl base T q.2))
section QL
variable {base : Nat} {T : Nat → Nat} {M : Nat} {L : List Value} {ls : Array Slot}
theorem q_lvl_of {q : Nat × Value} (h : q ∈ q_lvl base T L) : ∃ v, L[q.1]? = some v ∧ v ≠ .null ∧ q.2 = q_rl base T v := by
  obtain ⟨x, hx, hq⟩ := List.mem_filterMap.mp h
  obtain ⟨i, hi⟩ := List.getElem?_of_mem hx
  rw [List.getElem?_mapIdx] at hi
  cases hL : L[i]? with
  | none => rw [hL] at hi; cases hi
  | some v =>
    rw [hL] at hi
    cases hi
    dsimp only at hq
    by_cases hv : v = .null
    · rw [if_pos hv] at hq; cases hq
    · rw [if_neg hv] at hq
      cases hq
      exact ⟨v, hL, hv, rfl⟩
theorem q_lvl_in {k : Nat} {v : Value} (h : L[k]? = some v) (hv : v ≠ .null) : (k, q_rl base T v) ∈ q_lvl base T L := by
  refine List.mem_filterMap.mpr ⟨(k, v), ?_, if_neg hv⟩
  refine List.mem_of_getElem? (i := k) ?_
  rw [List.getElem?_mapIdx, h]
  rfl
theorem q_Lo_has (h : q_Lo base T M L ls) : lv_has ls (q_ml M) (q_lvl base T L) := by
  refine ⟨h.2.1, h.2.2.1, fun q hq => ?_⟩
  obtain ⟨v, h1, h2, h3⟩ := q_lvl_of hq
  rw [h3]
  exact h.2.2.2.1 q.1 v h1 h2
theorem q_Lo_at (h : q_Lo base T M L ls) {k : Nat} {v : Value} (hk : L[k]? = some v) (hv : v ≠ .null) : ls[k]? = some (.val (q_rl base T v)) := h.2.2.2.1 k v hk hv
theorem q_rl_cat (v : Value) : (q_rl base T v).category = v.category := by cases v <;> rfl
theorem q_rl_null {v : Value} (h : v ≠ .null) : q_rl base T v ≠ .null := by cases v <;> simp_all [q_rl]
theorem q_st1_len {i : Nat} {u : Value} : (q_st1 L i u).length = L.length := by
  unfold q_st1
  simp
theorem q_st1_at {i k : Nat} {u z : Value} (hi : i < L.length) (h : (q_st1 L i u)[k]? = some z) : (k = i ∧ z = u) ∨ (k ≠ i ∧ L[k]? = some z) := by
  unfold q_st1 at h
  by_cases hk : k = i
  · subst hk
    rw [List.getElem?_set_self hi] at h
    exact Or.inl ⟨rfl, (Option.some.inj h).symm⟩
  · rw [List.getElem?_set_ne (Ne.symm hk)] at h
    exact Or.inr ⟨hk, h⟩
theorem q_Lo_st1 {i : Nat} {u : Value} {ls' : Array Slot} (h : q_Lo base T M L ls) (hi : i < L.length ∧ ¬ (M = 19 ∧ i = 2)) (hu : u.category = 1) (h' : lv_has ls' (q_ml M) ((i, q_rl base T u) :: (q_lvl base T L).filter (fun q => !(q.1 == i) && !(q.1 + 1 == i && q.2.category == 2)))) : q_Lo base T M (q_st1 L i u) ls' := by
  refine ⟨by rw [q_st1_len]; exact h.1, h'.1, h'.2.1, fun k z hk hz => ?_, fun k z hk hz => ?_⟩
  · rcases q_st1_at hi.1 hk with ⟨rfl, rfl⟩ | ⟨h1, h2⟩
    · exact h'.2.2 _ List.mem_cons_self
    · refine h'.2.2 (k, q_rl base T z) (List.mem_cons_of_mem _ (List.mem_filter.mpr ⟨q_lvl_in h2 hz, ?_⟩))
      simp only [q_rl_cat, Bool.and_eq_true, Bool.not_eq_true', beq_eq_false_iff_ne, ne_eq, Bool.and_eq_false_iff]
      refine ⟨h1, ?_⟩
      by_cases hz2 : z.category = 2
      · obtain ⟨a, b⟩ := h.2.2.2.2 k z h2 hz2
        exact Or.inl (fun q => hi.2 ⟨a, by omega⟩)
      · exact Or.inr hz2
  · rcases q_st1_at hi.1 hk with ⟨rfl, rfl⟩ | ⟨h1, h2⟩
    · omega
    · exact h.2.2.2.2 k z h2 hz
theorem q_Lo_st2 {i : Nat} {u : Value} {ls' : Array Slot} (h : q_Lo base T M L ls) (hi : i + 1 < L.length ∧ M = 19 ∧ i = 1) (h' : lv_has ls' (q_ml M) ((i, q_rl base T u) :: (q_lvl base T L).filter (fun q => !(q.1 == i) && (!(q.1 == i + 1) && !(q.1 + 1 == i && q.2.category == 2))))) : q_Lo base T M (q_st2 L i u) ls' := by
  have key : ∀ (k : Nat) (z : Value), (q_st2 L i u)[k]? = some z → (k = i + 1 ∧ z = .null) ∨ (k = i ∧ z = u) ∨ (k ≠ i + 1 ∧ k ≠ i ∧ L[k]? = some z) := by
    intro k z hk
    unfold q_st2 at hk
    by_cases hk1 : k = i + 1
    · subst hk1
      rw [List.getElem?_set_self (by rw [List.length_set]; exact hi.1)] at hk
      exact Or.inl ⟨rfl, (Option.some.inj hk).symm⟩
    · rw [List.getElem?_set_ne (Ne.symm hk1)] at hk
      rcases q_st1_at (by omega) hk with ⟨rfl, rfl⟩ | ⟨h1, h2⟩
      · exact Or.inr (Or.inl ⟨rfl, rfl⟩)
      · exact Or.inr (Or.inr ⟨hk1, h1, h2⟩)
  refine ⟨by unfold q_st2; rw [List.length_set, List.length_set]; exact h.1, h'.1, h'.2.1, fun k z hk hz => ?_, fun k z hk hz => ?_⟩
  · rcases key k z hk with ⟨rfl, rfl⟩ | ⟨rfl, rfl⟩ | ⟨h0, h1, h2⟩
    · exact absurd rfl hz
    · exact h'.2.2 _ List.mem_cons_self
    · refine h'.2.2 (k, q_rl base T z) (List.mem_cons_of_mem _ (List.mem_filter.mpr ⟨q_lvl_in h2 hz, ?_⟩))
      simp only [q_rl_cat, Bool.and_eq_true, Bool.not_eq_true', beq_eq_false_iff_ne, ne_eq, Bool.and_eq_false_iff]
      refine ⟨h1, h0, ?_⟩
      by_cases hz2 : z.category = 2
      · exact absurd (h.2.2.2.2 k z h2 hz2).2 (by omega)
      · exact Or.inr hz2
  · rcases key k z hk with ⟨rfl, rfl⟩ | ⟨rfl, rfl⟩ | ⟨h0, h1, h2⟩
    · simp [Value.category] at hz
    · exact hi.2
    · exact h.2.2.2.2 k z h2 hz
end QL
end
section
/-! ===== the contexts of a method's walk ===== -/
def q_tys (cI cZ cD : ClassId) : List (ClassId × FieldType) := [(cI, .int), (cZ, .boolean), (cD, .object RX0)]
/-- the words that no contract hands on -/
def q_N (U : State) : Prop := va_AO RX0 U ∧ ∀ (o : String) (k : Nat) (y : MethodName) (h : String), Jvm.Cond.methodLinkNest o k y h ∈ lw_tbl → va_Nw (.methodLinkNest o k y h) U
/-- what stands outside: two tables in statics, and the script -/
def q_Ext (T : Nat → Nat) (X : Nat × (Nat → Int32)) (base : Nat) (U : State) : Prop :=
  (va_Z RX3 "MARKS" "[I" (.ref (T 0)) (q_A base) U U.heap ∧ va_T .int (T 0) 16 (fun j => .int (q_x0 j)) (q_A base) U U.heap) ∧ (va_Z RX3 "ONE_BY" "[I" (.ref (T 1)) (q_A base) U U.heap ∧ va_T .int (T 1) 31 (fun j => .int (q_x1 j)) (q_A base) U U.heap) ∧ (∀ u : UInt32, u ≠ 0 → u ≠ 1 → va_T .int (T u.toNat) X.1 (fun j => .int (X.2 j)) (q_A base) U U.heap)
def q_Cx (p : Program) (R : Room) (s : State) (m : MethodId) (args : Array Value) (meth : Method) (c : Code) (D : va_G) (cI cZ cD : ClassId) (base : Nat) (T : Nat → Nat) (X : Nat × (Nat → Int32)) (M N0 S0 Nf Sf : Nat) : Prop :=
  p.tables.exec = Jvm.exec ∧ c.code = q_b M ∧ c.maxLocals = q_ml M ∧ s.vm.findClass (q_own M) = some m.cls ∧ (∀ w ∈ lw_g, w.before args s = true) ∧ q_N s ∧ (q_ini M = true → meth.name = "<init>") ∧ va_K D vwCl (q_tys cI cZ cD) s ∧ q_Ext T X base s ∧ s.heap.size = base + N0 ∧ R.frames = q_fr M ∧ R.locals = q_lo M ∧ R.cells + N0 = Nf ∧ R.slots + S0 = Sf
/-- from a state of the pure machine the machine comes to Q -/
def q_G (p : Program) (l : Launch) (e : Env) (R : Room) (s : State) (m : MethodId) (args : Array Value) (below : List Frame) (meth : Method) (c : Code) (Q : State → Prop) (D : va_G) (cI cZ cD : ClassId) (base : Nat) (T : Nat → Nat) (N0 S0 : Nat) (σ : q_S) : Prop :=
  ∀ (H : Heap) (locs : List Loc) (cells slots : Nat) (ls : Array Slot), q_Lo base T σ.1 σ.2.2.1 ls → va_P D vwCl (q_ws base cI cZ cD σ.2.2.2.2) H → va_S (q_A base) s.heap H locs → cells + N0 = σ.2.2.2.2.1.length → slots + S0 = q_sl σ.2.2.2.2.1 →
    W p l e R s m args below meth c H locs cells slots Q (F0 m σ.2.1 ls (σ.2.2.2.1.map (q_rl base T)))
theorem q_vw {ci : Nat} (h : ci < 9) : vwCl[ci]? = some (q_cn ci, q_T ci, (q_ft ci).length) := by
  match ci, h with
  | 0, _ => rfl
  | 1, _ => rfl
  | 2, _ => rfl
  | 3, _ => rfl
  | 4, _ => rfl
  | 5, _ => rfl
  | 6, _ => rfl
  | 7, _ => rfl
  | 8, _ => rfl
  | k + 9, h => exact absurd h (by omega)
set_option maxRecDepth 100000 in
theorem q_hin0 : (List.range 9).all (fun ci => (u_ws (q_cn ci) (q_T ci) (q_ft ci).length).all (fun w => decide (w ∈ lw_tbl) && goodWord w)) = true := by decide +kernel
theorem q_hin {ci : Nat} (h : ci < 9) : ∀ w ∈ u_ws (q_cn ci) (q_T ci) (q_ft ci).length, w ∈ lw_g := by
  intro w hw
  have h1 := List.all_eq_true.mp (List.all_eq_true.mp q_hin0 ci (List.mem_range.mpr h)) w hw
  simp only [Bool.and_eq_true, decide_eq_true_eq] at h1
  exact q_in_g h1.1 h1.2
theorem q_tyok {ci : Nat} (h : ci < 9) : ∀ k, k < (q_ft ci).length → parseFieldDescriptor (q_T ci k).2.2.1 = some (q_ty ci k) := by
  match ci, h with
  | 0, _ => exact tyX0_ok
  | 1, _ => exact tyX1_ok
  | 2, _ => exact tyX2_ok
  | 3, _ => exact tyX3_ok
  | 4, _ => exact tyX4_ok
  | 5, _ => exact tyX5_ok
  | 6, _ => exact tyX6_ok
  | 7, _ => exact tyX7_ok
  | 8, _ => exact tyX8_ok
  | k + 9, h => exact absurd h (by omega)
theorem q_nmok {ci : Nat} (h : ci < 9) : ∀ a, a < (q_ft ci).length → ∀ b, b < (q_ft ci).length → a ≠ b → (q_T ci a).2.1 ≠ (q_T ci b).2.1 := by
  match ci, h with
  | 0, _ => exact nmX0
  | 1, _ => exact nmX1
  | 2, _ => exact nmX2
  | 3, _ => exact nmX3
  | 4, _ => exact nmX4
  | 5, _ => exact nmX5
  | 6, _ => exact nmX6
  | 7, _ => exact nmX7
  | 8, _ => exact nmX8
  | k + 9, h => exact absurd h (by omega)
def q_isR (t : FieldType) : Bool := match t with
  | .array _ => true
  | .object _ => true
  | _ => false
theorem q_kinds0 : (List.range 9).all (fun ci => (List.range (q_ft ci).length).all (fun k => decide ((q_ft ci)[k]? = some 0 → q_ty ci k = .int) && decide ((q_ft ci)[k]? = some 1 → q_isR (q_ty ci k) = true) && decide ((q_ft ci)[k]? = some 2 → q_ty ci k = .long ∧ ci = 2 ∧ k = 2))) = true := by decide +kernel
theorem q_kinds {ci k : Nat} (h : ci < 9) (hk : k < (q_ft ci).length) : ((q_ft ci)[k]? = some 0 → q_ty ci k = .int) ∧ ((q_ft ci)[k]? = some 1 → q_isR (q_ty ci k) = true) ∧ ((q_ft ci)[k]? = some 2 → q_ty ci k = .long ∧ ci = 2 ∧ k = 2) := by
  have h1 := List.all_eq_true.mp (List.all_eq_true.mp q_kinds0 ci (List.mem_range.mpr h)) k (List.mem_range.mpr hk)
  simp only [Bool.and_eq_true, decide_eq_true_eq] at h1
  exact ⟨h1.1.1, h1.1.2, h1.2⟩
theorem q_narR {t : FieldType} {a : Nat} (h : q_isR t = true) : narrow t (.ref a) = .ref a ∧ fits t (.ref a) = true := by
  cases t <;> first | (cases h; done) | exact ⟨rfl, rfl⟩
theorem q_inb_in {x : Int32} {n : Nat} (h : q_inb x n = true) : vp_in x n := by
  unfold q_inb at h
  simp only [Bool.and_eq_true, decide_eq_true_eq] at h
  intro q
  rcases q with q | q
  · exact h.1 q
  · omega
/-! ===== one step: the machine follows the pure machine ===== -/
section QS
variable {p : Program} {l : Launch} {e : Env} {R : Room} {s : State} {m : MethodId} {args : Array Value} {below : List Frame} {meth : Method} {c : Code} {Q : State → Prop}
variable {D : va_G} {cI cZ cD : ClassId} {base : Nat} {T : Nat → Nat} {X : Nat × (Nat → Int32)} {M N0 S0 Nf Sf : Nat}
variable {pc n g : Nat} {pl : List Nat} {L S : List Value} {w : q_M} {σ' : q_S}
/-- the heap is no larger than what was made -/
theorem q_size {H : Heap} {locs : List Loc} {cells slots : Nat} {f : JFrame} (h : H.size ≤ s.heap.size + cells → W p l e R s m args below meth c H locs cells slots Q f) : W p l e R s m args below meth c H locs cells slots Q f :=
  fun T0 hT X0 => h (by rw [← hT]; exact X0.heapSize) T0 hT X0
theorem q_t_iconst (C : q_Cx p R s m args meth c D cI cZ cD base T X M N0 S0 Nf Sf) {x : Int} (hat : q_at M pc = some (.iconst x, n, g, pl)) (h : q_go M (pc + n) L (.int (Int32.ofInt x) :: S) w = some (.inr (.inl σ'))) (k : q_G p l e R s m args below meth c Q D cI cZ cD base T N0 S0 σ') : q_G p l e R s m args below meth c Q D cI cZ cD base T N0 S0 (M, pc, L, S, w) := by
  obtain ⟨hx, hb, hml, hown, hts, hN, hin, hK, hE, hsz, hRf, hRl, hRc, hRs⟩ := C
  obtain ⟨hd, hn, hw, hxc⟩ := q_cert hat
  obtain rfl : n = 1 := by simpa [q_ln] using hn
  cases h
  intro H locs cells slots ls hL hP hS hc hs
  exact lv_iconst hx hb hd rfl (k H locs cells slots ls hL hP hS hc hs)
theorem q_t_bipush (C : q_Cx p R s m args meth c D cI cZ cD base T X M N0 S0 Nf Sf) {x : Int} (hat : q_at M pc = some (.bipush x, n, g, pl)) (h : q_go M (pc + n) L (.int (Int8.ofInt x).toInt32 :: S) w = some (.inr (.inl σ'))) (k : q_G p l e R s m args below meth c Q D cI cZ cD base T N0 S0 σ') : q_G p l e R s m args below meth c Q D cI cZ cD base T N0 S0 (M, pc, L, S, w) := by
  obtain ⟨hx, hb, hml, hown, hts, hN, hin, hK, hE, hsz, hRf, hRl, hRc, hRs⟩ := C
  obtain ⟨hd, hn, hw, hxc⟩ := q_cert hat
  obtain rfl : n = 2 := by simpa [q_ln] using hn
  cases h
  intro H locs cells slots ls hL hP hS hc hs
  exact lv_bipush hx hb hd rfl (k H locs cells slots ls hL hP hS hc hs)
theorem q_t_sipush (C : q_Cx p R s m args meth c D cI cZ cD base T X M N0 S0 Nf Sf) {x : Int} (hat : q_at M pc = some (.sipush x, n, g, pl)) (h : q_go M (pc + n) L (.int (Int16.ofInt x).toInt32 :: S) w = some (.inr (.inl σ'))) (k : q_G p l e R s m args below meth c Q D cI cZ cD base T N0 S0 σ') : q_G p l e R s m args below meth c Q D cI cZ cD base T N0 S0 (M, pc, L, S, w) := by
  obtain ⟨hx, hb, hml, hown, hts, hN, hin, hK, hE, hsz, hRf, hRl, hRc, hRs⟩ := C
  obtain ⟨hd, hn, hw, hxc⟩ := q_cert hat
  obtain rfl : n = 3 := by simpa [q_ln] using hn
  cases h
  intro H locs cells slots ls hL hP hS hc hs
  exact lv_sipush hx hb hd rfl (k H locs cells slots ls hL hP hS hc hs)
theorem q_t_lconst (C : q_Cx p R s m args meth c D cI cZ cD base T X M N0 S0 Nf Sf) {x : Fin 2} (hat : q_at M pc = some (.lconst x, n, g, pl)) (h : q_go M (pc + n) L (.long (Int64.ofNat x) :: S) w = some (.inr (.inl σ'))) (k : q_G p l e R s m args below meth c Q D cI cZ cD base T N0 S0 σ') : q_G p l e R s m args below meth c Q D cI cZ cD base T N0 S0 (M, pc, L, S, w) := by
  obtain ⟨hx, hb, hml, hown, hts, hN, hin, hK, hE, hsz, hRf, hRl, hRc, hRs⟩ := C
  obtain ⟨hd, hn, hw, hxc⟩ := q_cert hat
  obtain rfl : n = 1 := by simpa [q_ln] using hn
  cases h
  intro H locs cells slots ls hL hP hS hc hs
  exact lv_lconst hx hb hd rfl (k H locs cells slots ls hL hP hS hc hs)
theorem q_t_ldcw (C : q_Cx p R s m args meth c D cI cZ cD base T X M N0 S0 Nf Sf) {x : Nat} (hat : q_at M pc = some (.ldc_w x, n, g, pl)) (h : q_go M (pc + n) L (.int (Int32.ofNat g) :: S) w = some (.inr (.inl σ'))) (k : q_G p l e R s m args below meth c Q D cI cZ cD base T N0 S0 σ') : q_G p l e R s m args below meth c Q D cI cZ cD base T N0 S0 (M, pc, L, S, w) := by
  obtain ⟨hx, hb, hml, hown, hts, hN, hin, hK, hE, hsz, hRf, hRl, hRc, hRs⟩ := C
  obtain ⟨hd, hn, hw, hxc⟩ := q_cert hat
  obtain rfl : n = 3 := by simpa [q_ln] using hn
  cases h
  intro H locs cells slots ls hL hP hS hc hs
  have hw1 : Jvm.Cond.constant (q_own M) x (Int32.ofNat g) ∈ lw_tbl := hw _ (by simp [q_wd, q_kd, q_wk, q_own])
  exact lv_ldcw hx hb hown (hts _ (q_in_g hw1 rfl)) hd (k H locs cells slots ls hL hP hS hc hs)
theorem q_t_iload_n (C : q_Cx p R s m args meth c D cI cZ cD base T X M N0 S0 Nf Sf) {x : Fin 4} (hat : q_at M pc = some (.iload_n x, n, g, pl)) (h : q_ldi M (pc + n) L S w x = some (.inr (.inl σ'))) (k : q_G p l e R s m args below meth c Q D cI cZ cD base T N0 S0 σ') : q_G p l e R s m args below meth c Q D cI cZ cD base T N0 S0 (M, pc, L, S, w) := by
  obtain ⟨hx, hb, hml, hown, hts, hN, hin, hK, hE, hsz, hRf, hRl, hRc, hRs⟩ := C
  obtain ⟨hd, hn, hw, hxc⟩ := q_cert hat
  obtain rfl : n = 1 := by simpa [q_ln] using hn
  unfold q_ldi at h
  split at h
  · rename_i v hv
    cases h
    intro H locs cells slots ls hL hP hS hc hs
    exact lv_iload_n hx hb hd rfl (q_Lo_at hL hv (by simp)) (k H locs cells slots ls hL hP hS hc hs)
  · cases h
theorem q_t_iload (C : q_Cx p R s m args meth c D cI cZ cD base T X M N0 S0 Nf Sf) {x : Nat} (hat : q_at M pc = some (.iload x, n, g, pl)) (h : q_ldi M (pc + n) L S w x = some (.inr (.inl σ'))) (k : q_G p l e R s m args below meth c Q D cI cZ cD base T N0 S0 σ') : q_G p l e R s m args below meth c Q D cI cZ cD base T N0 S0 (M, pc, L, S, w) := by
  obtain ⟨hx, hb, hml, hown, hts, hN, hin, hK, hE, hsz, hRf, hRl, hRc, hRs⟩ := C
  obtain ⟨hd, hn, hw, hxc⟩ := q_cert hat
  obtain rfl : n = 2 := by simpa [q_ln] using hn
  unfold q_ldi at h
  split at h
  · rename_i v hv
    cases h
    intro H locs cells slots ls hL hP hS hc hs
    exact lv_iload hx hb hd (q_Lo_at hL hv (by simp)) (k H locs cells slots ls hL hP hS hc hs)
  · cases h
theorem q_t_lload_n (C : q_Cx p R s m args meth c D cI cZ cD base T X M N0 S0 Nf Sf) {x : Fin 4} (hat : q_at M pc = some (.lload_n x, n, g, pl)) (h : q_ldl M (pc + n) L S w x = some (.inr (.inl σ'))) (k : q_G p l e R s m args below meth c Q D cI cZ cD base T N0 S0 σ') : q_G p l e R s m args below meth c Q D cI cZ cD base T N0 S0 (M, pc, L, S, w) := by
  obtain ⟨hx, hb, hml, hown, hts, hN, hin, hK, hE, hsz, hRf, hRl, hRc, hRs⟩ := C
  obtain ⟨hd, hn, hw, hxc⟩ := q_cert hat
  obtain rfl : n = 1 := by simpa [q_ln] using hn
  unfold q_ldl at h
  split at h
  · rename_i v hv
    cases h
    intro H locs cells slots ls hL hP hS hc hs
    exact lv_lload_n hx hb hd rfl (q_Lo_at hL hv (by simp)) (k H locs cells slots ls hL hP hS hc hs)
  · cases h
theorem q_t_aload_n (C : q_Cx p R s m args meth c D cI cZ cD base T X M N0 S0 Nf Sf) {x : Fin 4} (hat : q_at M pc = some (.aload_n x, n, g, pl)) (h : q_lda M (pc + n) L S w x = some (.inr (.inl σ'))) (k : q_G p l e R s m args below meth c Q D cI cZ cD base T N0 S0 σ') : q_G p l e R s m args below meth c Q D cI cZ cD base T N0 S0 (M, pc, L, S, w) := by
  obtain ⟨hx, hb, hml, hown, hts, hN, hin, hK, hE, hsz, hRf, hRl, hRc, hRs⟩ := C
  obtain ⟨hd, hn, hw, hxc⟩ := q_cert hat
  obtain rfl : n = 1 := by simpa [q_ln] using hn
  unfold q_lda at h
  split at h
  · rename_i v hv
    cases h
    intro H locs cells slots ls hL hP hS hc hs
    exact lv_aload_n hx hb hd rfl (q_Lo_at hL hv (by simp)) (k H locs cells slots ls hL hP hS hc hs)
  · rename_i v hv
    cases h
    intro H locs cells slots ls hL hP hS hc hs
    exact lv_aload_n hx hb hd rfl (q_Lo_at hL hv (by simp)) (k H locs cells slots ls hL hP hS hc hs)
  · cases h
theorem q_t_istore_n (C : q_Cx p R s m args meth c D cI cZ cD base T X M N0 S0 Nf Sf) {x : Fin 4} (hat : q_at M pc = some (.istore_n x, n, g, pl)) (h : q_sti M (pc + n) L S w x = some (.inr (.inl σ'))) (k : q_G p l e R s m args below meth c Q D cI cZ cD base T N0 S0 σ') : q_G p l e R s m args below meth c Q D cI cZ cD base T N0 S0 (M, pc, L, S, w) := by
  obtain ⟨hx, hb, hml, hown, hts, hN, hin, hK, hE, hsz, hRf, hRl, hRc, hRs⟩ := C
  obtain ⟨hd, hn, hw, hxc⟩ := q_cert hat
  obtain rfl : n = 1 := by simpa [q_ln] using hn
  unfold q_sti at h
  split at h
  · rename_i v S2
    split at h
    · rename_i hlt
      cases h
      intro H locs cells slots ls hL hP hS hc hs
      exact lv_istore_n hx hb hd rfl (q_Lo_has hL) (by rw [← hL.1]; exact hlt.1) rfl (fun ls2 h2 => k H locs cells slots ls2 (q_Lo_st1 (u := .int v) hL hlt rfl h2) hP hS hc hs)
    · cases h
  · cases h
theorem q_t_istore (C : q_Cx p R s m args meth c D cI cZ cD base T X M N0 S0 Nf Sf) {x : Nat} (hat : q_at M pc = some (.istore x, n, g, pl)) (h : q_sti M (pc + n) L S w x = some (.inr (.inl σ'))) (k : q_G p l e R s m args below meth c Q D cI cZ cD base T N0 S0 σ') : q_G p l e R s m args below meth c Q D cI cZ cD base T N0 S0 (M, pc, L, S, w) := by
  obtain ⟨hx, hb, hml, hown, hts, hN, hin, hK, hE, hsz, hRf, hRl, hRc, hRs⟩ := C
  obtain ⟨hd, hn, hw, hxc⟩ := q_cert hat
  obtain rfl : n = 2 := by simpa [q_ln] using hn
  unfold q_sti at h
  split at h
  · rename_i v S2
    split at h
    · rename_i hlt
      cases h
      intro H locs cells slots ls hL hP hS hc hs
      exact lv_istore hx hb hd (q_Lo_has hL) (by rw [← hL.1]; exact hlt.1) rfl (fun ls2 h2 => k H locs cells slots ls2 (q_Lo_st1 (u := .int v) hL hlt rfl h2) hP hS hc hs)
    · cases h
  · cases h
theorem q_t_astore_n (C : q_Cx p R s m args meth c D cI cZ cD base T X M N0 S0 Nf Sf) {x : Fin 4} (hat : q_at M pc = some (.astore_n x, n, g, pl)) (h : q_sta M (pc + n) L S w x = some (.inr (.inl σ'))) (k : q_G p l e R s m args below meth c Q D cI cZ cD base T N0 S0 σ') : q_G p l e R s m args below meth c Q D cI cZ cD base T N0 S0 (M, pc, L, S, w) := by
  obtain ⟨hx, hb, hml, hown, hts, hN, hin, hK, hE, hsz, hRf, hRl, hRc, hRs⟩ := C
  obtain ⟨hd, hn, hw, hxc⟩ := q_cert hat
  obtain rfl : n = 1 := by simpa [q_ln] using hn
  unfold q_sta at h
  split at h
  · rename_i v S2
    split at h
    · rename_i hlt
      cases h
      intro H locs cells slots ls hL hP hS hc hs
      exact lv_astore_n hx hb hd rfl (q_Lo_has hL) (by rw [← hL.1]; exact hlt.1) rfl (fun ls2 h2 => k H locs cells slots ls2 (q_Lo_st1 (u := .ref v) hL hlt rfl h2) hP hS hc hs)
    · cases h
  · cases h
theorem q_t_lstore_n (C : q_Cx p R s m args meth c D cI cZ cD base T X M N0 S0 Nf Sf) {x : Fin 4} (hat : q_at M pc = some (.lstore_n x, n, g, pl)) (h : q_stl M (pc + n) L S w x = some (.inr (.inl σ'))) (k : q_G p l e R s m args below meth c Q D cI cZ cD base T N0 S0 σ') : q_G p l e R s m args below meth c Q D cI cZ cD base T N0 S0 (M, pc, L, S, w) := by
  obtain ⟨hx, hb, hml, hown, hts, hN, hin, hK, hE, hsz, hRf, hRl, hRc, hRs⟩ := C
  obtain ⟨hd, hn, hw, hxc⟩ := q_cert hat
  obtain rfl : n = 1 := by simpa [q_ln] using hn
  unfold q_stl at h
  split at h
  · rename_i v S2
    split at h
    · rename_i hlt
      cases h
      intro H locs cells slots ls hL hP hS hc hs
      exact lv_lstore_n hx hb hd rfl (q_Lo_has hL) (by rw [← hL.1]; exact hlt.1) rfl (fun ls2 h2 => k H locs cells slots ls2 (q_Lo_st2 (u := .long v) hL hlt h2) hP hS hc hs)
    · cases h
  · cases h
theorem q_t_iinc (C : q_Cx p R s m args meth c D cI cZ cD base T X M N0 S0 Nf Sf) {x : Nat} {y : Int} (hat : q_at M pc = some (.iinc x y, n, g, pl)) (h : (match L[x]? with | some (.int v) => if M = 19 ∧ x = 2 then none else q_go M (pc + n) (q_st1 L x (.int (v + Int32.ofInt y))) S w | _ => none) = some (.inr (.inl σ'))) (k : q_G p l e R s m args below meth c Q D cI cZ cD base T N0 S0 σ') : q_G p l e R s m args below meth c Q D cI cZ cD base T N0 S0 (M, pc, L, S, w) := by
  obtain ⟨hx, hb, hml, hown, hts, hN, hin, hK, hE, hsz, hRf, hRl, hRc, hRs⟩ := C
  obtain ⟨hd, hn, hw, hxc⟩ := q_cert hat
  obtain rfl : n = 3 := by simpa [q_ln] using hn
  split at h
  · rename_i v hv
    split at h
    · cases h
    · rename_i hno
      cases h
      intro H locs cells slots ls hL hP hS hc hs
      have hlt : x < L.length := (List.getElem?_eq_some_iff.mp hv).1
      obtain ⟨j, hj⟩ := List.getElem?_of_mem (q_lvl_in (base := base) (T := T) hv (by simp))
      exact lv_iinc hx hb hd (q_Lo_has hL) hj rfl (by rw [← hL.1]; exact hlt) rfl (fun ls2 h2 => k H locs cells slots ls2 (q_Lo_st1 (u := .int (v + Int32.ofInt y)) hL ⟨hlt, hno⟩ rfl h2) hP hS hc hs)
  · cases h
theorem q_t_iadd (C : q_Cx p R s m args meth c D cI cZ cD base T X M N0 S0 Nf Sf) (hat : q_at M pc = some (.iadd, n, g, pl)) (h : q_i2 M (pc + n) L S w (fun x y => x + y) = some (.inr (.inl σ'))) (k : q_G p l e R s m args below meth c Q D cI cZ cD base T N0 S0 σ') : q_G p l e R s m args below meth c Q D cI cZ cD base T N0 S0 (M, pc, L, S, w) := by
  obtain ⟨hx, hb, hml, hown, hts, hN, hin, hK, hE, hsz, hRf, hRl, hRc, hRs⟩ := C
  obtain ⟨hd, hn, hw, hxc⟩ := q_cert hat
  obtain rfl : n = 1 := by simpa [q_ln] using hn
  unfold q_i2 at h
  split at h
  · cases h
    intro H locs cells slots ls hL hP hS hc hs
    exact lv_iadd hx hb hd (k H locs cells slots ls hL hP hS hc hs)
  · cases h
theorem q_t_isub (C : q_Cx p R s m args meth c D cI cZ cD base T X M N0 S0 Nf Sf) (hat : q_at M pc = some (.isub, n, g, pl)) (h : q_i2 M (pc + n) L S w (fun x y => x - y) = some (.inr (.inl σ'))) (k : q_G p l e R s m args below meth c Q D cI cZ cD base T N0 S0 σ') : q_G p l e R s m args below meth c Q D cI cZ cD base T N0 S0 (M, pc, L, S, w) := by
  obtain ⟨hx, hb, hml, hown, hts, hN, hin, hK, hE, hsz, hRf, hRl, hRc, hRs⟩ := C
  obtain ⟨hd, hn, hw, hxc⟩ := q_cert hat
  obtain rfl : n = 1 := by simpa [q_ln] using hn
  unfold q_i2 at h
  split at h
  · cases h
    intro H locs cells slots ls hL hP hS hc hs
    exact lv_isub hx hb hd (k H locs cells slots ls hL hP hS hc hs)
  · cases h
theorem q_t_imul (C : q_Cx p R s m args meth c D cI cZ cD base T X M N0 S0 Nf Sf) (hat : q_at M pc = some (.imul, n, g, pl)) (h : q_i2 M (pc + n) L S w (fun x y => x * y) = some (.inr (.inl σ'))) (k : q_G p l e R s m args below meth c Q D cI cZ cD base T N0 S0 σ') : q_G p l e R s m args below meth c Q D cI cZ cD base T N0 S0 (M, pc, L, S, w) := by
  obtain ⟨hx, hb, hml, hown, hts, hN, hin, hK, hE, hsz, hRf, hRl, hRc, hRs⟩ := C
  obtain ⟨hd, hn, hw, hxc⟩ := q_cert hat
  obtain rfl : n = 1 := by simpa [q_ln] using hn
  unfold q_i2 at h
  split at h
  · cases h
    intro H locs cells slots ls hL hP hS hc hs
    exact lv_imul hx hb hd (k H locs cells slots ls hL hP hS hc hs)
  · cases h
theorem q_t_iand (C : q_Cx p R s m args meth c D cI cZ cD base T X M N0 S0 Nf Sf) (hat : q_at M pc = some (.iand, n, g, pl)) (h : q_i2 M (pc + n) L S w (fun x y => x &&& y) = some (.inr (.inl σ'))) (k : q_G p l e R s m args below meth c Q D cI cZ cD base T N0 S0 σ') : q_G p l e R s m args below meth c Q D cI cZ cD base T N0 S0 (M, pc, L, S, w) := by
  obtain ⟨hx, hb, hml, hown, hts, hN, hin, hK, hE, hsz, hRf, hRl, hRc, hRs⟩ := C
  obtain ⟨hd, hn, hw, hxc⟩ := q_cert hat
  obtain rfl : n = 1 := by simpa [q_ln] using hn
  unfold q_i2 at h
  split at h
  · cases h
    intro H locs cells slots ls hL hP hS hc hs
    exact lv_iand hx hb hd (k H locs cells slots ls hL hP hS hc hs)
  · cases h
theorem q_t_ior (C : q_Cx p R s m args meth c D cI cZ cD base T X M N0 S0 Nf Sf) (hat : q_at M pc = some (.ior, n, g, pl)) (h : q_i2 M (pc + n) L S w (fun x y => x ||| y) = some (.inr (.inl σ'))) (k : q_G p l e R s m args below meth c Q D cI cZ cD base T N0 S0 σ') : q_G p l e R s m args below meth c Q D cI cZ cD base T N0 S0 (M, pc, L, S, w) := by
  obtain ⟨hx, hb, hml, hown, hts, hN, hin, hK, hE, hsz, hRf, hRl, hRc, hRs⟩ := C
  obtain ⟨hd, hn, hw, hxc⟩ := q_cert hat
  obtain rfl : n = 1 := by simpa [q_ln] using hn
  unfold q_i2 at h
  split at h
  · cases h
    intro H locs cells slots ls hL hP hS hc hs
    exact lv_ior hx hb hd (k H locs cells slots ls hL hP hS hc hs)
  · cases h
theorem q_t_ixor (C : q_Cx p R s m args meth c D cI cZ cD base T X M N0 S0 Nf Sf) (hat : q_at M pc = some (.ixor, n, g, pl)) (h : q_i2 M (pc + n) L S w (fun x y => x ^^^ y) = some (.inr (.inl σ'))) (k : q_G p l e R s m args below meth c Q D cI cZ cD base T N0 S0 σ') : q_G p l e R s m args below meth c Q D cI cZ cD base T N0 S0 (M, pc, L, S, w) := by
  obtain ⟨hx, hb, hml, hown, hts, hN, hin, hK, hE, hsz, hRf, hRl, hRc, hRs⟩ := C
  obtain ⟨hd, hn, hw, hxc⟩ := q_cert hat
  obtain rfl : n = 1 := by simpa [q_ln] using hn
  unfold q_i2 at h
  split at h
  · cases h
    intro H locs cells slots ls hL hP hS hc hs
    exact lv_ixor hx hb hd (k H locs cells slots ls hL hP hS hc hs)
  · cases h
theorem q_t_ishl (C : q_Cx p R s m args meth c D cI cZ cD base T X M N0 S0 Nf Sf) (hat : q_at M pc = some (.ishl, n, g, pl)) (h : q_i2 M (pc + n) L S w (fun x y => x <<< (y &&& 31)) = some (.inr (.inl σ'))) (k : q_G p l e R s m args below meth c Q D cI cZ cD base T N0 S0 σ') : q_G p l e R s m args below meth c Q D cI cZ cD base T N0 S0 (M, pc, L, S, w) := by
  obtain ⟨hx, hb, hml, hown, hts, hN, hin, hK, hE, hsz, hRf, hRl, hRc, hRs⟩ := C
  obtain ⟨hd, hn, hw, hxc⟩ := q_cert hat
  obtain rfl : n = 1 := by simpa [q_ln] using hn
  unfold q_i2 at h
  split at h
  · cases h
    intro H locs cells slots ls hL hP hS hc hs
    exact lv_ishl hx hb hd (k H locs cells slots ls hL hP hS hc hs)
  · cases h
theorem q_t_ishr (C : q_Cx p R s m args meth c D cI cZ cD base T X M N0 S0 Nf Sf) (hat : q_at M pc = some (.ishr, n, g, pl)) (h : q_i2 M (pc + n) L S w (fun x y => x >>> (y &&& 31)) = some (.inr (.inl σ'))) (k : q_G p l e R s m args below meth c Q D cI cZ cD base T N0 S0 σ') : q_G p l e R s m args below meth c Q D cI cZ cD base T N0 S0 (M, pc, L, S, w) := by
  obtain ⟨hx, hb, hml, hown, hts, hN, hin, hK, hE, hsz, hRf, hRl, hRc, hRs⟩ := C
  obtain ⟨hd, hn, hw, hxc⟩ := q_cert hat
  obtain rfl : n = 1 := by simpa [q_ln] using hn
  unfold q_i2 at h
  split at h
  · cases h
    intro H locs cells slots ls hL hP hS hc hs
    exact lv_ishr hx hb hd (k H locs cells slots ls hL hP hS hc hs)
  · cases h
theorem q_t_iushr (C : q_Cx p R s m args meth c D cI cZ cD base T X M N0 S0 Nf Sf) (hat : q_at M pc = some (.iushr, n, g, pl)) (h : q_i2 M (pc + n) L S w (fun x y => (x.toUInt32 >>> (y.toUInt32 &&& Int32.toUInt32 31)).toInt32) = some (.inr (.inl σ'))) (k : q_G p l e R s m args below meth c Q D cI cZ cD base T N0 S0 σ') : q_G p l e R s m args below meth c Q D cI cZ cD base T N0 S0 (M, pc, L, S, w) := by
  obtain ⟨hx, hb, hml, hown, hts, hN, hin, hK, hE, hsz, hRf, hRl, hRc, hRs⟩ := C
  obtain ⟨hd, hn, hw, hxc⟩ := q_cert hat
  obtain rfl : n = 1 := by simpa [q_ln] using hn
  unfold q_i2 at h
  split at h
  · cases h
    intro H locs cells slots ls hL hP hS hc hs
    exact lv_iushr hx hb hd rfl (k H locs cells slots ls hL hP hS hc hs)
  · cases h
theorem q_t_idiv (C : q_Cx p R s m args meth c D cI cZ cD base T X M N0 S0 Nf Sf) (hat : q_at M pc = some (.idiv, n, g, pl)) (h : (match S with | .int y :: .int x :: S => if y = 0 then none else q_go M (pc + n) L (.int (x / y) :: S) w | _ => none) = some (.inr (.inl σ'))) (k : q_G p l e R s m args below meth c Q D cI cZ cD base T N0 S0 σ') : q_G p l e R s m args below meth c Q D cI cZ cD base T N0 S0 (M, pc, L, S, w) := by
  obtain ⟨hx, hb, hml, hown, hts, hN, hin, hK, hE, hsz, hRf, hRl, hRc, hRs⟩ := C
  obtain ⟨hd, hn, hw, hxc⟩ := q_cert hat
  obtain rfl : n = 1 := by simpa [q_ln] using hn
  split at h
  · split at h
    · cases h
    · rename_i hy
      cases h
      intro H locs cells slots ls hL hP hS hc hs
      exact lv_idiv hx hb hd hy (k H locs cells slots ls hL hP hS hc hs)
  · cases h
theorem q_t_irem (C : q_Cx p R s m args meth c D cI cZ cD base T X M N0 S0 Nf Sf) (hat : q_at M pc = some (.irem, n, g, pl)) (h : (match S with | .int y :: .int x :: S => if y = 0 then none else q_go M (pc + n) L (.int (x - x / y * y) :: S) w | _ => none) = some (.inr (.inl σ'))) (k : q_G p l e R s m args below meth c Q D cI cZ cD base T N0 S0 σ') : q_G p l e R s m args below meth c Q D cI cZ cD base T N0 S0 (M, pc, L, S, w) := by
  obtain ⟨hx, hb, hml, hown, hts, hN, hin, hK, hE, hsz, hRf, hRl, hRc, hRs⟩ := C
  obtain ⟨hd, hn, hw, hxc⟩ := q_cert hat
  obtain rfl : n = 1 := by simpa [q_ln] using hn
  split at h
  · split at h
    · cases h
    · rename_i hy
      cases h
      intro H locs cells slots ls hL hP hS hc hs
      exact lv_irem hx hb hd hy (k H locs cells slots ls hL hP hS hc hs)
  · cases h
theorem q_t_i2l (C : q_Cx p R s m args meth c D cI cZ cD base T X M N0 S0 Nf Sf) (hat : q_at M pc = some (.i2l, n, g, pl)) (h : (match S with | .int x :: S => q_go M (pc + n) L (.long x.toInt64 :: S) w | _ => none) = some (.inr (.inl σ'))) (k : q_G p l e R s m args below meth c Q D cI cZ cD base T N0 S0 σ') : q_G p l e R s m args below meth c Q D cI cZ cD base T N0 S0 (M, pc, L, S, w) := by
  obtain ⟨hx, hb, hml, hown, hts, hN, hin, hK, hE, hsz, hRf, hRl, hRc, hRs⟩ := C
  obtain ⟨hd, hn, hw, hxc⟩ := q_cert hat
  obtain rfl : n = 1 := by simpa [q_ln] using hn
  split at h
  · cases h
    intro H locs cells slots ls hL hP hS hc hs
    exact lv_i2l hx hb hd rfl (k H locs cells slots ls hL hP hS hc hs)
  · cases h
theorem q_t_lshl (C : q_Cx p R s m args meth c D cI cZ cD base T X M N0 S0 Nf Sf) (hat : q_at M pc = some (.lshl, n, g, pl)) (h : (match S with | .int y :: .long x :: S => q_go M (pc + n) L (.long (x <<< (y.toInt64 &&& 63)) :: S) w | _ => none) = some (.inr (.inl σ'))) (k : q_G p l e R s m args below meth c Q D cI cZ cD base T N0 S0 σ') : q_G p l e R s m args below meth c Q D cI cZ cD base T N0 S0 (M, pc, L, S, w) := by
  obtain ⟨hx, hb, hml, hown, hts, hN, hin, hK, hE, hsz, hRf, hRl, hRc, hRs⟩ := C
  obtain ⟨hd, hn, hw, hxc⟩ := q_cert hat
  obtain rfl : n = 1 := by simpa [q_ln] using hn
  split at h
  · cases h
    intro H locs cells slots ls hL hP hS hc hs
    exact lv_lshl hx hb hd rfl (k H locs cells slots ls hL hP hS hc hs)
  · cases h
theorem q_t_lor (C : q_Cx p R s m args meth c D cI cZ cD base T X M N0 S0 Nf Sf) (hat : q_at M pc = some (.lor, n, g, pl)) (h : (match S with | .long y :: .long x :: S => q_go M (pc + n) L (.long (x ||| y) :: S) w | _ => none) = some (.inr (.inl σ'))) (k : q_G p l e R s m args below meth c Q D cI cZ cD base T N0 S0 σ') : q_G p l e R s m args below meth c Q D cI cZ cD base T N0 S0 (M, pc, L, S, w) := by
  obtain ⟨hx, hb, hml, hown, hts, hN, hin, hK, hE, hsz, hRf, hRl, hRc, hRs⟩ := C
  obtain ⟨hd, hn, hw, hxc⟩ := q_cert hat
  obtain rfl : n = 1 := by simpa [q_ln] using hn
  split at h
  · cases h
    intro H locs cells slots ls hL hP hS hc hs
    exact lv_lor hx hb hd (k H locs cells slots ls hL hP hS hc hs)
  · cases h
theorem q_t_lcmp (C : q_Cx p R s m args meth c D cI cZ cD base T X M N0 S0 Nf Sf) (hat : q_at M pc = some (.lcmp, n, g, pl)) (h : (match S with | .long y :: .long x :: S => q_go M (pc + n) L (.int (lg_cmp x y) :: S) w | _ => none) = some (.inr (.inl σ'))) (k : q_G p l e R s m args below meth c Q D cI cZ cD base T N0 S0 σ') : q_G p l e R s m args below meth c Q D cI cZ cD base T N0 S0 (M, pc, L, S, w) := by
  obtain ⟨hx, hb, hml, hown, hts, hN, hin, hK, hE, hsz, hRf, hRl, hRc, hRs⟩ := C
  obtain ⟨hd, hn, hw, hxc⟩ := q_cert hat
  obtain rfl : n = 1 := by simpa [q_ln] using hn
  split at h
  · cases h
    intro H locs cells slots ls hL hP hS hc hs
    exact W.lcmp hx hb hd (k H locs cells slots ls hL hP hS hc hs)
  · cases h
theorem q_t_dup (C : q_Cx p R s m args meth c D cI cZ cD base T X M N0 S0 Nf Sf) (hat : q_at M pc = some (.dup, n, g, pl)) (h : (match S with | v :: S => if v.category = 1 then q_go M (pc + n) L (v :: v :: S) w else none | _ => none) = some (.inr (.inl σ'))) (k : q_G p l e R s m args below meth c Q D cI cZ cD base T N0 S0 σ') : q_G p l e R s m args below meth c Q D cI cZ cD base T N0 S0 (M, pc, L, S, w) := by
  obtain ⟨hx, hb, hml, hown, hts, hN, hin, hK, hE, hsz, hRf, hRl, hRc, hRs⟩ := C
  obtain ⟨hd, hn, hw, hxc⟩ := q_cert hat
  obtain rfl : n = 1 := by simpa [q_ln] using hn
  split at h
  · split at h
    · rename_i hv
      cases h
      intro H locs cells slots ls hL hP hS hc hs
      exact lv_dup hx hb hd (by rw [q_rl_cat]; exact hv) (k H locs cells slots ls hL hP hS hc hs)
    · cases h
  · cases h
theorem q_t_pop (C : q_Cx p R s m args meth c D cI cZ cD base T X M N0 S0 Nf Sf) (hat : q_at M pc = some (.pop, n, g, pl)) (h : (match S with | v :: S => if v.category = 1 then q_go M (pc + n) L S w else none | _ => none) = some (.inr (.inl σ'))) (k : q_G p l e R s m args below meth c Q D cI cZ cD base T N0 S0 σ') : q_G p l e R s m args below meth c Q D cI cZ cD base T N0 S0 (M, pc, L, S, w) := by
  obtain ⟨hx, hb, hml, hown, hts, hN, hin, hK, hE, hsz, hRf, hRl, hRc, hRs⟩ := C
  obtain ⟨hd, hn, hw, hxc⟩ := q_cert hat
  obtain rfl : n = 1 := by simpa [q_ln] using hn
  split at h
  · split at h
    · rename_i hv
      cases h
      intro H locs cells slots ls hL hP hS hc hs
      exact lv_pop hx hb hd (by rw [q_rl_cat]; exact hv) (k H locs cells slots ls hL hP hS hc hs)
    · cases h
  · cases h
theorem q_t_dup2 (C : q_Cx p R s m args meth c D cI cZ cD base T X M N0 S0 Nf Sf) (hat : q_at M pc = some (.dup2, n, g, pl)) (h : (match S with | v :: u :: S => if v.category = 1 ∧ u.category = 1 then q_go M (pc + n) L (v :: u :: v :: u :: S) w else none | _ => none) = some (.inr (.inl σ'))) (k : q_G p l e R s m args below meth c Q D cI cZ cD base T N0 S0 σ') : q_G p l e R s m args below meth c Q D cI cZ cD base T N0 S0 (M, pc, L, S, w) := by
  obtain ⟨hx, hb, hml, hown, hts, hN, hin, hK, hE, hsz, hRf, hRl, hRc, hRs⟩ := C
  obtain ⟨hd, hn, hw, hxc⟩ := q_cert hat
  obtain rfl : n = 1 := by simpa [q_ln] using hn
  split at h
  · split at h
    · rename_i hv
      cases h
      intro H locs cells slots ls hL hP hS hc hs
      exact lv_dup2_11 hx hb hd (by rw [q_rl_cat]; exact hv.1) (by rw [q_rl_cat]; exact hv.2) (k H locs cells slots ls hL hP hS hc hs)
    · cases h
  · cases h
theorem q_t_if_eq (C : q_Cx p R s m args meth c D cI cZ cD base T X M N0 S0 Nf Sf) {o : Int} (hat : q_at M pc = some (.ifCond .eq o, n, g, pl)) (h : q_c1 M (pc + n) g L S w (fun x => decide (x = 0)) = some (.inr (.inl σ'))) (k : q_G p l e R s m args below meth c Q D cI cZ cD base T N0 S0 σ') : q_G p l e R s m args below meth c Q D cI cZ cD base T N0 S0 (M, pc, L, S, w) := by
  obtain ⟨hx, hb, hml, hown, hts, hN, hin, hK, hE, hsz, hRf, hRl, hRc, hRs⟩ := C
  obtain ⟨hd, hn, hw, hxc⟩ := q_cert hat
  obtain rfl : n = 3 := by simpa [q_ln] using hn
  have ht : (pc : Int) + o = (g : Int) := by simpa [q_xc] using hxc
  unfold q_c1 at h
  split at h
  · split at h
    · rename_i hv
      cases h
      intro H locs cells slots ls hL hP hS hc hs
      exact lv_if_eq hx hb hd ht (fun _ => (k H locs cells slots ls hL hP hS hc hs)) (fun z => absurd (of_decide_eq_true hv) z)
    · rename_i hv
      cases h
      intro H locs cells slots ls hL hP hS hc hs
      exact lv_if_eq hx hb hd ht (fun z => absurd (decide_eq_true z) hv) (fun _ => (k H locs cells slots ls hL hP hS hc hs))
  · cases h
theorem q_t_if_ne (C : q_Cx p R s m args meth c D cI cZ cD base T X M N0 S0 Nf Sf) {o : Int} (hat : q_at M pc = some (.ifCond .ne o, n, g, pl)) (h : q_c1 M (pc + n) g L S w (fun x => decide (¬ x = 0)) = some (.inr (.inl σ'))) (k : q_G p l e R s m args below meth c Q D cI cZ cD base T N0 S0 σ') : q_G p l e R s m args below meth c Q D cI cZ cD base T N0 S0 (M, pc, L, S, w) := by
  obtain ⟨hx, hb, hml, hown, hts, hN, hin, hK, hE, hsz, hRf, hRl, hRc, hRs⟩ := C
  obtain ⟨hd, hn, hw, hxc⟩ := q_cert hat
  obtain rfl : n = 3 := by simpa [q_ln] using hn
  have ht : (pc : Int) + o = (g : Int) := by simpa [q_xc] using hxc
  unfold q_c1 at h
  split at h
  · split at h
    · rename_i hv
      cases h
      intro H locs cells slots ls hL hP hS hc hs
      exact lv_if_ne hx hb hd ht (fun _ => (k H locs cells slots ls hL hP hS hc hs)) (fun z => absurd (of_decide_eq_true hv) (fun q => q z))
    · rename_i hv
      cases h
      intro H locs cells slots ls hL hP hS hc hs
      exact lv_if_ne hx hb hd ht (fun z => absurd (decide_eq_true z) hv) (fun _ => (k H locs cells slots ls hL hP hS hc hs))
  · cases h
theorem q_t_if_lt (C : q_Cx p R s m args meth c D cI cZ cD base T X M N0 S0 Nf Sf) {o : Int} (hat : q_at M pc = some (.ifCond .lt o, n, g, pl)) (h : q_c1 M (pc + n) g L S w (fun x => decide (x < 0)) = some (.inr (.inl σ'))) (k : q_G p l e R s m args below meth c Q D cI cZ cD base T N0 S0 σ') : q_G p l e R s m args below meth c Q D cI cZ cD base T N0 S0 (M, pc, L, S, w) := by
  obtain ⟨hx, hb, hml, hown, hts, hN, hin, hK, hE, hsz, hRf, hRl, hRc, hRs⟩ := C
  obtain ⟨hd, hn, hw, hxc⟩ := q_cert hat
  obtain rfl : n = 3 := by simpa [q_ln] using hn
  have ht : (pc : Int) + o = (g : Int) := by simpa [q_xc] using hxc
  unfold q_c1 at h
  split at h
  · split at h
    · rename_i hv
      cases h
      intro H locs cells slots ls hL hP hS hc hs
      exact lv_if_lt hx hb hd ht (fun _ => (k H locs cells slots ls hL hP hS hc hs)) (fun z => absurd (of_decide_eq_true hv) z)
    · rename_i hv
      cases h
      intro H locs cells slots ls hL hP hS hc hs
      exact lv_if_lt hx hb hd ht (fun z => absurd (decide_eq_true z) hv) (fun _ => (k H locs cells slots ls hL hP hS hc hs))
  · cases h
theorem q_t_if_ge (C : q_Cx p R s m args meth c D cI cZ cD base T X M N0 S0 Nf Sf) {o : Int} (hat : q_at M pc = some (.ifCond .ge o, n, g, pl)) (h : q_c1 M (pc + n) g L S w (fun x => decide (0 ≤ x)) = some (.inr (.inl σ'))) (k : q_G p l e R s m args below meth c Q D cI cZ cD base T N0 S0 σ') : q_G p l e R s m args below meth c Q D cI cZ cD base T N0 S0 (M, pc, L, S, w) := by
  obtain ⟨hx, hb, hml, hown, hts, hN, hin, hK, hE, hsz, hRf, hRl, hRc, hRs⟩ := C
  obtain ⟨hd, hn, hw, hxc⟩ := q_cert hat
  obtain rfl : n = 3 := by simpa [q_ln] using hn
  have ht : (pc : Int) + o = (g : Int) := by simpa [q_xc] using hxc
  unfold q_c1 at h
  split at h
  · split at h
    · rename_i hv
      cases h
      intro H locs cells slots ls hL hP hS hc hs
      exact lv_if_ge hx hb hd ht (fun _ => (k H locs cells slots ls hL hP hS hc hs)) (fun z => absurd (of_decide_eq_true hv) z)
    · rename_i hv
      cases h
      intro H locs cells slots ls hL hP hS hc hs
      exact lv_if_ge hx hb hd ht (fun z => absurd (decide_eq_true z) hv) (fun _ => (k H locs cells slots ls hL hP hS hc hs))
  · cases h
theorem q_t_if_le (C : q_Cx p R s m args meth c D cI cZ cD base T X M N0 S0 Nf Sf) {o : Int} (hat : q_at M pc = some (.ifCond .le o, n, g, pl)) (h : q_c1 M (pc + n) g L S w (fun x => decide (x ≤ 0)) = some (.inr (.inl σ'))) (k : q_G p l e R s m args below meth c Q D cI cZ cD base T N0 S0 σ') : q_G p l e R s m args below meth c Q D cI cZ cD base T N0 S0 (M, pc, L, S, w) := by
  obtain ⟨hx, hb, hml, hown, hts, hN, hin, hK, hE, hsz, hRf, hRl, hRc, hRs⟩ := C
  obtain ⟨hd, hn, hw, hxc⟩ := q_cert hat
  obtain rfl : n = 3 := by simpa [q_ln] using hn
  have ht : (pc : Int) + o = (g : Int) := by simpa [q_xc] using hxc
  unfold q_c1 at h
  split at h
  · split at h
    · rename_i hv
      cases h
      intro H locs cells slots ls hL hP hS hc hs
      exact lv_if_le hx hb hd ht (fun _ => (k H locs cells slots ls hL hP hS hc hs)) (fun z => absurd (of_decide_eq_true hv) z)
    · rename_i hv
      cases h
      intro H locs cells slots ls hL hP hS hc hs
      exact lv_if_le hx hb hd ht (fun z => absurd (decide_eq_true z) hv) (fun _ => (k H locs cells slots ls hL hP hS hc hs))
  · cases h
theorem q_t_icmp_eq (C : q_Cx p R s m args meth c D cI cZ cD base T X M N0 S0 Nf Sf) {o : Int} (hat : q_at M pc = some (.if_icmp .eq o, n, g, pl)) (h : q_c2 M (pc + n) g L S w (fun x y => decide (x = y)) = some (.inr (.inl σ'))) (k : q_G p l e R s m args below meth c Q D cI cZ cD base T N0 S0 σ') : q_G p l e R s m args below meth c Q D cI cZ cD base T N0 S0 (M, pc, L, S, w) := by
  obtain ⟨hx, hb, hml, hown, hts, hN, hin, hK, hE, hsz, hRf, hRl, hRc, hRs⟩ := C
  obtain ⟨hd, hn, hw, hxc⟩ := q_cert hat
  obtain rfl : n = 3 := by simpa [q_ln] using hn
  have ht : (pc : Int) + o = (g : Int) := by simpa [q_xc] using hxc
  unfold q_c2 at h
  split at h
  · split at h
    · rename_i hv
      cases h
      intro H locs cells slots ls hL hP hS hc hs
      exact lv_icmp_eq hx hb hd ht (fun _ => (k H locs cells slots ls hL hP hS hc hs)) (fun z => absurd (of_decide_eq_true hv) z)
    · rename_i hv
      cases h
      intro H locs cells slots ls hL hP hS hc hs
      exact lv_icmp_eq hx hb hd ht (fun z => absurd (decide_eq_true z) hv) (fun _ => (k H locs cells slots ls hL hP hS hc hs))
  · cases h
theorem q_t_icmp_ne (C : q_Cx p R s m args meth c D cI cZ cD base T X M N0 S0 Nf Sf) {o : Int} (hat : q_at M pc = some (.if_icmp .ne o, n, g, pl)) (h : q_c2 M (pc + n) g L S w (fun x y => decide (¬ x = y)) = some (.inr (.inl σ'))) (k : q_G p l e R s m args below meth c Q D cI cZ cD base T N0 S0 σ') : q_G p l e R s m args below meth c Q D cI cZ cD base T N0 S0 (M, pc, L, S, w) := by
  obtain ⟨hx, hb, hml, hown, hts, hN, hin, hK, hE, hsz, hRf, hRl, hRc, hRs⟩ := C
  obtain ⟨hd, hn, hw, hxc⟩ := q_cert hat
  obtain rfl : n = 3 := by simpa [q_ln] using hn
  have ht : (pc : Int) + o = (g : Int) := by simpa [q_xc] using hxc
  unfold q_c2 at h
  split at h
  · split at h
    · rename_i hv
      cases h
      intro H locs cells slots ls hL hP hS hc hs
      exact lv_icmp_ne hx hb hd ht (fun _ => (k H locs cells slots ls hL hP hS hc hs)) (fun z => absurd (of_decide_eq_true hv) (fun q => q z))
    · rename_i hv
      cases h
      intro H locs cells slots ls hL hP hS hc hs
      exact lv_icmp_ne hx hb hd ht (fun z => absurd (decide_eq_true z) hv) (fun _ => (k H locs cells slots ls hL hP hS hc hs))
  · cases h
theorem q_t_icmp_lt (C : q_Cx p R s m args meth c D cI cZ cD base T X M N0 S0 Nf Sf) {o : Int} (hat : q_at M pc = some (.if_icmp .lt o, n, g, pl)) (h : q_c2 M (pc + n) g L S w (fun x y => decide (x < y)) = some (.inr (.inl σ'))) (k : q_G p l e R s m args below meth c Q D cI cZ cD base T N0 S0 σ') : q_G p l e R s m args below meth c Q D cI cZ cD base T N0 S0 (M, pc, L, S, w) := by
  obtain ⟨hx, hb, hml, hown, hts, hN, hin, hK, hE, hsz, hRf, hRl, hRc, hRs⟩ := C
  obtain ⟨hd, hn, hw, hxc⟩ := q_cert hat
  obtain rfl : n = 3 := by simpa [q_ln] using hn
  have ht : (pc : Int) + o = (g : Int) := by simpa [q_xc] using hxc
  unfold q_c2 at h
  split at h
  · split at h
    · rename_i hv
      cases h
      intro H locs cells slots ls hL hP hS hc hs
      exact lv_icmp_lt hx hb hd ht (fun _ => (k H locs cells slots ls hL hP hS hc hs)) (fun z => absurd (of_decide_eq_true hv) z)
    · rename_i hv
      cases h
      intro H locs cells slots ls hL hP hS hc hs
      exact lv_icmp_lt hx hb hd ht (fun z => absurd (decide_eq_true z) hv) (fun _ => (k H locs cells slots ls hL hP hS hc hs))
  · cases h
theorem q_t_icmp_ge (C : q_Cx p R s m args meth c D cI cZ cD base T X M N0 S0 Nf Sf) {o : Int} (hat : q_at M pc = some (.if_icmp .ge o, n, g, pl)) (h : q_c2 M (pc + n) g L S w (fun x y => decide (y ≤ x)) = some (.inr (.inl σ'))) (k : q_G p l e R s m args below meth c Q D cI cZ cD base T N0 S0 σ') : q_G p l e R s m args below meth c Q D cI cZ cD base T N0 S0 (M, pc, L, S, w) := by
  obtain ⟨hx, hb, hml, hown, hts, hN, hin, hK, hE, hsz, hRf, hRl, hRc, hRs⟩ := C
  obtain ⟨hd, hn, hw, hxc⟩ := q_cert hat
  obtain rfl : n = 3 := by simpa [q_ln] using hn
  have ht : (pc : Int) + o = (g : Int) := by simpa [q_xc] using hxc
  unfold q_c2 at h
  split at h
  · split at h
    · rename_i hv
      cases h
      intro H locs cells slots ls hL hP hS hc hs
      exact lv_icmp_ge hx hb hd ht (fun _ => (k H locs cells slots ls hL hP hS hc hs)) (fun z => absurd (of_decide_eq_true hv) z)
    · rename_i hv
      cases h
      intro H locs cells slots ls hL hP hS hc hs
      exact lv_icmp_ge hx hb hd ht (fun z => absurd (decide_eq_true z) hv) (fun _ => (k H locs cells slots ls hL hP hS hc hs))
  · cases h
theorem q_t_icmp_gt (C : q_Cx p R s m args meth c D cI cZ cD base T X M N0 S0 Nf Sf) {o : Int} (hat : q_at M pc = some (.if_icmp .gt o, n, g, pl)) (h : q_c2 M (pc + n) g L S w (fun x y => decide (y < x)) = some (.inr (.inl σ'))) (k : q_G p l e R s m args below meth c Q D cI cZ cD base T N0 S0 σ') : q_G p l e R s m args below meth c Q D cI cZ cD base T N0 S0 (M, pc, L, S, w) := by
  obtain ⟨hx, hb, hml, hown, hts, hN, hin, hK, hE, hsz, hRf, hRl, hRc, hRs⟩ := C
  obtain ⟨hd, hn, hw, hxc⟩ := q_cert hat
  obtain rfl : n = 3 := by simpa [q_ln] using hn
  have ht : (pc : Int) + o = (g : Int) := by simpa [q_xc] using hxc
  unfold q_c2 at h
  split at h
  · split at h
    · rename_i hv
      cases h
      intro H locs cells slots ls hL hP hS hc hs
      exact lv_icmp_gt hx hb hd ht (fun _ => (k H locs cells slots ls hL hP hS hc hs)) (fun z => absurd (of_decide_eq_true hv) z)
    · rename_i hv
      cases h
      intro H locs cells slots ls hL hP hS hc hs
      exact lv_icmp_gt hx hb hd ht (fun z => absurd (decide_eq_true z) hv) (fun _ => (k H locs cells slots ls hL hP hS hc hs))
  · cases h
theorem q_t_icmp_le (C : q_Cx p R s m args meth c D cI cZ cD base T X M N0 S0 Nf Sf) {o : Int} (hat : q_at M pc = some (.if_icmp .le o, n, g, pl)) (h : q_c2 M (pc + n) g L S w (fun x y => decide (x ≤ y)) = some (.inr (.inl σ'))) (k : q_G p l e R s m args below meth c Q D cI cZ cD base T N0 S0 σ') : q_G p l e R s m args below meth c Q D cI cZ cD base T N0 S0 (M, pc, L, S, w) := by
  obtain ⟨hx, hb, hml, hown, hts, hN, hin, hK, hE, hsz, hRf, hRl, hRc, hRs⟩ := C
  obtain ⟨hd, hn, hw, hxc⟩ := q_cert hat
  obtain rfl : n = 3 := by simpa [q_ln] using hn
  have ht : (pc : Int) + o = (g : Int) := by simpa [q_xc] using hxc
  unfold q_c2 at h
  split at h
  · split at h
    · rename_i hv
      cases h
      intro H locs cells slots ls hL hP hS hc hs
      exact lv_icmp_le hx hb hd ht (fun _ => (k H locs cells slots ls hL hP hS hc hs)) (fun z => absurd (of_decide_eq_true hv) z)
    · rename_i hv
      cases h
      intro H locs cells slots ls hL hP hS hc hs
      exact lv_icmp_le hx hb hd ht (fun z => absurd (decide_eq_true z) hv) (fun _ => (k H locs cells slots ls hL hP hS hc hs))
  · cases h
theorem q_t_goto (C : q_Cx p R s m args meth c D cI cZ cD base T X M N0 S0 Nf Sf) {o : Int} (hat : q_at M pc = some (.goto o, n, g, pl)) (h : q_go M g L S w = some (.inr (.inl σ'))) (k : q_G p l e R s m args below meth c Q D cI cZ cD base T N0 S0 σ') : q_G p l e R s m args below meth c Q D cI cZ cD base T N0 S0 (M, pc, L, S, w) := by
  obtain ⟨hx, hb, hml, hown, hts, hN, hin, hK, hE, hsz, hRf, hRl, hRc, hRs⟩ := C
  obtain ⟨hd, hn, hw, hxc⟩ := q_cert hat
  obtain rfl : n = 3 := by simpa [q_ln] using hn
  have ht : (pc : Int) + o = (g : Int) := by simpa [q_xc] using hxc
  cases h
  intro H locs cells slots ls hL hP hS hc hs
  exact lv_goto hx hb hd ht (k H locs cells slots ls hL hP hS hc hs)
end QS
end
section
theorem q_cat8 {base : Nat} {T : Nat → Nat} {S : List Value} (h : S.length ≤ 4) : ((S.map (q_rl base T)).map fun v => v.category).sum ≤ 8 := by
  have key : ∀ S : List Value, ((S.map (q_rl base T)).map fun v => v.category).sum ≤ 2 * S.length := by
    intro S
    induction S with
    | nil => simp
    | cons v S ih =>
      simp only [List.map_cons, List.sum_cons, List.length_cons]
      have : (q_rl base T v).category ≤ 2 := by rcases lv_cat (q_rl base T v) with h | h <;> omega
      omega
  have := key S
  omega
section QT
variable {p : Program} {l : Launch} {e : Env} {R : Room} {s : State} {m : MethodId} {args : Array Value} {below : List Frame} {meth : Method} {c : Code} {Q : State → Prop}
variable {D : va_G} {cI cZ cD : ClassId} {base : Nat} {T : Nat → Nat} {X : Nat × (Nat → Int32)} {M N0 S0 Nf Sf : Nat}
variable {pc n g : Nat} {pl : List Nat} {L S : List Value} {w : q_M} {σ' : q_S}
theorem q_t_getfield (C : q_Cx p R s m args meth c D cI cZ cD base T X M N0 S0 Nf Sf) {x : Nat} (hat : q_at M pc = some (.getfield x, n, g, pl)) (h : q_gf M (pc + n) L S w (g / 32) (g % 32) = some (.inr (.inl σ'))) (k : q_G p l e R s m args below meth c Q D cI cZ cD base T N0 S0 σ') : q_G p l e R s m args below meth c Q D cI cZ cD base T N0 S0 (M, pc, L, S, w) := by
  obtain ⟨hx, hb, hml, hown, hts, hN, hin, hK, hE, hsz, hRf, hRl, hRc, hRs⟩ := C
  obtain ⟨hd, hn, hw, hxc⟩ := q_cert hat
  obtain rfl : n = 3 := by simpa [q_ln] using hn
  obtain ⟨hci, hk⟩ : g / 32 < 9 ∧ g % 32 < (q_ft (g / 32)).length := by simpa [q_xc] using hxc
  have hw1 : Jvm.Cond.fieldLink (q_own M) x (q_T (g / 32) (g % 32)).1 (q_T (g / 32) (g % 32)).2.1 (q_T (g / 32) (g % 32)).2.2.1 ∈ lw_tbl := hw _ (by simp [q_wd, q_kd, q_wk, q_own])
  unfold q_gf at h
  split at h
  · rename_i a S2
    split at h
    · rename_i hcl
      obtain ⟨n0, hn0⟩ := q_fst_of hcl
      have he : (q_ws base cI cZ cD w)[a]? = some (base + a, .inr (g / 32, q_fl base w a (g / 32))) := by rw [q_ws_at (q_lt_of hn0), q_cell_obj hn0 hci]
      split at h
      · rename_i ht
        cases h
        intro H locs cells slots ls hL hP hS hc hs
        exact va_get (D := D) (v := .int (w.2.1 a (g % 32))) hx hb hts (q_hin hci) hown hK hP a he (q_vw hci) (g % 32) hk (hts _ (q_in_g hw1 rfl)) (fun _ h9 => h9) (q_fl_at ht) hd (k H locs cells slots ls hL hP hS hc hs)
      · rename_i ht
        split at h
        · rename_i r hr
          cases h
          intro H locs cells slots ls hL hP hS hc hs
          exact va_get (D := D) (v := .ref (base + r)) hx hb hts (q_hin hci) hown hK hP a he (q_vw hci) (g % 32) hk (hts _ (q_in_g hw1 rfl)) (fun _ h9 => h9) (by rw [q_fl_at ht]; simp [q_fv, hr, va_rf]) hd (k H locs cells slots ls hL hP hS hc hs)
        · cases h
      · rename_i ht
        cases h
        intro H locs cells slots ls hL hP hS hc hs
        exact va_get (D := D) (v := .long (w.2.2.2 a)) hx hb hts (q_hin hci) hown hK hP a he (q_vw hci) (g % 32) hk (hts _ (q_in_g hw1 rfl)) (fun _ h9 => h9) (q_fl_at ht) hd (k H locs cells slots ls hL hP hS hc hs)
      · cases h
    · cases h
  · cases h
theorem q_t_putfield (C : q_Cx p R s m args meth c D cI cZ cD base T X M N0 S0 Nf Sf) {x : Nat} (hat : q_at M pc = some (.putfield x, n, g, pl)) (h : q_pf M (pc + n) L S w (g / 32) (g % 32) = some (.inr (.inl σ'))) (k : q_G p l e R s m args below meth c Q D cI cZ cD base T N0 S0 σ') : q_G p l e R s m args below meth c Q D cI cZ cD base T N0 S0 (M, pc, L, S, w) := by
  obtain ⟨hx, hb, hml, hown, hts, hN, hin, hK, hE, hsz, hRf, hRl, hRc, hRs⟩ := C
  obtain ⟨hd, hn, hw, hxc⟩ := q_cert hat
  obtain rfl : n = 3 := by simpa [q_ln] using hn
  obtain ⟨⟨hci, hk⟩, hfin⟩ : (g / 32 < 9 ∧ g % 32 < (q_ft (g / 32)).length) ∧ ((q_T (g / 32) (g % 32)).2.2.2 = false ∨ (q_ini M = true ∧ (q_T (g / 32) (g % 32)).1 = q_own M)) := by simpa [q_xc] using hxc
  have hw1 : Jvm.Cond.fieldLink (q_own M) x (q_T (g / 32) (g % 32)).1 (q_T (g / 32) (g % 32)).2.1 (q_T (g / 32) (g % 32)).2.2.1 ∈ lw_tbl := hw _ (by simp [q_wd, q_kd, q_wk, q_own])
  obtain ⟨k0, k1, k2⟩ := q_kinds hci hk
  unfold q_pf at h
  split at h
  · rename_i v a S2
    split at h
    · rename_i hcl
      obtain ⟨n0, hn0⟩ := q_fst_of hcl.1
      have he : (q_ws base cI cZ cD w)[a]? = some (base + a, .inr (g / 32, q_fl base w a (g / 32))) := by rw [q_ws_at (q_lt_of hn0), q_cell_obj hn0 hci]
      cases h
      intro H locs cells slots ls hL hP hS hc hs
      have hset : (q_ws base cI cZ cD w).set a (base + a, .inr (g / 32, (q_fl base w a (g / 32)).set (g % 32) (.int v))) = q_ws base cI cZ cD (w.1, q_up w.2.1 a (g % 32) v, w.2.2.1, w.2.2.2) := by
        have h1 := q_ws_upd (base := base) (cI := cI) (cZ := cZ) (cD := cD) (w := w) (w' := (w.1, q_up w.2.1 a (g % 32) v, w.2.2.1, w.2.2.2)) (a := a) rfl (fun b hb2 => ⟨va_up_ne _ _ hb2, rfl, rfl⟩)
        rw [← h1]
        have hc2 : q_cell base cI cZ cD (w.1, q_up w.2.1 a (g % 32) v, w.2.2.1, w.2.2.2) a = .inr (g / 32, q_fl base (w.1, q_up w.2.1 a (g % 32) v, w.2.2.1, w.2.2.2) a (g / 32)) := q_cell_obj hn0 hci
        rw [hc2, q_fl_set (w' := (w.1, q_up w.2.1 a (g % 32) v, w.2.2.1, w.2.2.2)) hcl.2 (by simp [q_fv, q_up, va_up, upd]) (fun i u hi hu => by simp [q_fv, q_up, va_up, upd, hi])]
      obtain ⟨hn9, hf9⟩ : narrow (q_ty (g / 32) (g % 32)) (.int v) = .int v ∧ fits (q_ty (g / 32) (g % 32)) (.int v) = true := by rw [k0 hcl.2]; exact ⟨rfl, rfl⟩
      have hlen : g % 32 < (q_fl base w a (g / 32)).length := by simpa [q_fl] using hk
      rcases hfin with hfin | ⟨hfi, hown2⟩
      · by_cases hft : (q_T (g / 32) (g % 32)).2.2.2 = false
        · exact va_put (D := D) (v := .int v) (ty := q_ty (g / 32) (g % 32)) hx hb hts (q_hin hci) (q_ty (g / 32)) (q_tyok hci) (q_nmok hci) hown hK hP q_ws_D hS a he (q_vw hci) (g % 32) hk (hts _ (q_in_g hw1 rfl)) (fun _ h9 => h9) hft (q_tyok hci _ hk) hn9 hf9 hlen hd (fun H1 locs1 hP1 hD1 hS1 => k H1 locs1 cells slots ls hL (by rw [hset] at hP1; exact hP1) hS1 hc hs)
        · exact absurd hfin hft
      · by_cases hft : (q_T (g / 32) (g % 32)).2.2.2 = false
        · exact va_put (D := D) (v := .int v) (ty := q_ty (g / 32) (g % 32)) hx hb hts (q_hin hci) (q_ty (g / 32)) (q_tyok hci) (q_nmok hci) hown hK hP q_ws_D hS a he (q_vw hci) (g % 32) hk (hts _ (q_in_g hw1 rfl)) (fun _ h9 => h9) hft (q_tyok hci _ hk) hn9 hf9 hlen hd (fun H1 locs1 hP1 hD1 hS1 => k H1 locs1 cells slots ls hL (by rw [hset] at hP1; exact hP1) hS1 hc hs)
        · have hft2 : (q_T (g / 32) (g % 32)).2.2.2 = true := by simpa using hft
          exact va_putF (D := D) (v := .int v) (ty := q_ty (g / 32) (g % 32)) hx hb hts (q_hin hci) (q_ty (g / 32)) (q_tyok hci) (q_nmok hci) hown hK hP q_ws_D hS a he (q_vw hci) (g % 32) hk (hts _ (q_in_g hw1 rfl)) (fun _ h9 => h9) hft2 (hin hfi) hown2 (q_tyok hci _ hk) hn9 hf9 hlen hd (fun H1 locs1 hP1 hD1 hS1 => k H1 locs1 cells slots ls hL (by rw [hset] at hP1; exact hP1) hS1 hc hs)
    · cases h
  · rename_i v a S2
    split at h
    · rename_i hcl
      obtain ⟨n0, hn0⟩ := q_fst_of hcl.1
      have he : (q_ws base cI cZ cD w)[a]? = some (base + a, .inr (g / 32, q_fl base w a (g / 32))) := by rw [q_ws_at (q_lt_of hn0), q_cell_obj hn0 hci]
      cases h
      intro H locs cells slots ls hL hP hS hc hs
      have hset : (q_ws base cI cZ cD w).set a (base + a, .inr (g / 32, (q_fl base w a (g / 32)).set (g % 32) (.ref (base + v)))) = q_ws base cI cZ cD (w.1, w.2.1, q_upP w.2.2.1 a (g % 32) (some v), w.2.2.2) := by
        have h1 := q_ws_upd (base := base) (cI := cI) (cZ := cZ) (cD := cD) (w := w) (w' := (w.1, w.2.1, q_upP w.2.2.1 a (g % 32) (some v), w.2.2.2)) (a := a) rfl (fun b hb2 => ⟨rfl, va_up_ne _ _ hb2, rfl⟩)
        rw [← h1]
        have hc2 : q_cell base cI cZ cD (w.1, w.2.1, q_upP w.2.2.1 a (g % 32) (some v), w.2.2.2) a = .inr (g / 32, q_fl base (w.1, w.2.1, q_upP w.2.2.1 a (g % 32) (some v), w.2.2.2) a (g / 32)) := q_cell_obj hn0 hci
        rw [hc2, q_fl_set (w' := (w.1, w.2.1, q_upP w.2.2.1 a (g % 32) (some v), w.2.2.2)) hcl.2 (by simp [q_fv, q_upP, va_up, va_rf]) (fun i u hi hu => by simp [q_fv, q_upP, va_up, hi])]
      obtain ⟨hn9, hf9⟩ : narrow (q_ty (g / 32) (g % 32)) (.ref (base + v)) = .ref (base + v) ∧ fits (q_ty (g / 32) (g % 32)) (.ref (base + v)) = true := q_narR (k1 hcl.2)
      have hlen : g % 32 < (q_fl base w a (g / 32)).length := by simpa [q_fl] using hk
      rcases hfin with hfin | ⟨hfi, hown2⟩
      · by_cases hft : (q_T (g / 32) (g % 32)).2.2.2 = false
        · exact va_put (D := D) (v := .ref (base + v)) (ty := q_ty (g / 32) (g % 32)) hx hb hts (q_hin hci) (q_ty (g / 32)) (q_tyok hci) (q_nmok hci) hown hK hP q_ws_D hS a he (q_vw hci) (g % 32) hk (hts _ (q_in_g hw1 rfl)) (fun _ h9 => h9) hft (q_tyok hci _ hk) hn9 hf9 hlen hd (fun H1 locs1 hP1 hD1 hS1 => k H1 locs1 cells slots ls hL (by rw [hset] at hP1; exact hP1) hS1 hc hs)
        · exact absurd hfin hft
      · by_cases hft : (q_T (g / 32) (g % 32)).2.2.2 = false
        · exact va_put (D := D) (v := .ref (base + v)) (ty := q_ty (g / 32) (g % 32)) hx hb hts (q_hin hci) (q_ty (g / 32)) (q_tyok hci) (q_nmok hci) hown hK hP q_ws_D hS a he (q_vw hci) (g % 32) hk (hts _ (q_in_g hw1 rfl)) (fun _ h9 => h9) hft (q_tyok hci _ hk) hn9 hf9 hlen hd (fun H1 locs1 hP1 hD1 hS1 => k H1 locs1 cells slots ls hL (by rw [hset] at hP1; exact hP1) hS1 hc hs)
        · have hft2 : (q_T (g / 32) (g % 32)).2.2.2 = true := by simpa using hft
          exact va_putF (D := D) (v := .ref (base + v)) (ty := q_ty (g / 32) (g % 32)) hx hb hts (q_hin hci) (q_ty (g / 32)) (q_tyok hci) (q_nmok hci) hown hK hP q_ws_D hS a he (q_vw hci) (g % 32) hk (hts _ (q_in_g hw1 rfl)) (fun _ h9 => h9) hft2 (hin hfi) hown2 (q_tyok hci _ hk) hn9 hf9 hlen hd (fun H1 locs1 hP1 hD1 hS1 => k H1 locs1 cells slots ls hL (by rw [hset] at hP1; exact hP1) hS1 hc hs)
    · cases h
  · rename_i v a S2
    split at h
    · rename_i hcl
      obtain ⟨k21, k22, k23⟩ := k2 hcl.2
      obtain ⟨n0, hn0⟩ := q_fst_of hcl.1
      have he : (q_ws base cI cZ cD w)[a]? = some (base + a, .inr (g / 32, q_fl base w a (g / 32))) := by rw [q_ws_at (q_lt_of hn0), q_cell_obj hn0 hci]
      cases h
      intro H locs cells slots ls hL hP hS hc hs
      have hset : (q_ws base cI cZ cD w).set a (base + a, .inr (g / 32, (q_fl base w a (g / 32)).set (g % 32) (.long v))) = q_ws base cI cZ cD (w.1, w.2.1, w.2.2.1, va_up w.2.2.2 a v) := by
        have h1 := q_ws_upd (base := base) (cI := cI) (cZ := cZ) (cD := cD) (w := w) (w' := (w.1, w.2.1, w.2.2.1, va_up w.2.2.2 a v)) (a := a) rfl (fun b hb2 => ⟨rfl, rfl, va_up_ne _ _ hb2⟩)
        rw [← h1]
        have hc2 : q_cell base cI cZ cD (w.1, w.2.1, w.2.2.1, va_up w.2.2.2 a v) a = .inr (g / 32, q_fl base (w.1, w.2.1, w.2.2.1, va_up w.2.2.2 a v) a (g / 32)) := q_cell_obj hn0 hci
        rw [hc2, q_fl_set (w' := (w.1, w.2.1, w.2.2.1, va_up w.2.2.2 a v)) hcl.2 (by simp [q_fv, va_up]) (fun i u hi hu => by
          have hi2 : i < (q_ft (g / 32)).length := (List.getElem?_eq_some_iff.mp hu).1
          have hu2 : ¬ u = 2 := fun z => hi (by subst z; rw [k23]; exact (((q_kinds hci hi2).2.2 hu).2.2))
          rw [k22] at hu
          have hu3 : u = 0 ∨ u = 1 := by
            rcases i with _ | _ | _ | i
            · right; cases hu; rfl
            · right; cases hu; rfl
            · cases hu; exact absurd rfl hu2
            · cases hu
          rcases hu3 with rfl | rfl <;> rfl)]
      obtain ⟨hn9, hf9⟩ : narrow (q_ty (g / 32) (g % 32)) (.long v) = .long v ∧ fits (q_ty (g / 32) (g % 32)) (.long v) = true := by rw [k21]; exact ⟨rfl, rfl⟩
      have hlen : g % 32 < (q_fl base w a (g / 32)).length := by simpa [q_fl] using hk
      rcases hfin with hfin | ⟨hfi, hown2⟩
      · by_cases hft : (q_T (g / 32) (g % 32)).2.2.2 = false
        · exact va_put (D := D) (v := .long v) (ty := q_ty (g / 32) (g % 32)) hx hb hts (q_hin hci) (q_ty (g / 32)) (q_tyok hci) (q_nmok hci) hown hK hP q_ws_D hS a he (q_vw hci) (g % 32) hk (hts _ (q_in_g hw1 rfl)) (fun _ h9 => h9) hft (q_tyok hci _ hk) hn9 hf9 hlen hd (fun H1 locs1 hP1 hD1 hS1 => k H1 locs1 cells slots ls hL (by rw [hset] at hP1; exact hP1) hS1 hc hs)
        · exact absurd hfin hft
      · by_cases hft : (q_T (g / 32) (g % 32)).2.2.2 = false
        · exact va_put (D := D) (v := .long v) (ty := q_ty (g / 32) (g % 32)) hx hb hts (q_hin hci) (q_ty (g / 32)) (q_tyok hci) (q_nmok hci) hown hK hP q_ws_D hS a he (q_vw hci) (g % 32) hk (hts _ (q_in_g hw1 rfl)) (fun _ h9 => h9) hft (q_tyok hci _ hk) hn9 hf9 hlen hd (fun H1 locs1 hP1 hD1 hS1 => k H1 locs1 cells slots ls hL (by rw [hset] at hP1; exact hP1) hS1 hc hs)
        · have hft2 : (q_T (g / 32) (g % 32)).2.2.2 = true := by simpa using hft
          exact va_putF (D := D) (v := .long v) (ty := q_ty (g / 32) (g % 32)) hx hb hts (q_hin hci) (q_ty (g / 32)) (q_tyok hci) (q_nmok hci) hown hK hP q_ws_D hS a he (q_vw hci) (g % 32) hk (hts _ (q_in_g hw1 rfl)) (fun _ h9 => h9) hft2 (hin hfi) hown2 (q_tyok hci _ hk) hn9 hf9 hlen hd (fun H1 locs1 hP1 hD1 hS1 => k H1 locs1 cells slots ls hL (by rw [hset] at hP1; exact hP1) hS1 hc hs)
    · cases h
  · cases h
theorem q_t_getstatic (C : q_Cx p R s m args meth c D cI cZ cD base T X M N0 S0 Nf Sf) {x : Nat} (hat : q_at M pc = some (.getstatic x, n, g, pl)) (h : q_go M (pc + n) L (.float (UInt32.ofNat g) :: S) w = some (.inr (.inl σ'))) (k : q_G p l e R s m args below meth c Q D cI cZ cD base T N0 S0 σ') : q_G p l e R s m args below meth c Q D cI cZ cD base T N0 S0 (M, pc, L, S, w) := by
  obtain ⟨hx, hb, hml, hown, hts, hN, hin, hK, hE, hsz, hRf, hRl, hRc, hRs⟩ := C
  obtain ⟨hd, hn, hw, hxc⟩ := q_cert hat
  obtain rfl : n = 3 := by simpa [q_ln] using hn
  have hg : g < 2 := by simpa [q_xc] using hxc
  have hw1 : Jvm.Cond.fieldLink (q_own M) x RX3 (if g = 0 then "MARKS" else "ONE_BY") "[I" ∈ lw_tbl := hw _ (by simp [q_wd, q_kd, q_wk, q_own])
  cases h
  intro H locs cells slots ls hL hP hS hc hs
  rcases (show g = 0 ∨ g = 1 by omega) with rfl | rfl
  · exact va_gets hx hb hE.1.1 hS hown (hts _ (q_in_g hw1 rfl)) (fun _ h9 => h9) hd (k H locs cells slots ls hL hP hS hc hs)
  · exact va_gets hx hb hE.2.1.1 hS hown (hts _ (q_in_g hw1 rfl)) (fun _ h9 => h9) hd (k H locs cells slots ls hL hP hS hc hs)
theorem q_xt_T (hE : q_Ext T X base s) (u : UInt32) : va_T .int (T u.toNat) (q_xt X u).1 (fun j => .int ((q_xt X u).2 j)) (q_A base) s s.heap := by
  unfold q_xt
  by_cases h0 : u = 0
  · subst h0; exact hE.1.2
  · by_cases h1 : u = 1
    · subst h1; exact hE.2.1.2
    · rw [if_neg h0, if_neg h1]; exact hE.2.2 u h0 h1
theorem q_t_iaload (C : q_Cx p R s m args meth c D cI cZ cD base T X M N0 S0 Nf Sf) (hat : q_at M pc = some (.iaload, n, g, pl)) (h : q_ald X M (pc + n) L S w 9 = some (.inr (.inl σ'))) (k : q_G p l e R s m args below meth c Q D cI cZ cD base T N0 S0 σ') : q_G p l e R s m args below meth c Q D cI cZ cD base T N0 S0 (M, pc, L, S, w) := by
  obtain ⟨hx, hb, hml, hown, hts, hN, hin, hK, hE, hsz, hRf, hRl, hRc, hRs⟩ := C
  obtain ⟨hd, hn, hw, hxc⟩ := q_cert hat
  obtain rfl : n = 1 := by simpa [q_ln] using hn
  unfold q_ald at h
  split at h
  · rename_i x a S2
    split at h
    · rename_i k0 n0 hn0
      split at h
      · rename_i hk
        obtain ⟨rfl, hi⟩ := hk
        cases h
        intro H locs cells slots ls hL hP hS hc hs
        exact va_iald (D := D) (f := w.2.1 a) hx hb hK hP a 0 (by rw [q_ws_at (q_lt_of hn0), q_cell_I hn0]) rfl (q_inb_in hi) hd (k H locs cells slots ls hL hP hS hc hs)
      · cases h
    · cases h
  · rename_i x u S2
    split at h
    · rename_i hk
      cases h
      intro H locs cells slots ls hL hP hS hc hs
      exact va_ti hx hb (q_xt_T hE u) hS (q_inb_in hk.2) rfl hd (k H locs cells slots ls hL hP hS hc hs)
    · cases h
  · cases h
theorem q_t_baload (C : q_Cx p R s m args meth c D cI cZ cD base T X M N0 S0 Nf Sf) (hat : q_at M pc = some (.baload, n, g, pl)) (h : q_ald X M (pc + n) L S w 10 = some (.inr (.inl σ'))) (k : q_G p l e R s m args below meth c Q D cI cZ cD base T N0 S0 σ') : q_G p l e R s m args below meth c Q D cI cZ cD base T N0 S0 (M, pc, L, S, w) := by
  obtain ⟨hx, hb, hml, hown, hts, hN, hin, hK, hE, hsz, hRf, hRl, hRc, hRs⟩ := C
  obtain ⟨hd, hn, hw, hxc⟩ := q_cert hat
  obtain rfl : n = 1 := by simpa [q_ln] using hn
  unfold q_ald at h
  split at h
  · rename_i x a S2
    split at h
    · rename_i k0 n0 hn0
      split at h
      · rename_i hk
        obtain ⟨rfl, hi⟩ := hk
        cases h
        intro H locs cells slots ls hL hP hS hc hs
        exact va_zald (D := D) (f := w.2.1 a) hx hb hK hP a 1 (by rw [q_ws_at (q_lt_of hn0), q_cell_Z hn0]) rfl (q_inb_in hi) hd (k H locs cells slots ls hL hP hS hc hs)
      · cases h
    · cases h
  · rename_i x u S2
    split at h
    · rename_i hk
      exact absurd hk.1 (by decide)
    · cases h
  · cases h
theorem q_t_aaload (C : q_Cx p R s m args meth c D cI cZ cD base T X M N0 S0 Nf Sf) (hat : q_at M pc = some (.aaload, n, g, pl)) (h : q_ald2 M (pc + n) L S w = some (.inr (.inl σ'))) (k : q_G p l e R s m args below meth c Q D cI cZ cD base T N0 S0 σ') : q_G p l e R s m args below meth c Q D cI cZ cD base T N0 S0 (M, pc, L, S, w) := by
  obtain ⟨hx, hb, hml, hown, hts, hN, hin, hK, hE, hsz, hRf, hRl, hRc, hRs⟩ := C
  obtain ⟨hd, hn, hw, hxc⟩ := q_cert hat
  obtain rfl : n = 1 := by simpa [q_ln] using hn
  unfold q_ald2 at h
  split at h
  · rename_i x a S2
    split at h
    · rename_i k0 n0 hn0
      split at h
      · rename_i hk
        obtain ⟨rfl, hi⟩ := hk
        split at h
        · rename_i r hr
          cases h
          intro H locs cells slots ls hL hP hS hc hs
          refine va_aldq (D := D) hx hb hK hP a 2 (by rw [q_ws_at (q_lt_of hn0), q_cell_D hn0]) rfl (q_inb_in hi) hd ?_
          have hv : va_rf ((w.2.2.1 a x.toNatClampNeg).map (fun r => base + r)) = .ref (base + r) := by rw [hr]; rfl
          rw [hv]
          exact (k H locs cells slots ls hL hP hS hc hs)
        · cases h
      · cases h
    · cases h
  · cases h
theorem q_t_iastore (C : q_Cx p R s m args meth c D cI cZ cD base T X M N0 S0 Nf Sf) (hat : q_at M pc = some (.iastore, n, g, pl)) (h : q_ast M (pc + n) L S w 9 = some (.inr (.inl σ'))) (k : q_G p l e R s m args below meth c Q D cI cZ cD base T N0 S0 σ') : q_G p l e R s m args below meth c Q D cI cZ cD base T N0 S0 (M, pc, L, S, w) := by
  obtain ⟨hx, hb, hml, hown, hts, hN, hin, hK, hE, hsz, hRf, hRl, hRc, hRs⟩ := C
  obtain ⟨hd, hn, hw, hxc⟩ := q_cert hat
  obtain rfl : n = 1 := by simpa [q_ln] using hn
  unfold q_ast at h
  split at h
  · rename_i v x a S2
    split at h
    · rename_i k0 n0 hn0
      split at h
      · rename_i hk
        obtain ⟨rfl, hi, hv⟩ := hk
        cases h
        intro H locs cells slots ls hL hP hS hc hs
        have hnar : v = v := by rfl
        refine va_iast (D := D) (f := w.2.1 a) (x := v) hx hb hK hP q_ws_D hS a 0 (by rw [q_ws_at (q_lt_of hn0), q_cell_I hn0]) rfl (q_inb_in hi) hd (fun H1 locs1 hP1 hD1 hS1 => k H1 locs1 cells slots ls hL ?_ hS1 hc hs)
        have h1 := q_ws_upd (base := base) (cI := cI) (cZ := cZ) (cD := cD) (w := w) (w' := (w.1, q_up w.2.1 a x.toNatClampNeg v, w.2.2.1, w.2.2.2)) (a := a) rfl (fun b hb2 => ⟨va_up_ne _ _ hb2, rfl, rfl⟩)
        have hc2 := q_cell_I (base := base) (cI := cI) (cZ := cZ) (cD := cD) (w := (w.1, q_up w.2.1 a x.toNatClampNeg v, w.2.2.1, w.2.2.2)) hn0
        rw [hc2] at h1
        have hrow : (q_up w.2.1 a x.toNatClampNeg v) a = upd (w.2.1 a) x.toNatClampNeg v := va_up_self _ _ _
        dsimp only at h1
        rw [hrow] at h1
        rw [← h1]
        rw [hnar] at hP1
        exact hP1
      · cases h
    · cases h
  · cases h
theorem q_t_bastore (C : q_Cx p R s m args meth c D cI cZ cD base T X M N0 S0 Nf Sf) (hat : q_at M pc = some (.bastore, n, g, pl)) (h : q_ast M (pc + n) L S w 10 = some (.inr (.inl σ'))) (k : q_G p l e R s m args below meth c Q D cI cZ cD base T N0 S0 σ') : q_G p l e R s m args below meth c Q D cI cZ cD base T N0 S0 (M, pc, L, S, w) := by
  obtain ⟨hx, hb, hml, hown, hts, hN, hin, hK, hE, hsz, hRf, hRl, hRc, hRs⟩ := C
  obtain ⟨hd, hn, hw, hxc⟩ := q_cert hat
  obtain rfl : n = 1 := by simpa [q_ln] using hn
  unfold q_ast at h
  split at h
  · rename_i v x a S2
    split at h
    · rename_i k0 n0 hn0
      split at h
      · rename_i hk
        obtain ⟨rfl, hi, hv⟩ := hk
        cases h
        intro H locs cells slots ls hL hP hS hc hs
        have hnar : (vp_nar .boolean v) = v := by (rcases hv with hv | rfl | rfl) <;> first | rfl | exact absurd hv (by decide)
        refine va_zast (D := D) (f := w.2.1 a) (x := v) hx hb hK hP q_ws_D hS a 1 (by rw [q_ws_at (q_lt_of hn0), q_cell_Z hn0]) rfl (q_inb_in hi) hd (fun H1 locs1 hP1 hD1 hS1 => k H1 locs1 cells slots ls hL ?_ hS1 hc hs)
        have h1 := q_ws_upd (base := base) (cI := cI) (cZ := cZ) (cD := cD) (w := w) (w' := (w.1, q_up w.2.1 a x.toNatClampNeg v, w.2.2.1, w.2.2.2)) (a := a) rfl (fun b hb2 => ⟨va_up_ne _ _ hb2, rfl, rfl⟩)
        have hc2 := q_cell_Z (base := base) (cI := cI) (cZ := cZ) (cD := cD) (w := (w.1, q_up w.2.1 a x.toNatClampNeg v, w.2.2.1, w.2.2.2)) hn0
        rw [hc2] at h1
        have hrow : (q_up w.2.1 a x.toNatClampNeg v) a = upd (w.2.1 a) x.toNatClampNeg v := va_up_self _ _ _
        dsimp only at h1
        rw [hrow] at h1
        rw [← h1]
        rw [hnar] at hP1
        exact hP1
      · cases h
    · cases h
  · cases h
theorem q_t_aastore (C : q_Cx p R s m args meth c D cI cZ cD base T X M N0 S0 Nf Sf) (hat : q_at M pc = some (.aastore, n, g, pl)) (h : q_ast2 M (pc + n) L S w = some (.inr (.inl σ'))) (k : q_G p l e R s m args below meth c Q D cI cZ cD base T N0 S0 σ') : q_G p l e R s m args below meth c Q D cI cZ cD base T N0 S0 (M, pc, L, S, w) := by
  obtain ⟨hx, hb, hml, hown, hts, hN, hin, hK, hE, hsz, hRf, hRl, hRc, hRs⟩ := C
  obtain ⟨hd, hn, hw, hxc⟩ := q_cert hat
  obtain rfl : n = 1 := by simpa [q_ln] using hn
  unfold q_ast2 at h
  split at h
  · rename_i v x a S2
    split at h
    · rename_i k0 n0 hn0
      split at h
      · rename_i hk
        obtain ⟨rfl, hi, hv⟩ := hk
        obtain ⟨n1, hn1⟩ := q_fst_of hv
        cases h
        intro H locs cells slots ls hL hP hS hc hs
        refine va_astq (D := D) hx hb hK hP q_ws_D hS a 2 v 0 (by rw [q_ws_at (q_lt_of hn0), q_cell_D hn0]) (r := (q_cn 0, q_T 0, (q_ft 0).length)) rfl (by rw [q_ws_at (q_lt_of hn1), q_cell_obj hn1 (by decide)]) (q_vw (by decide)) (q_inb_in hi) hd (fun H1 locs1 hP1 hD1 hS1 => k H1 locs1 cells slots ls hL ?_ hS1 hc hs)
        have h1 := q_ws_upd (base := base) (cI := cI) (cZ := cZ) (cD := cD) (w := w) (w' := (w.1, w.2.1, q_upP w.2.2.1 a x.toNatClampNeg (some v), w.2.2.2)) (a := a) rfl (fun b hb2 => ⟨rfl, va_up_ne _ _ hb2, rfl⟩)
        have hc2 := q_cell_D (base := base) (cI := cI) (cZ := cZ) (cD := cD) (w := (w.1, w.2.1, q_upP w.2.2.1 a x.toNatClampNeg (some v), w.2.2.2)) hn0
        have hrow : (fun i => ((q_upP w.2.2.1 a x.toNatClampNeg (some v)) a i).map (fun r => base + r)) = va_up (fun i => (w.2.2.1 a i).map (fun r => base + r)) x.toNatClampNeg (some (base + v)) := by
          funext i
          by_cases hix : i = x.toNatClampNeg
          · subst hix; simp [q_upP, va_up]
          · simp [q_upP, va_up, hix]
        dsimp only at hc2
        rw [hrow] at hc2
        rw [hc2] at h1
        rw [← h1]
        exact hP1
      · cases h
    · cases h
  · cases h
theorem q_t_arraylength (C : q_Cx p R s m args meth c D cI cZ cD base T X M N0 S0 Nf Sf) (hat : q_at M pc = some (.arraylength, n, g, pl)) (h : q_alen X M (pc + n) L S w = some (.inr (.inl σ'))) (k : q_G p l e R s m args below meth c Q D cI cZ cD base T N0 S0 σ') : q_G p l e R s m args below meth c Q D cI cZ cD base T N0 S0 (M, pc, L, S, w) := by
  obtain ⟨hx, hb, hml, hown, hts, hN, hin, hK, hE, hsz, hRf, hRl, hRc, hRs⟩ := C
  obtain ⟨hd, hn, hw, hxc⟩ := q_cert hat
  obtain rfl : n = 1 := by simpa [q_ln] using hn
  unfold q_alen at h
  split at h
  · rename_i u S2
    cases h
    intro H locs cells slots ls hL hP hS hc hs
    exact va_tlen hx hb (q_xt_T hE u) hS rfl hd (k H locs cells slots ls hL hP hS hc hs)
  · cases h
theorem q_t_mmax (C : q_Cx p R s m args meth c D cI cZ cD base T X M N0 S0 Nf Sf) {x : Nat} (hg : g = 149) (hat : q_at M pc = some (.invokestatic x, n, g, pl)) (h : q_mm M (pc + n) L S w (fun x y => if x < y then y else x) = some (.inr (.inl σ'))) (hcb : w.1.length ≤ Nf ∧ q_sl w.1 ≤ Sf) (k : q_G p l e R s m args below meth c Q D cI cZ cD base T N0 S0 σ') : q_G p l e R s m args below meth c Q D cI cZ cD base T N0 S0 (M, pc, L, S, w) := by
  obtain ⟨hx, hb, hml, hown, hts, hN, hin, hK, hE, hsz, hRf, hRl, hRc, hRs⟩ := C
  obtain ⟨hd, hn, hw, hxc⟩ := q_cert hat
  obtain rfl : n = 3 := by simpa [q_ln] using hn
  subst hg
  obtain ⟨h1, h2⟩ : 1 ≤ q_fr M ∧ 21 ≤ q_lo M := by simpa [q_xc] using hxc
  have hwd : ∀ w0 ∈ ([.methodLink (q_own M) x Lib.Math.max.name, .static Lib.Math.max.name, .initialized "java/lang/Math", .code Lib.Math.max.name Lib.Math.max.code 2 (some .int)] : List Jvm.Cond), w0 ∈ lw_tbl := fun w0 h0 => hw w0 h0
  unfold q_mm at h
  split at h
  · rename_i y v S2
    split at h
    · rename_i hlen
      cases h
      intro H locs cells slots ls hL hP hS hc hs
      have hc' : cells + N0 = w.1.length := hc
      have hs' : slots + S0 = q_sl w.1 := hs
      have hcat : ((S2.map (q_rl base T)).map fun v => v.category).sum ≤ 8 := q_cat8 hlen
      exact va_mmax hx hb (by rw [hml]; exact hL.2.1.symm) hown (hts _ (q_in_g (hwd _ (by simp)) rfl)) (hts _ (q_in_g (hwd _ (by simp)) rfl)) (hts _ (q_in_g (hwd _ (by simp)) rfl)) (hts _ (q_in_g (hwd _ (by simp)) rfl)) (by rw [hRf]; exact h1) (by rw [hRl]; omega) (by omega) (by omega) hd (k H locs cells slots ls hL hP hS hc hs)
    · cases h
  · cases h
theorem q_t_mmin (C : q_Cx p R s m args meth c D cI cZ cD base T X M N0 S0 Nf Sf) {x : Nat} (hg : g = 150) (hat : q_at M pc = some (.invokestatic x, n, g, pl)) (h : q_mm M (pc + n) L S w (fun x y => if y < x then y else x) = some (.inr (.inl σ'))) (hcb : w.1.length ≤ Nf ∧ q_sl w.1 ≤ Sf) (k : q_G p l e R s m args below meth c Q D cI cZ cD base T N0 S0 σ') : q_G p l e R s m args below meth c Q D cI cZ cD base T N0 S0 (M, pc, L, S, w) := by
  obtain ⟨hx, hb, hml, hown, hts, hN, hin, hK, hE, hsz, hRf, hRl, hRc, hRs⟩ := C
  obtain ⟨hd, hn, hw, hxc⟩ := q_cert hat
  obtain rfl : n = 3 := by simpa [q_ln] using hn
  subst hg
  obtain ⟨h1, h2⟩ : 1 ≤ q_fr M ∧ 21 ≤ q_lo M := by simpa [q_xc] using hxc
  have hwd : ∀ w0 ∈ ([.methodLink (q_own M) x Lib.Math.min.name, .static Lib.Math.min.name, .initialized "java/lang/Math", .code Lib.Math.min.name Lib.Math.min.code 2 (some .int)] : List Jvm.Cond), w0 ∈ lw_tbl := fun w0 h0 => hw w0 h0
  unfold q_mm at h
  split at h
  · rename_i y v S2
    split at h
    · rename_i hlen
      cases h
      intro H locs cells slots ls hL hP hS hc hs
      have hc' : cells + N0 = w.1.length := hc
      have hs' : slots + S0 = q_sl w.1 := hs
      have hcat : ((S2.map (q_rl base T)).map fun v => v.category).sum ≤ 8 := q_cat8 hlen
      exact va_mmin hx hb (by rw [hml]; exact hL.2.1.symm) hown (hts _ (q_in_g (hwd _ (by simp)) rfl)) (hts _ (q_in_g (hwd _ (by simp)) rfl)) (hts _ (q_in_g (hwd _ (by simp)) rfl)) (hts _ (q_in_g (hwd _ (by simp)) rfl)) (by rw [hRf]; exact h1) (by rw [hRl]; omega) (by omega) (by omega) hd (k H locs cells slots ls hL hP hS hc hs)
    · cases h
  · cases h
theorem q_t_tableswitch (C : q_Cx p R s m args meth c D cI cZ cD base T X M N0 S0 Nf Sf) {d lo hi : Int} {os : Array Int} (hat : q_at M pc = some (.tableswitch d lo hi os, n, g, pl)) (h : q_sw M L S w lo hi pl g = some (.inr (.inl σ'))) (k : q_G p l e R s m args below meth c Q D cI cZ cD base T N0 S0 σ') : q_G p l e R s m args below meth c Q D cI cZ cD base T N0 S0 (M, pc, L, S, w) := by
  obtain ⟨hx, hb, hml, hown, hts, hN, hin, hK, hE, hsz, hRf, hRl, hRc, hRs⟩ := C
  obtain ⟨hd, hn, hw, hxc⟩ := q_cert hat
  obtain ⟨ht, hts2⟩ : (pc : Int) + d = (g : Int) ∧ pl.map Int.ofNat = os.toList.map (fun o => (pc : Int) + o) := by simpa [q_xc] using hxc
  unfold q_sw at h
  split at h
  · rename_i x S2
    split at h
    · rename_i hout
      cases h
      intro H locs cells slots ls hL hP hS hc hs
      exact lv_tableOut hx hb hd hout ht (k H locs cells slots ls hL hP hS hc hs)
    · rename_i hout
      split at h
      · rename_i t0 ht0
        cases h
        intro H locs cells slots ls hL hP hS hc hs
        have h1 : (pl.map Int.ofNat)[(x.toInt - lo).toNat]? = some (t0 : Int) := by rw [List.getElem?_map, ht0]; rfl
        rw [hts2, List.getElem?_map] at h1
        cases ho : os.toList[(x.toInt - lo).toNat]? with
        | none => rw [ho] at h1; cases h1
        | some off =>
          rw [ho] at h1
          exact lv_tableIn hx hb hd (fun z => hout (Or.inl z)) (fun z => hout (Or.inr z)) (off := off) (by rw [← Array.getElem?_toList]; exact ho) (Option.some.inj h1) (k H locs cells slots ls hL hP hS hc hs)
      · cases h
  · cases h
theorem q_lsw_ok {pc g d : Int} {x : Int32} (hg : pc + d = g) : ∀ (ps : List (Int × Int)) (ts : List Nat) (g0 : Nat), g = (g0 : Int) → ts.map Int.ofNat = ps.map (fun o => pc + o.2) → pc + Op.lookupswitch.offset ps d x.toInt = ((q_lsw ps ts g0 x : Nat) : Int)
  | [], ts, g0, h0, h => by
    unfold q_lsw
    rw [← h0, ← hg]
    rfl
  | (k, o) :: ps, [], g0, h0, h => by cases h
  | (k, o) :: ps, t :: ts, g0, h0, h => by
    rw [List.map_cons, List.map_cons] at h
    injection h with h1 h2
    rw [Op.lookupswitch.offset_cons]
    unfold q_lsw
    by_cases hk : x.toInt = k
    · rw [if_pos hk]
      first | rw [if_pos hk] | rw [if_pos hk.symm]
      exact h1.symm
    · rw [if_neg hk]
      first | rw [if_neg hk] | rw [if_neg (Ne.symm hk)]
      exact q_lsw_ok hg ps ts g0 h0 h2
theorem q_t_lookupswitch (C : q_Cx p R s m args meth c D cI cZ cD base T X M N0 S0 Nf Sf) {d : Int} {ps : Array (Int × Int)} (hat : q_at M pc = some (.lookupswitch d ps, n, g, pl)) (h : (match S with | .int x :: S => q_go M (q_lsw ps.toList pl g x) L S w | _ => none) = some (.inr (.inl σ'))) (k : q_G p l e R s m args below meth c Q D cI cZ cD base T N0 S0 σ') : q_G p l e R s m args below meth c Q D cI cZ cD base T N0 S0 (M, pc, L, S, w) := by
  obtain ⟨hx, hb, hml, hown, hts, hN, hin, hK, hE, hsz, hRf, hRl, hRc, hRs⟩ := C
  obtain ⟨hd, hn, hw, hxc⟩ := q_cert hat
  unfold q_xc at hxc
  simp only [Bool.and_eq_true, decide_eq_true_eq] at hxc
  obtain ⟨⟨ht, hts2⟩, hp⟩ := hxc
  split at h
  · rename_i x S2
    cases h
    intro H locs cells slots ls hL hP hS hc hs
    exact lv_lookup hx hb hd hp rfl (q_lsw_ok ht ps.toList pl g rfl hts2) (k H locs cells slots ls hL hP hS hc hs)
  · cases h
end QT
end
section
theorem q_ac_I : Jvm.Cond.arrayClass .int ∈ lw_tbl := List.mem_of_getElem? (i := 75) (by decide +kernel)
theorem q_ac_Z : Jvm.Cond.arrayClass .boolean ∈ lw_tbl := List.mem_of_getElem? (i := 214) (by decide +kernel)
theorem q_dflt0 : (List.range 9).all (fun ci => (List.range (q_ft ci).length).all (fun j => decide (defaultValue (q_ty ci j) = (if (q_ft ci)[j]? = some 0 then .int 0 else if (q_ft ci)[j]? = some 1 then .null else .long 0)))) = true := by decide +kernel
theorem q_dflt {ci j : Nat} (h : ci < 9) (hj : j < (q_ft ci).length) : defaultValue (q_ty ci j) = (if (q_ft ci)[j]? = some 0 then .int 0 else if (q_ft ci)[j]? = some 1 then .null else .long 0) :=
  of_decide_eq_true (List.all_eq_true.mp (List.all_eq_true.mp q_dflt0 ci (List.mem_range.mpr h)) j (List.mem_range.mpr hj))
theorem q_addr {D : va_G} {base : Nat} {cI cZ cD : ClassId} {w : q_M} {q : Nat} {x : va_E} {H : Heap} (hP : va_P D vwCl (q_ws base cI cZ cD w ++ [(q, x)]) H) (hD : va_D (q_A base) (q_ws base cI cZ cD w ++ [(q, x)])) (hs : H.size ≤ base + w.1.length + 1) : q = base + w.1.length := by
  have hat : (q_ws base cI cZ cD w ++ [(q, x)])[w.1.length]? = some (q, x) := by
    rw [List.getElem?_append_right (by rw [q_ws_len]; exact Nat.le_refl _), q_ws_len, Nat.sub_self]
    rfl
  have h1 : q < H.size := (hP _ _ hat).lt
  have h2 : base ≤ q := hD.2 _ _ hat
  by_cases h3 : q < base + w.1.length
  · have ha : q - base < w.1.length := by omega
    have hb : (q_ws base cI cZ cD w ++ [(q, x)])[q - base]? = some (base + (q - base), q_cell base cI cZ cD w (q - base)) := by
      rw [List.getElem?_append_left (by rw [q_ws_len]; exact ha), q_ws_at ha]
    have := hD.1 _ _ _ _ hat hb (show q = base + (q - base) by omega)
    omega
  · omega
theorem q_sl_nw {w : q_M} {k n : Nat} : (q_nw w k n).1.length = w.1.length + 1 ∧ q_sl (q_nw w k n).1 = q_sl w.1 + q_sz (k, n) := by
  constructor
  · simp [q_nw]
  · simp [q_nw, q_sl]
theorem q_N.warm {s U : State} (hW : s.WarmedH U.vm) (h : q_N s) : q_N U := ⟨va_AO.moved hW.alike h.1, fun o k y hh hm => va_Nw.warmM hW (h.2 o k y hh hm)⟩
theorem q_N.same {s U : State} (hW : s.vm = U.vm) (h : q_N s) : q_N U := ⟨va_AO.moved (by rw [hW]; exact Vm.Alike.refl _) h.1, fun o k y hh hm => va_Nw.same rfl hW (h.2 o k y hh hm)⟩
theorem q_Ext.moved {T : Nat → Nat} {X : Nat × (Nat → Int32)} {base : Nat} {u U : State} (hvm : u.vm.Alike U.vm) (hh : ∀ a : Nat, a < u.heap.size → ¬ q_A base a → U.heap[a]? = u.heap[a]?) (h : q_Ext T X base u) : q_Ext T X base U :=
  ⟨⟨va_Z.moved hvm (h.1.1.kept hh), va_T.moved hvm (h.1.2.kept hh)⟩, ⟨va_Z.moved hvm (h.2.1.1.kept hh), va_T.moved hvm (h.2.1.2.kept hh)⟩, fun k h0 h1 => va_T.moved hvm ((h.2.2 k h0 h1).kept hh)⟩
/-! ===== contracts ===== -/
def q_Wm (y : Nat) : List Jvm.Cond := .code (q_y y) (q_b y) (q_ml y) (q_ret y) :: lw_g
def q_Pc (D : va_G) (cI cZ cD : ClassId) (base : Nat) (T : Nat → Nat) (X : Nat × (Nat → Int32)) (As : List Value) (w : q_M) : Array Value → State → Prop := va_Pc (As.map (q_rl base T)) (fun U => U.heap.size = base + w.1.length ∧ va_P D vwCl (q_ws base cI cZ cD w) U.heap ∧ va_K D vwCl (q_tys cI cZ cD) U ∧ q_N U ∧ q_Ext T X base U)
def q_Qc (D : va_G) (cI cZ cD : ClassId) (base : Nat) (rt : Nat) (r : Option Value) (w : q_M) : Array Value → State → Outcome → State → Prop :=
  if rt = 0 then va_Qv (fun (_ : Unit) => r = none) (fun _ t => va_P D vwCl (q_ws base cI cZ cD w) t.heap) (q_A base)
  else if rt = 3 then va_Ql (fun x (_ : Unit) => r = some (.long x)) (fun _ t => va_P D vwCl (q_ws base cI cZ cD w) t.heap) (q_A base)
  else va_Qi (fun x (_ : Unit) => r = some (.int x)) (fun _ t => va_P D vwCl (q_ws base cI cZ cD w) t.heap) (q_A base)
def q_Mt (l : Launch) (D : va_G) (cI cZ cD : ClassId) (base : Nat) (T : Nat → Nat) (X : Nat × (Nat → Int32)) (y : Nat) (As : List Value) (w : q_M) (r : Option Value) (w1 : q_M) : Prop :=
  Met l (q_y y) (q_Wm y) { frames := q_fr y, cells := w1.1.length - w.1.length, slots := q_sl w1.1 - q_sl w.1, locals := q_lo y } (q_Pc D cI cZ cD base T X As w) (q_Qc D cI cZ cD base (q_rt y) r w1) (w1.1.length - w.1.length) (q_sl w1.1 - q_sl w.1) (q_A base)
theorem q_Pc_blind {D : va_G} {cI cZ cD : ClassId} {base : Nat} {T : Nat → Nat} {X : Nat × (Nat → Int32)} {As : List Value} {w : q_M} : FrameBlind (q_Pc D cI cZ cD base T X As w) := by
  intro a U g mk q
  obtain ⟨q0, q1, qP, qK, qN, qE⟩ := q
  exact ⟨q0, q1, qP, va_K.moved (u := U) (U := U.calling g mk a) (Vm.Alike.refl U.vm) qK, q_N.same rfl qN, q_Ext.moved (u := U) (U := U.calling g mk a) (Vm.Alike.refl U.vm) (fun _ _ _ => rfl) qE⟩
theorem q_code_in {y : Nat} (hy : y < 149) : Jvm.Cond.code (q_y y) (q_b y) (q_ml y) (q_ret y) ∈ lw_g := by
  have h := q_cw hy
  unfold q_chw at h
  exact q_in_g (List.mem_of_getElem? (of_decide_eq_true h)) rfl
theorem q_Wm_good {y : Nat} (hy : y < 149) : GoodIn lw_g (q_Wm y) := by
  intro w hw
  rcases List.mem_cons.mp hw with rfl | hw
  · exact q_g_good _ (q_code_in hy)
  · exact q_g_good _ hw
theorem q_goodw {ws : List Jvm.Cond} (h : ∀ w ∈ ws, w ∈ lw_g) : GoodIn lw_g ws := fun w hw => q_g_good w (h w hw)
theorem q_facts {y : Nat} (hy : y < 149) : ((q_y y).cls ≠ "java/lang/invoke/MethodHandle" ∧ (q_y y).cls ≠ "java/lang/invoke/VarHandle" ∧ (parseMethodDescriptor (q_y y).desc).map (fun d => d.parameters.length) = some (q_np y)) ∧ plainName (q_y y).cls = true ∧ (q_y y).cls = q_own y := by
  have h := q_cd hy
  unfold q_chd at h
  simp only [Bool.and_eq_true, decide_eq_true_eq] at h
  exact ⟨⟨h.1.1.2.1, h.1.1.2.2, h.1.1.1⟩, h.1.2, h.2⟩
section QU
variable {p : Program} {l : Launch} {e : Env} {R : Room} {s : State} {m : MethodId} {args : Array Value} {below : List Frame} {meth : Method} {c : Code} {Q : State → Prop}
variable {D : va_G} {cI cZ cD : ClassId} {base : Nat} {T : Nat → Nat} {X : Nat × (Nat → Int32)} {M N0 S0 Nf Sf : Nat}
variable {pc n g : Nat} {pl : List Nat} {L S : List Value} {w : q_M} {σ' : q_S}
theorem q_t_new (C : q_Cx p R s m args meth c D cI cZ cD base T X M N0 S0 Nf Sf) {x : Nat} (hat : q_at M pc = some (.new x, n, g, pl)) (h : q_new M (pc + n) L S w g = some (.inr (.inl σ'))) (hf : σ'.2.2.2.2.1.length ≤ Nf ∧ q_sl σ'.2.2.2.2.1 ≤ Sf) (k : q_G p l e R s m args below meth c Q D cI cZ cD base T N0 S0 σ') : q_G p l e R s m args below meth c Q D cI cZ cD base T N0 S0 (M, pc, L, S, w) := by
  obtain ⟨hx, hb, hml, hown, hts, hN, hin, hK, hE, hsz, hRf, hRl, hRc, hRs⟩ := C
  obtain ⟨hd, hn, hw, hxc⟩ := q_cert hat
  obtain rfl : n = 3 := by simpa [q_ln] using hn
  have hg : g < 9 := by simpa [q_xc] using hxc
  have hwd : ∀ w0 ∈ ([.classLink (q_own M) x (q_cn g), .instantiable (q_cn g) (q_ft g).length, .initialized (q_cn g)] : List Jvm.Cond), w0 ∈ lw_tbl := fun w0 h0 => hw w0 h0
  unfold q_new at h
  rw [if_pos hg] at h
  cases h
  intro H locs cells slots ls hL hP hS hc hs
  have hc' : cells + N0 = w.1.length := hc
  have hs' : slots + S0 = q_sl w.1 := hs
  obtain ⟨hl1, hl2⟩ := q_sl_nw (w := w) (k := g) (n := 0)
  have hz : q_sz (g, 0) = (q_ft g).length := by simp [q_sz, hg]
  rw [hz] at hl2
  have hf1 : (q_nw w g 0).1.length ≤ Nf := hf.1
  have hf2 : q_sl (q_nw w g 0).1 ≤ Sf := hf.2
  refine va_new (D := D) (ci := g) (fs := q_fl base (q_nw w g 0) w.1.length g) hx hb hts (q_hin hg) (q_ty g) (q_tyok hg) hown (hts _ (q_in_g (hwd _ (by simp)) rfl)) (hts _ (q_in_g (hwd _ (by simp)) rfl)) (hts _ (q_in_g (hwd _ (by simp)) rfl)) hK hP q_ws_D hS (fun q hq => by show base ≤ q; omega) (q_vw hg) (fun j hj => ?_) (by omega) (by omega) hd (fun q H1 hP1 hD1 hS1 => ?_)
  · have h1 : ∃ t, (q_ft g)[j]? = some t := ⟨_, List.getElem?_eq_getElem hj⟩
    obtain ⟨t, ht⟩ := h1
    rw [q_dflt hg hj]
    unfold vp_V
    rw [List.getD_eq_getElem?_getD, q_fl_at ht, ht]
    simp only [Option.getD_some, q_fv, q_nw, va_up_self, Option.some.injEq]
    by_cases h0 : t = 0
    · simp [h0]
    · by_cases h1 : t = 1
      · simp [h1, va_rf]
      · simp [h0, h1]
  · refine q_size (fun hsz1 => ?_)
    obtain rfl := q_addr hP1 hD1 (by omega)
    refine k H1 locs (cells + 1) (slots + (q_ft g).length) ls hL ?_ hS1 (by show _ = (q_nw w g 0).1.length; omega) (by show _ = q_sl (q_nw w g 0).1; omega)
    show va_P D vwCl (q_ws base cI cZ cD (q_nw w g 0)) H1
    rw [q_ws_nw, q_cell_obj (n := 0) (by show (w.1 ++ [(g, 0)])[w.1.length]? = _; simp) hg]
    exact hP1
theorem q_t_newarray_int (C : q_Cx p R s m args meth c D cI cZ cD base T X M N0 S0 Nf Sf) {t : ArrayType} (hty : newarray.typeOf t = .int) (hg : g = 9) (hat : q_at M pc = some (.newarray t, n, g, pl)) (h : q_newa M (pc + n) L S w g = some (.inr (.inl σ'))) (hf : σ'.2.2.2.2.1.length ≤ Nf ∧ q_sl σ'.2.2.2.2.1 ≤ Sf) (k : q_G p l e R s m args below meth c Q D cI cZ cD base T N0 S0 σ') : q_G p l e R s m args below meth c Q D cI cZ cD base T N0 S0 (M, pc, L, S, w) := by
  obtain ⟨hx, hb, hml, hown, hts, hN, hin, hK, hE, hsz, hRf, hRl, hRc, hRs⟩ := C
  obtain ⟨hd, hn, hw, hxc⟩ := q_cert hat
  obtain rfl : n = 2 := by simpa [q_ln] using hn
  subst hg
  unfold q_newa at h
  split at h
  · rename_i x S2
    split at h
    · rename_i hx9
      cases h
      intro H locs cells slots ls hL hP hS hc hs
      have hc' : cells + N0 = w.1.length := hc
      have hs' : slots + S0 = q_sl w.1 := hs
      obtain ⟨hl1, hl2⟩ := q_sl_nw (w := w) (k := 9) (n := x.toNatClampNeg)
      have hz : q_sz (9, x.toNatClampNeg) = x.toNatClampNeg := by simp [q_sz]
      rw [hz] at hl2
      have hf1 : (q_nw w 9 x.toNatClampNeg).1.length ≤ Nf := hf.1
      have hf2 : q_sl (q_nw w 9 x.toNatClampNeg).1 ≤ Sf := hf.2
      refine va_newa (D := D) (atype := t) (ty := .int) (N' := x.toNatClampNeg) (a0 := (x.toNatClampNeg, .inl (fun _ => 0))) hx hb (by rw [hty]; exact hts _ (q_in_g q_ac_I rfl)) hty hK hP q_ws_D hS (fun q hq => by show base ≤ q; omega) (fun _ => rfl) hx9.1 rfl (by simp only [componentBytes]; omega) (by omega) (by omega) hd (fun q cA H1 hK1 hP1 hD1 hS1 => ?_)
      have hcA : cA = cI := by
        have h1 : s.vm.findClass ("[" ++ (.int : FieldType).toString) = some cA := (hK1.2 3 _ rfl).2
        have h2 : s.vm.findClass ("[" ++ (.int : FieldType).toString) = some cI := (hK.2 0 _ rfl).2
        exact Option.some.inj (h1.symm.trans h2)
      rw [hcA] at hP1 hD1
      refine q_size (fun hsz1 => ?_)
      obtain rfl := q_addr hP1 hD1 (by omega)
      refine k H1 locs (cells + 1) (slots + x.toNatClampNeg) ls hL ?_ hS1 (by show _ = (q_nw w 9 x.toNatClampNeg).1.length; omega) (by show _ = q_sl (q_nw w 9 x.toNatClampNeg).1; omega)
      show va_P D vwCl (q_ws base cI cZ cD (q_nw w 9 x.toNatClampNeg)) H1
      rw [q_ws_nw, q_cell_I (n := x.toNatClampNeg) (by show (w.1 ++ [(9, x.toNatClampNeg)])[w.1.length]? = _; simp)]
      rw [show (q_nw w 9 x.toNatClampNeg).2.1 w.1.length = (fun _ => 0) from va_up_self _ _ _]
      exact hP1
    · cases h
  · cases h
theorem q_t_newarray_boolean (C : q_Cx p R s m args meth c D cI cZ cD base T X M N0 S0 Nf Sf) {t : ArrayType} (hty : newarray.typeOf t = .boolean) (hg : g = 10) (hat : q_at M pc = some (.newarray t, n, g, pl)) (h : q_newa M (pc + n) L S w g = some (.inr (.inl σ'))) (hf : σ'.2.2.2.2.1.length ≤ Nf ∧ q_sl σ'.2.2.2.2.1 ≤ Sf) (k : q_G p l e R s m args below meth c Q D cI cZ cD base T N0 S0 σ') : q_G p l e R s m args below meth c Q D cI cZ cD base T N0 S0 (M, pc, L, S, w) := by
  obtain ⟨hx, hb, hml, hown, hts, hN, hin, hK, hE, hsz, hRf, hRl, hRc, hRs⟩ := C
  obtain ⟨hd, hn, hw, hxc⟩ := q_cert hat
  obtain rfl : n = 2 := by simpa [q_ln] using hn
  subst hg
  unfold q_newa at h
  split at h
  · rename_i x S2
    split at h
    · rename_i hx9
      cases h
      intro H locs cells slots ls hL hP hS hc hs
      have hc' : cells + N0 = w.1.length := hc
      have hs' : slots + S0 = q_sl w.1 := hs
      obtain ⟨hl1, hl2⟩ := q_sl_nw (w := w) (k := 10) (n := x.toNatClampNeg)
      have hz : q_sz (10, x.toNatClampNeg) = x.toNatClampNeg := by simp [q_sz]
      rw [hz] at hl2
      have hf1 : (q_nw w 10 x.toNatClampNeg).1.length ≤ Nf := hf.1
      have hf2 : q_sl (q_nw w 10 x.toNatClampNeg).1 ≤ Sf := hf.2
      refine va_newa (D := D) (atype := t) (ty := .boolean) (N' := x.toNatClampNeg) (a0 := (x.toNatClampNeg, .inl (fun _ => 0))) hx hb (by rw [hty]; exact hts _ (q_in_g q_ac_Z rfl)) hty hK hP q_ws_D hS (fun q hq => by show base ≤ q; omega) (fun _ => rfl) hx9.1 rfl (by simp only [componentBytes]; omega) (by omega) (by omega) hd (fun q cA H1 hK1 hP1 hD1 hS1 => ?_)
      have hcA : cA = cZ := by
        have h1 : s.vm.findClass ("[" ++ (.boolean : FieldType).toString) = some cA := (hK1.2 3 _ rfl).2
        have h2 : s.vm.findClass ("[" ++ (.boolean : FieldType).toString) = some cZ := (hK.2 1 _ rfl).2
        exact Option.some.inj (h1.symm.trans h2)
      rw [hcA] at hP1 hD1
      refine q_size (fun hsz1 => ?_)
      obtain rfl := q_addr hP1 hD1 (by omega)
      refine k H1 locs (cells + 1) (slots + x.toNatClampNeg) ls hL ?_ hS1 (by show _ = (q_nw w 10 x.toNatClampNeg).1.length; omega) (by show _ = q_sl (q_nw w 10 x.toNatClampNeg).1; omega)
      show va_P D vwCl (q_ws base cI cZ cD (q_nw w 10 x.toNatClampNeg)) H1
      rw [q_ws_nw, q_cell_Z (n := x.toNatClampNeg) (by show (w.1 ++ [(10, x.toNatClampNeg)])[w.1.length]? = _; simp)]
      rw [show (q_nw w 10 x.toNatClampNeg).2.1 w.1.length = (fun _ => 0) from va_up_self _ _ _]
      exact hP1
    · cases h
  · cases h
theorem q_t_anewarray (C : q_Cx p R s m args meth c D cI cZ cD base T X M N0 S0 Nf Sf) {x : Nat} (hat : q_at M pc = some (.anewarray x, n, g, pl)) (h : q_newa M (pc + n) L S w g = some (.inr (.inl σ'))) (hf : σ'.2.2.2.2.1.length ≤ Nf ∧ q_sl σ'.2.2.2.2.1 ≤ Sf) (k : q_G p l e R s m args below meth c Q D cI cZ cD base T N0 S0 σ') : q_G p l e R s m args below meth c Q D cI cZ cD base T N0 S0 (M, pc, L, S, w) := by
  obtain ⟨hx, hb, hml, hown, hts, hN, hin, hK, hE, hsz, hRf, hRl, hRc, hRs⟩ := C
  obtain ⟨hd, hn, hw, hxc⟩ := q_cert hat
  obtain rfl : n = 3 := by simpa [q_ln] using hn
  obtain rfl : g = 11 := by simpa [q_xc] using hxc
  have hwd : ∀ w0 ∈ ([.classLink (q_own M) x RX0, .arrayOver (.object RX0)] : List Jvm.Cond), w0 ∈ lw_tbl := fun w0 h0 => hw w0 h0
  unfold q_newa at h
  split at h
  · rename_i x2 S2
    split at h
    · rename_i hx9
      cases h
      intro H locs cells slots ls hL hP hS hc hs
      have hc' : cells + N0 = w.1.length := hc
      have hs' : slots + S0 = q_sl w.1 := hs
      obtain ⟨hl1, hl2⟩ := q_sl_nw (w := w) (k := 11) (n := x2.toNatClampNeg)
      have hz : q_sz (11, x2.toNatClampNeg) = x2.toNatClampNeg := by simp [q_sz]
      rw [hz] at hl2
      have hf1 : (q_nw w 11 x2.toNatClampNeg).1.length ≤ Nf := hf.1
      have hf2 : q_sl (q_nw w 11 x2.toNatClampNeg).1 ≤ Sf := hf.2
      refine va_newq (D := D) (N' := x2.toNatClampNeg) hx hb hown (hts _ (q_in_g (hwd _ (by simp)) rfl)) hN.1 hK hP q_ws_D hS (fun q hq => by show base ≤ q; omega) hx9.1 rfl (by omega) (by omega) (by omega) hd (fun q cA H1 hK1 hP1 hD1 hS1 => ?_)
      have hcA : cA = cD := by
        obtain ⟨kA, comp, -, -, -, h1⟩ : va_RA s cA (.object RX0) := (hK1.2 3 _ rfl).2
        obtain ⟨kA2, comp2, -, -, -, h2⟩ : va_RA s cD (.object RX0) := (hK.2 2 _ rfl).2
        exact Option.some.inj (h1.symm.trans h2)
      rw [hcA] at hP1 hD1
      refine q_size (fun hsz1 => ?_)
      obtain rfl := q_addr hP1 hD1 (by omega)
      refine k H1 locs (cells + 1) (slots + x2.toNatClampNeg) ls hL ?_ hS1 (by show _ = (q_nw w 11 x2.toNatClampNeg).1.length; omega) (by show _ = q_sl (q_nw w 11 x2.toNatClampNeg).1; omega)
      show va_P D vwCl (q_ws base cI cZ cD (q_nw w 11 x2.toNatClampNeg)) H1
      rw [q_ws_nw, q_cell_D (n := x2.toNatClampNeg) (by show (w.1 ++ [(11, x2.toNatClampNeg)])[w.1.length]? = _; simp)]
      rw [show (fun i => ((q_nw w 11 x2.toNatClampNeg).2.2.1 w.1.length i).map (fun r => base + r)) = (fun _ => none) from by funext i; show ((va_up w.2.2.1 w.1.length (fun _ => none)) w.1.length i).map _ = none; rw [va_up_self]; rfl]
      exact hP1
    · cases h
  · cases h
theorem q_t_objinit (C : q_Cx p R s m args meth c D cI cZ cD base T X M N0 S0 Nf Sf) {x : Nat} (hg : g = 999) (hat : q_at M pc = some (.invokespecial x, n, g, pl)) (h : (match S with | [.ref _] => q_go M (pc + n) L [] w | _ => none) = some (.inr (.inl σ'))) (k : q_G p l e R s m args below meth c Q D cI cZ cD base T N0 S0 σ') : q_G p l e R s m args below meth c Q D cI cZ cD base T N0 S0 (M, pc, L, S, w) := by
  obtain ⟨hx, hb, hml, hown, hts, hN, hin, hK, hE, hsz, hRf, hRl, hRc, hRs⟩ := C
  obtain ⟨hd, hn, hw, hxc⟩ := q_cert hat
  obtain rfl : n = 3 := by simpa [q_ln] using hn
  subst hg
  obtain ⟨h1, h2⟩ : 1 ≤ q_fr M ∧ 12 ≤ q_lo M := by simpa [q_xc] using hxc
  have hwd : ∀ w0 ∈ ([.methodLink (q_own M) x objectInit, .instanceMethod objectInit, .code objectInit ⟨#[0xb1]⟩ 1 none] : List Jvm.Cond), w0 ∈ lw_tbl := fun w0 h0 => hw w0 h0
  split at h
  · rename_i a
    cases h
    intro H locs cells slots ls hL hP hS hc hs
    refine W.objInit hx hb hown (hts _ (q_in_g (hwd _ (by simp)) rfl)) (hts _ (q_in_g (hwd _ (by simp)) rfl)) (hts _ (q_in_g (hwd _ (by simp)) rfl)) rfl (by rw [hml]; exact hL.2.1) rfl hd (by rw [hRf]; exact h1) (by rw [hRl]; show 2 * 0 + 0 + 12 ≤ _; omega) ?_
    exact (k H locs cells slots ls hL hP hS hc hs)
  · cases h
end QU
end
section
theorem q_take_rev {S : List Value} {n : Nat} {a : Nat} (hn : n ≤ S.length) (h0 : 0 < n) (ha : S[n - 1]? = some (.ref a)) : ∃ As : List Value, (S.take n).reverse = .ref a :: As ∧ As.length + 1 = n := by
  have hl : (S.take n).reverse.length = n := by simp; omega
  cases hr : (S.take n).reverse with
  | nil => rw [hr] at hl; simp at hl; omega
  | cons v As =>
    refine ⟨As, ?_, by rw [hr] at hl; simpa using hl⟩
    have h1 : (S.take n).reverse[0]? = some v := by rw [hr]; rfl
    rw [List.getElem?_reverse (by simp; omega)] at h1
    have h2 : (S.take n).length - 1 - 0 = n - 1 := by simp; omega
    rw [h2, List.getElem?_take_of_lt (by omega), ha] at h1
    rw [← Option.some.inj h1]
theorem q_len_ge {D : va_G} {base : Nat} {cI cZ cD : ClassId} {w : q_M} {H : Heap} (hP : va_P D vwCl (q_ws base cI cZ cD w) H) (hb : base ≤ H.size) : base + w.1.length ≤ H.size := by
  by_cases h : w.1.length = 0
  · omega
  · have h1 := (hP _ _ (q_ws_at (base := base) (cI := cI) (cZ := cZ) (cD := cD) (w := w) (a := w.1.length - 1) (by omega))).lt
    have h2 : base + (w.1.length - 1) < H.size := h1
    omega
section QV
variable {p : Program} {l : Launch} {e : Env} {R : Room} {s : State} {m : MethodId} {args : Array Value} {below : List Frame} {meth : Method} {c : Code} {Q : State → Prop}
variable {D : va_G} {cI cZ cD : ClassId} {base : Nat} {T : Nat → Nat} {X : Nat × (Nat → Int32)} {M N0 S0 Nf Sf : Nat}
variable {pc n g : Nat} {pl : List Nat} {L S : List Value} {w : q_M} {σ' : q_S}
/-- behind a call -/
theorem q_behind {H : Heap} {locs : List Loc} {cells slots mc ms rt : Nat} {ls : Array Slot} {st0 rest : List Value} {a : Array Value} {r : Option Value} {w1 : q_M} (hrun : va_Run p l e R s m args below meth c H locs cells slots mc ms (F0 m pc ls st0) rest (q_Qc D cI cZ cD base rt r w1 a) (q_A base)) (hS : va_S (q_A base) s.heap H locs)
    (kk : ∀ (H1 : Heap) (locs1 : List Loc), va_P D vwCl (q_ws base cI cZ cD w1) H1 → va_S (q_A base) s.heap H1 locs1 → W p l e R s m args below meth c H1 locs1 (cells + mc) (slots + ms) Q (F0 m (pc + 3) ls ((r.toList.map (q_rl base T)) ++ rest))) : W p l e R s m args below meth c H locs cells slots Q (F0 m pc ls st0) := by
  by_cases h0 : rt = 0
  · rw [show q_Qc D cI cZ cD base rt r w1 = va_Qv (fun (_ : Unit) => r = none) (fun _ t => va_P D vwCl (q_ws base cI cZ cD w1) t.heap) (q_A base) from by unfold q_Qc; rw [if_pos h0]] at hrun
    refine va_callv hrun hS (fun _ _ h => h) (fun _ h => h) (fun u t H1 locs1 ht hvm hw hB hz1 hk1 hS1 => ?_)
    rw [ht] at hB
    have h1 := kk H1 locs1 hB hS1
    rw [hw] at h1
    exact h1
  · by_cases h3 : rt = 3
    · rw [show q_Qc D cI cZ cD base rt r w1 = va_Ql (fun x (_ : Unit) => r = some (.long x)) (fun _ t => va_P D vwCl (q_ws base cI cZ cD w1) t.heap) (q_A base) from by unfold q_Qc; rw [if_neg h0, if_pos h3]] at hrun
      refine va_calll hrun hS (fun _ _ h => h) (fun _ h => h) (fun x u t H1 locs1 ht hvm hw hB hz1 hk1 hS1 => ?_)
      rw [ht] at hB
      have h1 := kk H1 locs1 hB hS1
      rw [hw] at h1
      exact h1
    · rw [show q_Qc D cI cZ cD base rt r w1 = va_Qi (fun x (_ : Unit) => r = some (.int x)) (fun _ t => va_P D vwCl (q_ws base cI cZ cD w1) t.heap) (q_A base) from by unfold q_Qc; rw [if_neg h0, if_neg h3]] at hrun
      refine va_calli hrun hS (fun _ _ h => h) (fun _ h => h) (fun x u t H1 locs1 ht hvm hw hB hz1 hk1 hS1 => ?_)
      rw [ht] at hB
      have h1 := kk H1 locs1 hB hS1
      rw [hw] at h1
      exact h1
/-- a callee's start, out of the caller's state -/
theorem q_pre (C : q_Cx p R s m args meth c D cI cZ cD base T X M N0 S0 Nf Sf) {H : Heap} {locs : List Loc} {As : List Value} (hP : va_P D vwCl (q_ws base cI cZ cD w) H) (hS : va_S (q_A base) s.heap H locs) (hsz : H.size = base + w.1.length) : ∀ U : State, U.heap = H → s.WarmedH U.vm → q_Pc D cI cZ cD base T X As w (As.map (q_rl base T)).toArray U := by
  intro U hU hW
  obtain ⟨hx, hb, hml, hown, hts, hN, hin, hK, hE, hsz0, hRf, hRl, hRc, hRs⟩ := C
  exact ⟨rfl, by rw [hU]; exact hsz, by rw [hU]; exact hP, va_K.moved hW.alike hK, hN.warm hW, q_Ext.moved hW.alike (fun a h1 h2 => by rw [hU]; exact hS.2.1 a h1 h2) hE⟩
theorem q_t_invokestatic (C : q_Cx p R s m args meth c D cI cZ cD base T X M N0 S0 Nf Sf) {x : Nat} (hat : q_at M pc = some (.invokestatic x, n, g, pl)) (hg : ¬ (g = 149 ∨ g = 150)) {r : Option Value} {w1 : q_M} (hn4 : q_na g ≤ S.length ∧ (S.drop (q_na g)).length ≤ 4) (hM : q_Mt l D cI cZ cD base T X g (S.take (q_na g)).reverse w r w1) (hgrow : w.1 <+: w1.1) (hf : w1.1.length ≤ Nf ∧ q_sl w1.1 ≤ Sf) (k : q_G p l e R s m args below meth c Q D cI cZ cD base T N0 S0 (M, pc + n, L, r.toList ++ S.drop (q_na g), w1)) : q_G p l e R s m args below meth c Q D cI cZ cD base T N0 S0 (M, pc, L, S, w) := by
  obtain ⟨hx, hb, hml, hown, hts, hN, hin, hK, hE, hsz, hRf, hRl, hRc, hRs⟩ := id C
  obtain ⟨hd, hn, hw, hxc⟩ := q_cert hat
  obtain rfl : n = 3 := by simpa [q_ln] using hn
  obtain ⟨hcl, hna⟩ : q_cl M g = true ∧ q_na g = q_np g := by simpa [q_xc, hg] using hxc
  obtain ⟨⟨hy, hfr⟩, hlo⟩ : (g < 149 ∧ q_fr g + 1 ≤ q_fr M) ∧ 8 + (q_ml g + 11) + q_lo g ≤ q_lo M := by simpa [q_cl] using hcl
  have hroom : q_fr g + 1 ≤ q_fr M ∧ 8 + (q_ml g + 11) + q_lo g ≤ q_lo M := ⟨hfr, hlo⟩
  obtain ⟨hfd, hpn, hcls⟩ := q_facts hy
  have hwd : ∀ w0 ∈ ([.methodLink (q_own M) x (q_y g), .static (q_y g), .initialized (q_own g)] : List Jvm.Cond), w0 ∈ lw_tbl := fun w0 h0 => hw w0 (by
    have h149 : ¬ g = 149 := fun z => hg (Or.inl z)
    have h150 : ¬ g = 150 := fun z => hg (Or.inr z)
    simpa [q_wd, q_kd, q_wk, h149, h150, q_own] using h0)
  obtain ⟨hf1, hf2⟩ := hf
  have hg1 := q_sl_le hgrow
  intro H locs cells slots ls hL hP hS hc hs
  have hc' : cells + N0 = w.1.length := hc
  have hs' : slots + S0 = q_sl w.1 := hs
  refine q_size (fun hsz1 => ?_)
  have hHs : H.size = base + w.1.length := Nat.le_antisymm (by omega) (q_len_ge hP (by have := hS.1; omega))
  have hR : q_fr g + 1 ≤ R.frames ∧ 8 + (q_ml g + 11) + q_lo g ≤ R.locals := by rw [hRf, hRl]; exact hroom
  have hmc : cells + (w1.1.length - w.1.length) ≤ R.cells ∧ slots + (q_sl w1.1 - q_sl w.1) ≤ R.slots := by omega
  have hst : S.map (q_rl base T) = (((S.take (q_na g)).reverse).map (q_rl base T)).reverse ++ (S.drop (q_na g)).map (q_rl base T) := by
    rw [← List.map_reverse, List.reverse_reverse, ← List.map_append, List.take_append_drop]
  refine q_behind (T := T) (va_runS (As := ((S.take (q_na g)).reverse).map (q_rl base T)) (rest := (S.drop (q_na g)).map (q_rl base T)) ⟨hx, hb, hml, hown, hts⟩ hM (va_cwS (q_np g) hts (q_goodw (fun w0 h0 => ?_)) (bytes := q_b g) (maxL := q_ml g) (ret := q_ret g) rfl rfl rfl hfd hR) ⟨q_Pc_blind, q_pre C hP hS hHs⟩ rfl (by simp; omega) hL.2.1 hst (lv_room (q_cat8 hn4.2)) hd hmc) hS (fun H1 locs1 hP1 hS1 => ?_)
  · rw [va_wsS] at h0
    rcases List.mem_append.mp h0 with h0 | h0
    · rw [hcls] at h0
      rcases List.mem_cons.mp h0 with rfl | h0
      · exact q_in_g (hwd _ (by simp)) rfl
      · rcases List.mem_cons.mp h0 with rfl | h0
        · exact q_in_g (hwd _ (by simp)) rfl
        · rcases List.mem_cons.mp h0 with rfl | h0
          · exact q_in_g (hwd _ (by simp)) rfl
          · cases h0
    · exact (q_Wm_good hy _ h0).1
  have h9 := k H1 locs1 (cells + (w1.1.length - w.1.length)) (slots + (q_sl w1.1 - q_sl w.1)) ls hL hP1 hS1 (by show _ = w1.1.length; omega) (by show _ = q_sl w1.1; omega)
  have h10 : (r.toList ++ S.drop (q_na g)).map (q_rl base T) = (r.toList.map (q_rl base T)) ++ (S.drop (q_na g)).map (q_rl base T) := List.map_append
  dsimp only at h9
  rw [h10] at h9
  exact h9
theorem q_t_invokevirtual (C : q_Cx p R s m args meth c D cI cZ cD base T X M N0 S0 Nf Sf) {x a : Nat} (hat : q_at M pc = some (.invokevirtual x, n, g, pl)) (ha : S[q_na g - 1]? = some (.ref a)) (hcl0 : (w.1[a]?).map Prod.fst = some (q_ci g)) (hci : q_ci g < 9) {r : Option Value} {w1 : q_M} (hn4 : q_na g ≤ S.length ∧ (S.drop (q_na g)).length ≤ 4) (hM : q_Mt l D cI cZ cD base T X g (S.take (q_na g)).reverse w r w1) (hgrow : w.1 <+: w1.1) (hf : w1.1.length ≤ Nf ∧ q_sl w1.1 ≤ Sf) (k : q_G p l e R s m args below meth c Q D cI cZ cD base T N0 S0 (M, pc + n, L, r.toList ++ S.drop (q_na g), w1)) : q_G p l e R s m args below meth c Q D cI cZ cD base T N0 S0 (M, pc, L, S, w) := by
  obtain ⟨hx, hb, hml, hown, hts, hN, hin, hK, hE, hsz, hRf, hRl, hRc, hRs⟩ := id C
  obtain ⟨hd, hn, hw, hxc⟩ := q_cert hat
  obtain rfl : n = 3 := by simpa [q_ln] using hn
  obtain ⟨hcl, hna⟩ : q_cl M g = true ∧ q_na g = q_np g + 1 := by simpa [q_xc] using hxc
  obtain ⟨⟨hy, hfr⟩, hlo⟩ : (g < 149 ∧ q_fr g + 1 ≤ q_fr M) ∧ 8 + (q_ml g + 11) + q_lo g ≤ q_lo M := by simpa [q_cl] using hcl
  have hroom : q_fr g + 1 ≤ q_fr M ∧ 8 + (q_ml g + 11) + q_lo g ≤ q_lo M := ⟨hfr, hlo⟩
  obtain ⟨hfd, hpn, hcls⟩ := q_facts hy
  have hwd : ∀ w0 ∈ ([.methodLink (q_own M) x (q_y g), .instanceMethod (q_y g), .selects (q_own g) (q_y g) (q_y g), .initialized (q_own g)] : List Jvm.Cond), w0 ∈ lw_tbl := fun w0 h0 => hw w0 h0
  obtain ⟨As, hAs, hAl⟩ := q_take_rev hn4.1 (by omega) ha
  obtain ⟨n0, hn0⟩ := q_fst_of hcl0
  obtain ⟨hf1, hf2⟩ := hf
  have hg1 := q_sl_le hgrow
  intro H locs cells slots ls hL hP hS hc hs
  have hc' : cells + N0 = w.1.length := hc
  have hs' : slots + S0 = q_sl w.1 := hs
  refine q_size (fun hsz1 => ?_)
  have hHs : H.size = base + w.1.length := Nat.le_antisymm (by omega) (q_len_ge hP (by have := hS.1; omega))
  have hR : q_fr g + 1 ≤ R.frames ∧ 8 + (q_ml g + 11) + q_lo g ≤ R.locals := by rw [hRf, hRl]; exact hroom
  have hmc : cells + (w1.1.length - w.1.length) ≤ R.cells ∧ slots + (q_sl w1.1 - q_sl w.1) ≤ R.slots := by omega
  have hst : S.map (q_rl base T) = (As.map (q_rl base T)).reverse ++ .ref (base + a) :: (S.drop (q_na g)).map (q_rl base T) := by
    have h1 : S.take (q_na g) = As.reverse ++ [.ref a] := by rw [← List.reverse_reverse (S.take (q_na g)), hAs]; simp
    have h2 : S = (As.reverse ++ [Value.ref a]) ++ S.drop (q_na g) := by rw [← h1, List.take_append_drop]
    calc S.map (q_rl base T) = ((As.reverse ++ [Value.ref a]) ++ S.drop (q_na g)).map (q_rl base T) := by rw [← h2]
      _ = _ := by simp [q_rl]
  rw [hAs] at hM
  refine q_behind (T := T) (va_runV (C := q_own g) (b := base + a) (As := As.map (q_rl base T)) (rest := (S.drop (q_na g)).map (q_rl base T)) ⟨hx, hb, hml, hown, hts⟩ hM (cwV (q_np g) hts (q_goodw (fun w0 h0 => ?_)) (bytes := q_b g) (maxL := q_ml g) (ret := q_ret g) rfl rfl rfl ⟨hcls, hfd⟩ hR) ⟨q_Pc_blind, va_recv (ci := q_ci g) (q0 := a) hK hP (q_vw hci) (by rw [q_ws_at (q_lt_of hn0), q_cell_obj hn0 hci]), q_pre C (As := .ref a :: As) hP hS hHs⟩ rfl (by simp; omega) hL.2.1 hst (lv_room (q_cat8 hn4.2)) hd hmc) hS (fun H1 locs1 hP1 hS1 => ?_)
  · rw [wsV] at h0
    rcases List.mem_append.mp h0 with h0 | h0
    · rcases List.mem_cons.mp h0 with rfl | h0
      · exact q_in_g (hwd _ (by simp)) rfl
      · rcases List.mem_cons.mp h0 with rfl | h0
        · exact q_in_g (hwd _ (by simp)) rfl
        · rcases List.mem_cons.mp h0 with rfl | h0
          · exact q_in_g (hwd _ (by simp)) rfl
          · rcases List.mem_cons.mp h0 with rfl | h0
            · exact q_in_g (hwd _ (by simp)) rfl
            · cases h0
    · exact (q_Wm_good hy _ h0).1
  have h9 := k H1 locs1 (cells + (w1.1.length - w.1.length)) (slots + (q_sl w1.1 - q_sl w.1)) ls hL hP1 hS1 (by show _ = w1.1.length; omega) (by show _ = q_sl w1.1; omega)
  have h10 : (r.toList ++ S.drop (q_na g)).map (q_rl base T) = (r.toList.map (q_rl base T)) ++ (S.drop (q_na g)).map (q_rl base T) := List.map_append
  dsimp only at h9
  rw [h10] at h9
  exact h9
theorem q_t_invokespecial (C : q_Cx p R s m args meth c D cI cZ cD base T X M N0 S0 Nf Sf) {x a : Nat} (hat : q_at M pc = some (.invokespecial x, n, g, pl)) (hg : ¬ g = 999) (ha : S[q_na (g % 200) - 1]? = some (.ref a)) {r : Option Value} {w1 : q_M} (hn4 : q_na (g % 200) ≤ S.length ∧ (S.drop (q_na (g % 200))).length ≤ 4) (hM : q_Mt l D cI cZ cD base T X (g % 200) (S.take (q_na (g % 200))).reverse w r w1) (hgrow : w.1 <+: w1.1) (hf : w1.1.length ≤ Nf ∧ q_sl w1.1 ≤ Sf) (k : q_G p l e R s m args below meth c Q D cI cZ cD base T N0 S0 (M, pc + n, L, r.toList ++ S.drop (q_na (g % 200)), w1)) : q_G p l e R s m args below meth c Q D cI cZ cD base T N0 S0 (M, pc, L, S, w) := by
  obtain ⟨hx, hb, hml, hown, hts, hN, hin, hK, hE, hsz, hRf, hRl, hRc, hRs⟩ := id C
  obtain ⟨hd, hn, hw, hxc⟩ := q_cert hat
  obtain rfl : n = 3 := by simpa [q_ln] using hn
  obtain ⟨⟨⟨hcl, hna⟩, hini⟩, hrt⟩ : ((q_cl M (g % 200) = true ∧ q_na (g % 200) = q_np (g % 200) + 1) ∧ q_ini (g % 200) = true) ∧ q_rt (g % 200) = 0 := by simpa [q_xc, hg] using hxc
  obtain ⟨⟨hy, hfr⟩, hlo⟩ : ((g % 200) < 149 ∧ q_fr (g % 200) + 1 ≤ q_fr M) ∧ 8 + (q_ml (g % 200) + 11) + q_lo (g % 200) ≤ q_lo M := by simpa [q_cl] using hcl
  have hroom : q_fr (g % 200) + 1 ≤ q_fr M ∧ 8 + (q_ml (g % 200) + 11) + q_lo (g % 200) ≤ q_lo M := ⟨hfr, hlo⟩
  obtain ⟨hfd, hpn, hcls⟩ := q_facts hy
  have hret : q_ret (g % 200) = none := by unfold q_ret; rw [if_pos hrt]
  have hnm : (q_y (g % 200)).name = "<init>" := of_decide_eq_true hini
  obtain ⟨As, hAs, hAl⟩ := q_take_rev hn4.1 (by omega) ha
  have hWm : q_Wm (g % 200) = .code (q_y (g % 200)) (q_b (g % 200)) (q_ml (g % 200)) none :: lw_g := by unfold q_Wm; rw [hret]
  obtain ⟨hf1, hf2⟩ := hf
  have hg1 := q_sl_le hgrow
  intro H locs cells slots ls hL hP hS hc hs
  have hc' : cells + N0 = w.1.length := hc
  have hs' : slots + S0 = q_sl w.1 := hs
  refine q_size (fun hsz1 => ?_)
  have hHs : H.size = base + w.1.length := Nat.le_antisymm (by omega) (q_len_ge hP (by have := hS.1; omega))
  have hR : q_fr (g % 200) + 1 ≤ R.frames ∧ 8 + (q_ml (g % 200) + 11) + q_lo (g % 200) ≤ R.locals := by rw [hRf, hRl]; exact hroom
  have hmc : cells + (w1.1.length - w.1.length) ≤ R.cells ∧ slots + (q_sl w1.1 - q_sl w.1) ≤ R.slots := by omega
  have hst : S.map (q_rl base T) = (As.map (q_rl base T)).reverse ++ .ref (base + a) :: (S.drop (q_na (g % 200))).map (q_rl base T) := by
    have h1 : S.take (q_na (g % 200)) = As.reverse ++ [.ref a] := by rw [← List.reverse_reverse (S.take (q_na (g % 200))), hAs]; simp
    have h2 : S = (As.reverse ++ [Value.ref a]) ++ S.drop (q_na (g % 200)) := by rw [← h1, List.take_append_drop]
    calc S.map (q_rl base T) = ((As.reverse ++ [Value.ref a]) ++ S.drop (q_na (g % 200))).map (q_rl base T) := by rw [← h2]
      _ = _ := by simp [q_rl]
  rw [hAs] at hM
  have hrun : va_Run p l e R s m args below meth c H locs cells slots (w1.1.length - w.1.length) (q_sl w1.1 - q_sl w.1) (F0 m pc ls (S.map (q_rl base T))) ((S.drop (q_na (g % 200))).map (q_rl base T)) (q_Qc D cI cZ cD base (q_rt (g % 200)) r w1 (Value.ref (base + a) :: As.map (q_rl base T)).toArray) (q_A base) := by
    by_cases hnest : g < 200
    · have hwd : ∀ w0 ∈ ([.methodLink (q_own M) x (q_y (g % 200)), .instanceMethod (q_y (g % 200)), .initialized (q_own (g % 200))] : List Jvm.Cond), w0 ∈ lw_tbl := fun w0 h0 => hw w0 (by simpa [q_wd, q_kd, q_wk, hg, hnest, q_own] using h0)
      exact va_runI (b := base + a) (As := As.map (q_rl base T)) (rest := (S.drop (q_na (g % 200))).map (q_rl base T)) ⟨hx, hb, hml, hown, hts⟩ hM (cwI (q_np (g % 200)) hts (q_Wm_good hy) (bytes := q_b (g % 200)) (maxL := q_ml (g % 200)) hWm rfl rfl (by rw [hcls]; exact hts _ (q_in_g (hwd _ (by simp)) rfl)) (hts _ (q_in_g (hwd _ (by simp)) rfl)) (hts _ (q_in_g (hwd _ (by simp)) rfl)) hnm hfd hR) ⟨q_Pc_blind, q_pre C (As := .ref a :: As) hP hS hHs⟩ rfl (by simp; omega) hL.2.1 hst (lv_room (q_cat8 hn4.2)) hd hmc
    · have hwd : ∀ w0 ∈ ([.methodLinkNest (q_own M) x (q_y (g % 200)) "QuietPairs", .instanceMethod (q_y (g % 200)), .initialized (q_own (g % 200))] : List Jvm.Cond), w0 ∈ lw_tbl := fun w0 h0 => hw w0 (by simpa [q_wd, q_kd, q_wk, hg, hnest, q_own] using h0)
      exact va_runIN (b := base + a) (As := As.map (q_rl base T)) (rest := (S.drop (q_na (g % 200))).map (q_rl base T)) ⟨hx, hb, hml, hown, hts⟩ hM ⟨va_cnB (q_np (g % 200)) hts (q_Wm_good hy) (bytes := q_b (g % 200)) (maxL := q_ml (g % 200)) hWm rfl rfl (hN.2 (q_own M) x (q_y (g % 200)) "QuietPairs" (hwd _ List.mem_cons_self)) (by rw [hcls]; exact hts _ (q_in_g (hwd _ (by simp)) rfl)) hfd hR, hnm, hts _ (q_in_g (hwd _ (by simp)) rfl)⟩ ⟨q_Pc_blind, q_pre C (As := .ref a :: As) hP hS hHs⟩ rfl (by simp; omega) hL.2.1 hst (lv_room (q_cat8 hn4.2)) hd hmc
  refine q_behind (T := T) hrun hS (fun H1 locs1 hP1 hS1 => ?_)
  have h9 := k H1 locs1 (cells + (w1.1.length - w.1.length)) (slots + (q_sl w1.1 - q_sl w.1)) ls hL hP1 hS1 (by show _ = w1.1.length; omega) (by show _ = q_sl w1.1; omega)
  have h10 : (r.toList ++ S.drop (q_na (g % 200))).map (q_rl base T) = (r.toList.map (q_rl base T)) ++ (S.drop (q_na (g % 200))).map (q_rl base T) := List.map_append
  dsimp only at h9
  rw [h10] at h9
  exact h9
end QV
end
section
/-- the way of a step: the method stays; what a return says -/
def q_way (M : Nat) (d : q_D) : Prop := match d with
  | .inl _ => True
  | .inr (.inl σ) => σ.1 = M
  | .inr (.inr (_, M', _)) => M' = M
set_option maxHeartbeats 4000000 in
theorem q_ins_way {X : Nat × (Nat → Int32)} {M pc : Nat} {L S : List Value} {w : q_M} {i : Instr} {n g : Nat} {pl : List Nat} {d : q_D} (h : q_ins X M pc L S w i n g pl = some d) : q_way M d := by
  unfold q_ins at h
  split at h
  all_goals try simp only [q_i2, q_c1, q_c2, q_ldi, q_lda, q_ldl, q_sti, q_sta, q_stl, q_gf, q_pf, q_ald, q_ast, q_ald2, q_ast2, q_new, q_newa, q_alen, q_callV, q_call, q_ret1, q_sw, q_mm, q_go] at h
  all_goals (repeat' (split at h))
  all_goals first
    | (cases h; done)
    | (cases h; first | exact trivial | exact rfl)
/-- at a return -/
def q_HR (p : Program) (l : Launch) (e : Env) (R : Room) (s : State) (m : MethodId) (args : Array Value) (below : List Frame) (meth : Method) (c : Code) (Q : State → Prop) (D : va_G) (cI cZ cD : ClassId) (base : Nat) (T : Nat → Nat) (M N0 S0 : Nat) (r : Option Value) (w : q_M) : Prop :=
  ∀ (pc : Nat) (i : Instr) (H : Heap) (locs : List Loc) (cells slots : Nat) (ls : Array Slot), decode (q_b M) pc = .ok (i, 1) → ((q_rt M = 0 ∧ i = .return_ ∧ r = none) ∨ (i = .ireturn ∧ ∃ x : Int32, r = some (.int x) ∧ (q_rt M = 1 ∨ (q_rt M = 2 ∧ (x = 0 ∨ x = 1)))) ∨ (q_rt M = 3 ∧ i = .lreturn ∧ ∃ x : Int64, r = some (.long x))) →
    va_P D vwCl (q_ws base cI cZ cD w) H → va_S (q_A base) s.heap H locs → cells + N0 = w.1.length → slots + S0 = q_sl w.1 → W p l e R s m args below meth c H locs cells slots Q (F0 m pc ls (r.toList.map (q_rl base T)))
section QX
variable {p : Program} {l : Launch} {e : Env} {R : Room} {s : State} {m : MethodId} {args : Array Value} {below : List Frame} {meth : Method} {c : Code} {Q : State → Prop}
variable {D : va_G} {cI cZ cD : ClassId} {base : Nat} {T : Nat → Nat} {X : Nat × (Nat → Int32)} {M N0 S0 Nf Sf : Nat}
variable {pc n g : Nat} {pl : List Nat} {L S : List Value} {w : q_M} {σ' : q_S}
theorem q_step_go (C : q_Cx p R s m args meth c D cI cZ cD base T X M N0 S0 Nf Sf) {i : Instr} (hat : q_at M pc = some (i, n, g, pl)) (h : q_ins X M pc L S w i n g pl = some (.inr (.inl σ'))) (hw0 : w.1.length ≤ Nf ∧ q_sl w.1 ≤ Sf) (hf : σ'.2.2.2.2.1.length ≤ Nf ∧ q_sl σ'.2.2.2.2.1 ≤ Sf) (k : q_G p l e R s m args below meth c Q D cI cZ cD base T N0 S0 σ') : q_G p l e R s m args below meth c Q D cI cZ cD base T N0 S0 (M, pc, L, S, w) := by
  cases i with
  | iconst x => exact q_t_iconst C hat h k
  | bipush x => exact q_t_bipush C hat h k
  | sipush x => exact q_t_sipush C hat h k
  | lconst x => exact q_t_lconst C hat h k
  | ldc_w x => exact q_t_ldcw C hat h k
  | iload_n x => exact q_t_iload_n C hat h k
  | iload x => exact q_t_iload C hat h k
  | lload_n x => exact q_t_lload_n C hat h k
  | aload_n x => exact q_t_aload_n C hat h k
  | istore_n x => exact q_t_istore_n C hat h k
  | istore x => exact q_t_istore C hat h k
  | astore_n x => exact q_t_astore_n C hat h k
  | lstore_n x => exact q_t_lstore_n C hat h k
  | iinc x y => exact q_t_iinc C hat h k
  | iadd => exact q_t_iadd C hat h k
  | isub => exact q_t_isub C hat h k
  | imul => exact q_t_imul C hat h k
  | iand => exact q_t_iand C hat h k
  | ior => exact q_t_ior C hat h k
  | ixor => exact q_t_ixor C hat h k
  | ishl => exact q_t_ishl C hat h k
  | ishr => exact q_t_ishr C hat h k
  | iushr => exact q_t_iushr C hat h k
  | idiv => exact q_t_idiv C hat h k
  | irem => exact q_t_irem C hat h k
  | i2l => exact q_t_i2l C hat h k
  | lshl => exact q_t_lshl C hat h k
  | lor => exact q_t_lor C hat h k
  | lcmp => exact q_t_lcmp C hat h k
  | dup => exact q_t_dup C hat h k
  | pop => exact q_t_pop C hat h k
  | dup2 => exact q_t_dup2 C hat h k
  | goto x => exact q_t_goto C hat h k
  | getfield x => exact q_t_getfield C hat h k
  | putfield x => exact q_t_putfield C hat h k
  | getstatic x => exact q_t_getstatic C hat h k
  | iaload => exact q_t_iaload C hat h k
  | baload => exact q_t_baload C hat h k
  | aaload => exact q_t_aaload C hat h k
  | iastore => exact q_t_iastore C hat h k
  | bastore => exact q_t_bastore C hat h k
  | aastore => exact q_t_aastore C hat h k
  | arraylength => exact q_t_arraylength C hat h k
  | tableswitch a b d f => exact q_t_tableswitch C hat h k
  | lookupswitch a b => exact q_t_lookupswitch C hat h k
  | new x => exact q_t_new C hat h hf k
  | anewarray x => exact q_t_anewarray C hat h hf k
  | newarray t =>
    obtain ⟨hd, hn, hw, hxc⟩ := q_cert hat
    have h1 : (newarray.typeOf t = .int ∧ g = 9) ∨ (newarray.typeOf t = .boolean ∧ g = 10) := by simpa [q_xc] using hxc
    rcases h1 with ⟨h1, h2⟩ | ⟨h1, h2⟩
    · exact q_t_newarray_int C h1 h2 hat h hf k
    · exact q_t_newarray_boolean C h1 h2 hat h hf k
  | ifCond co x =>
    cases co with
    | eq => exact q_t_if_eq C hat h k
    | ne => exact q_t_if_ne C hat h k
    | lt => exact q_t_if_lt C hat h k
    | ge => exact q_t_if_ge C hat h k
    | le => exact q_t_if_le C hat h k
    | _ => exact nomatch (show (none : Option q_D) = some _ from h)
  | if_icmp co x =>
    cases co with
    | eq => exact q_t_icmp_eq C hat h k
    | ne => exact q_t_icmp_ne C hat h k
    | lt => exact q_t_icmp_lt C hat h k
    | ge => exact q_t_icmp_ge C hat h k
    | gt => exact q_t_icmp_gt C hat h k
    | le => exact q_t_icmp_le C hat h k
  | invokestatic x =>
    by_cases h1 : g = 149
    · have h2 : q_mm M (pc + n) L S w (fun x y => if x < y then y else x) = some (.inr (.inl σ')) := by
        have h3 := h
        unfold q_ins at h3
        dsimp only at h3
        rw [if_pos h1] at h3
        exact h3
      exact q_t_mmax C h1 hat h2 hw0 k
    · by_cases h0 : g = 150
      · have h2 : q_mm M (pc + n) L S w (fun x y => if y < x then y else x) = some (.inr (.inl σ')) := by
          have h3 := h
          unfold q_ins at h3
          dsimp only at h3
          rw [if_neg h1, if_pos h0] at h3
          exact h3
        exact q_t_mmin C h0 hat h2 hw0 k
      · have h3 := h
        unfold q_ins at h3
        dsimp only at h3
        rw [if_neg h1, if_neg h0] at h3
        unfold q_call at h3
        split at h3 <;> cases h3
  | invokespecial x =>
    by_cases h1 : g = 999
    · have h2 : (match S with | [.ref _] => q_go M (pc + n) L [] w | _ => none) = some (.inr (.inl σ')) := by
        have h3 := h
        unfold q_ins at h3
        dsimp only at h3
        rw [if_pos h1] at h3
        exact h3
      exact q_t_objinit C h1 hat h2 k
    · have h3 := h
      unfold q_ins at h3
      dsimp only at h3
      rw [if_neg h1] at h3
      unfold q_call at h3
      repeat' (split at h3)
      all_goals cases h3
  | invokevirtual x =>
    have h3 : q_callV M (pc + n) L S w g (q_na g) (q_ml g) (q_ci g) = some (.inr (.inl σ')) := h
    unfold q_callV q_call at h3
    repeat' (split at h3)
    all_goals cases h3
  | ireturn =>
    have h3 : q_ret1 S w (q_rt M) = some (.inr (.inl σ')) := h
    unfold q_ret1 at h3
    repeat' (split at h3)
    all_goals cases h3
  | lreturn =>
    have h3 : (match S with | [.long x] => if q_rt M = 3 then some (.inl (some (.long x), w)) else none | _ => (none : Option q_D)) = some (.inr (.inl σ')) := h
    repeat' (split at h3)
    all_goals cases h3
  | return_ =>
    have h3 : (match S with | [] => if q_rt M = 0 then some (.inl (none, w)) else none | _ => (none : Option q_D)) = some (.inr (.inl σ')) := h
    repeat' (split at h3)
    all_goals cases h3
  | _ => exact nomatch (show (none : Option q_D) = some _ from h)
set_option maxHeartbeats 4000000 in
theorem q_step_ret (C : q_Cx p R s m args meth c D cI cZ cD base T X M N0 S0 Nf Sf) {i : Instr} {r : Option Value × q_M} (hat : q_at M pc = some (i, n, g, pl)) (h : q_ins X M pc L S w i n g pl = some (.inl r)) (k : q_HR p l e R s m args below meth c Q D cI cZ cD base T M N0 S0 r.1 r.2) : q_G p l e R s m args below meth c Q D cI cZ cD base T N0 S0 (M, pc, L, S, w) := by
  obtain ⟨hd, hn, hw, hxc⟩ := q_cert hat
  intro H locs cells slots ls hL hP hS hc hs
  unfold q_ins at h
  split at h
  all_goals try simp only [q_i2, q_c1, q_c2, q_ldi, q_lda, q_ldl, q_sti, q_sta, q_stl, q_gf, q_pf, q_ald, q_ast, q_ald2, q_ast2, q_new, q_newa, q_alen, q_callV, q_call, q_ret1, q_sw, q_mm, q_go] at h
  all_goals (repeat' (split at h))
  all_goals first
    | (cases h; done)
    | (cases h
       obtain rfl : n = 1 := by simpa [q_ln] using hn
       first
         | (rename_i hq; exact k pc _ H locs cells slots ls hd (Or.inl ⟨hq, rfl, rfl⟩) hP hS hc hs)
         | (rename_i hq; exact k pc _ H locs cells slots ls hd (Or.inr (Or.inl ⟨rfl, _, rfl, hq⟩)) hP hS hc hs)
         | (rename_i hq; exact k pc _ H locs cells slots ls hd (Or.inr (Or.inr ⟨hq, rfl, _, rfl⟩)) hP hS hc hs))
/-- what a call of the pure machine is -/
def q_isCall (M pc : Nat) (L S : List Value) (w : q_M) (i : Instr) (g y : Nat) (σc : q_S) (M' pc' : Nat) (L' S' : List Value) : Prop :=
  M' = M ∧ pc' = pc ∧ L' = L ∧ S' = S.drop (q_na y) ∧ σc = (y, 0, (S.take (q_na y)).reverse ++ List.replicate (q_ml y - q_na y) .null, [], w) ∧ q_na y ≤ S.length ∧ (S.drop (q_na y)).length ≤ 4 ∧ q_na y ≤ q_ml y ∧ (S.take (q_na y)).all (fun v => v.category == 1) = true
theorem q_call_of {M pc : Nat} {L S : List Value} {w : q_M} {y n ml : Nat} {d : q_S × Nat × Nat × List Value × List Value} (h : q_call M pc L S w y n ml = some (.inr (.inr d))) : d = ((y, 0, (S.take n).reverse ++ List.replicate (ml - n) .null, [], w), M, pc, L, S.drop n) ∧ n ≤ S.length ∧ (S.drop n).length ≤ 4 ∧ n ≤ ml ∧ (S.take n).all (fun v => v.category == 1) = true := by
  unfold q_call at h
  split at h
  · rename_i hq
    cases h
    exact ⟨rfl, hq⟩
  · cases h
theorem q_call_no {M pc : Nat} {L S : List Value} {w : q_M} {d : q_S × Nat × Nat × List Value × List Value} {X : Nat × (Nat → Int32)} {i : Instr} {n g : Nat} {pl : List Nat} (h : q_ins X M pc L S w i n g pl = some (.inr (.inr d))) : (∃ x a, i = .invokevirtual x ∧ S[q_na g - 1]? = some (.ref a) ∧ (w.1[a]?).map Prod.fst = some (q_ci g) ∧ q_call M (pc + n) L S w g (q_na g) (q_ml g) = some (.inr (.inr d))) ∨ (∃ x, i = .invokestatic x ∧ ¬ (g = 149 ∨ g = 150) ∧ q_call M (pc + n) L S w g (q_na g) (q_ml g) = some (.inr (.inr d))) ∨ (∃ x a, i = .invokespecial x ∧ ¬ g = 999 ∧ S[q_na (g % 200) - 1]? = some (.ref a) ∧ q_call M (pc + n) L S w (g % 200) (q_na (g % 200)) (q_ml (g % 200)) = some (.inr (.inr d))) := by
  cases i with
  | invokevirtual x =>
    have h3 : q_callV M (pc + n) L S w g (q_na g) (q_ml g) (q_ci g) = some (.inr (.inr d)) := h
    unfold q_callV at h3
    split at h3
    · rename_i a ha
      split at h3
      · rename_i hq
        exact Or.inl ⟨x, a, rfl, ha, hq.1, h3⟩
      · cases h3
    · cases h3
  | invokestatic x =>
    have h3 := h
    unfold q_ins at h3
    dsimp only at h3
    split at h3
    · unfold q_mm q_go at h3
      repeat' (split at h3)
      all_goals cases h3
    · split at h3
      · unfold q_mm q_go at h3
        repeat' (split at h3)
        all_goals cases h3
      · rename_i h1 h2
        exact Or.inr (Or.inl ⟨x, rfl, fun z => z.elim h1 h2, h3⟩)
  | invokespecial x =>
    have h3 := h
    unfold q_ins at h3
    dsimp only at h3
    split at h3
    · unfold q_go at h3
      repeat' (split at h3)
      all_goals cases h3
    · rename_i h1
      split at h3
      · rename_i a ha
        split at h3
        · exact Or.inr (Or.inr ⟨x, a, rfl, h1, ha, h3⟩)
        · cases h3
      · cases h3
  | ifCond co x =>
    cases co
    all_goals
      have h3 := h
      unfold q_ins at h3
      try simp only [q_c1, q_go] at h3
      (repeat' (split at h3))
      all_goals cases h3
  | if_icmp co x =>
    cases co
    all_goals
      have h3 := h
      unfold q_ins at h3
      try simp only [q_c2, q_go] at h3
      (repeat' (split at h3))
      all_goals cases h3
  | _ =>
    have h3 := h
    unfold q_ins at h3
    try simp only [q_i2, q_c1, q_c2, q_ldi, q_lda, q_ldl, q_sti, q_sta, q_stl, q_gf, q_pf, q_ald, q_ast, q_ald2, q_ast2, q_new, q_newa, q_alen, q_ret1, q_sw, q_mm, q_go] at h3
    (repeat' (split at h3))
    all_goals cases h3
end QX
end
section
/-! ===== the machine follows the pure machine ===== -/
theorem q_sl1 {vs : List Value} (h : ∀ v ∈ vs, v.category = 1) : (lg_sl vs).length = vs.length := by
  induction vs with
  | nil => rfl
  | cons v vs ih =>
    have h1 := h v List.mem_cons_self
    have h2 := ih (fun v hv => h v (List.mem_cons_of_mem _ hv))
    unfold lg_sl at h2 ⊢
    rw [List.flatMap_cons, if_neg (by omega), List.length_append, h2]
    simp; omega
theorem q_lvargs {vs : List Value} (h : ∀ v ∈ vs, v.category = 1) : ∀ (i k : Nat) (v : Value), vs[k]? = some v → (i + k, v) ∈ lv_args i vs := by
  induction vs with
  | nil => intro i k v hk; cases hk
  | cons u vs ih =>
    intro i k v hk
    have h1 := h u List.mem_cons_self
    cases k with
    | zero =>
      cases hk
      exact List.mem_cons_self
    | succ k =>
      rw [List.getElem?_cons_succ] at hk
      have h2 := ih (fun v hv => h v (List.mem_cons_of_mem _ hv)) (i + 1) k v hk
      unfold lv_args
      rw [if_neg (by omega), show i + (k + 1) = i + 1 + k by omega]
      exact List.mem_cons_of_mem _ h2
theorem q_entry {base : Nat} {T : Nat → Nat} {As : List Value} {M : Nat} (hl : As.length ≤ q_ml M) (hc : As.all (fun v => v.category == 1) = true) : q_Lo base T M (As ++ List.replicate (q_ml M - As.length) .null) ((lg_sl (As.map (q_rl base T)) ++ List.replicate (q_ml M - (lg_sl (As.map (q_rl base T))).length) Slot.unset).toArray) := by
  have hc1 : ∀ v ∈ As.map (q_rl base T), v.category = 1 := by
    intro v hv
    obtain ⟨u, hu, rfl⟩ := List.mem_map.mp hv
    rw [q_rl_cat]
    exact eq_of_beq (List.all_eq_true.mp hc u hu)
  have hlen : (lg_sl (As.map (q_rl base T))).length = As.length := by rw [q_sl1 hc1, List.length_map]
  have h := lv_entry (As.map (q_rl base T)) (n := q_ml M) (by omega)
  refine ⟨by simp; omega, h.1, h.2.1, fun k v hk hv => ?_, fun k v hk hv => ?_⟩
  rotate_left
  · rcases List.mem_append.mp (List.mem_of_getElem? hk) with h2 | h2
    · have := eq_of_beq (List.all_eq_true.mp hc v h2)
      omega
    · rw [(List.mem_replicate.mp h2).2] at hv
      simp [Value.category] at hv
  by_cases hkl : k < As.length
  · rw [List.getElem?_append_left hkl] at hk
    have h1 := q_lvargs hc1 0 k (q_rl base T v) (by rw [List.getElem?_map, hk]; rfl)
    rw [Nat.zero_add] at h1
    exact h.2.2 _ h1
  · rw [List.getElem?_append_right (by omega)] at hk
    have h2 := List.mem_of_getElem? hk
    exact absurd (List.mem_replicate.mp h2).2 hv
theorem q_ci9 {g : Nat} (h : g < 149) (hn : q_na g = q_np g + 1) : q_ci g < 9 := by
  have h1 : (List.range 149).all (fun g => decide (q_na g = q_np g + 1 → q_ci g < 9)) = true := by decide +kernel
  exact of_decide_eq_true (List.all_eq_true.mp h1 g (List.mem_range.mpr h)) hn
set_option maxHeartbeats 4000000 in
theorem q_met {l : Launch} {D : va_G} {cI cZ cD : ClassId} {base : Nat} {T : Nat → Nat} {X : Nat × (Nat → Int32)} {n : Nat}
    (ih : ∀ {p : Program} {e : Env} {R : Room} {s : State} {m : MethodId} {args : Array Value} {below : List Frame} {meth : Method} {c : Code} {Q : State → Prop} {N0 S0 Nf Sf : Nat} (σ : q_S) (r : Option Value) (w' : q_M), q_Cx p R s m args meth c D cI cZ cD base T X σ.1 N0 S0 Nf Sf → q_run X n σ = some (r, w') → w'.1.length ≤ Nf → q_sl w'.1 ≤ Sf → q_HR p l e R s m args below meth c Q D cI cZ cD base T σ.1 N0 S0 r w' → q_G p l e R s m args below meth c Q D cI cZ cD base T N0 S0 σ)
    {y : Nat} {As : List Value} {w : q_M} {r : Option Value} {w1 : q_M} (hy : y < 149) (hAl : As.length = q_na y) (hAm : q_na y ≤ q_ml y) (hcat : As.all (fun v => v.category == 1) = true) (hrun : q_run X n (y, 0, As ++ List.replicate (q_ml y - q_na y) .null, [], w) = some (r, w1)) : q_Mt l D cI cZ cD base T X y As w r w1 := by
  obtain ⟨hfd, hpn, hcls⟩ := q_facts hy
  have hg : w.1.length ≤ w1.1.length ∧ q_sl w.1 ≤ q_sl w1.1 := q_sl_le (q_run_grow hrun)
  refine Met.ofW (cc := q_b y) (maxL := q_ml y) (ret := q_ret y) hpn rfl ?_
  intro p e s m args below meth c s₁ B hml hv
  obtain ⟨rfl, hsz, hP, hK, hN, hE⟩ := hv
  have hx := B.exec
  have hb := B.bytes
  have hr := B.returns
  have hlocks := B.notSynchronized
  have hts := atoms_spec (ws := q_Wm y) B.pre
  have hown : s.vm.findClass (q_y y).cls = some m.cls := findClass_of_methodNamed B.named
  have hnm : meth.name = (q_y y).name := (name_of_methodNamed B.named B.method).1
  rw [lg_entry_eq]
  have hLo := q_entry (base := base) (T := T) (As := As) (M := y) (by omega) hcat
  rw [hAl] at hLo
  generalize (lg_sl (As.map (q_rl base T)) ++ List.replicate (q_ml y - (lg_sl (As.map (q_rl base T))).length) Slot.unset).toArray = ls at hLo ⊢
  have C : q_Cx p (headSpec (q_Wm y) { frames := q_fr y, cells := w1.1.length - w.1.length, slots := q_sl w1.1 - q_sl w.1, locals := q_lo y }).room s m (As.map (q_rl base T)).toArray meth c D cI cZ cD base T X y w.1.length (q_sl w.1) w1.1.length (q_sl w1.1) := by
    refine ⟨hx, hb, hml, by rw [← hcls]; exact hown, fun w0 h0 => hts w0 (List.mem_cons_of_mem _ h0), hN, fun h => by rw [hnm]; exact of_decide_eq_true h, hK, hE, hsz, rfl, rfl, ?_, ?_⟩
    · show (w1.1.length - w.1.length) + w.1.length = _
      omega
    · show (q_sl w1.1 - q_sl w.1) + q_sl w.1 = _
      omega
  refine ih (y, 0, As ++ List.replicate (q_ml y - q_na y) .null, [], w) r w1 C hrun (Nat.le_refl _) (Nat.le_refl _) ?_ s.heap [] 0 0 ls hLo hP va_S.rf (Nat.zero_add _) (Nat.zero_add _)
  intro pc i H locs cells slots ls2 hd hcase hP2 hS2 hc2 hs2
  obtain rfl : cells = w1.1.length - w.1.length := by omega
  obtain rfl : slots = q_sl w1.1 - q_sl w.1 := by omega
  have hcase : ((q_rt y = 0 ∧ i = .return_ ∧ r = none) ∨ (i = .ireturn ∧ ∃ x : Int32, r = some (.int x) ∧ (q_rt y = 1 ∨ (q_rt y = 2 ∧ (x = 0 ∨ x = 1)))) ∨ (q_rt y = 3 ∧ i = .lreturn ∧ ∃ x : Int64, r = some (.long x))) := hcase
  rcases hcase with ⟨h0, rfl, rfl⟩ | ⟨rfl, x, rfl, hrt⟩ | ⟨h3, rfl, x, rfl⟩
  · refine W.vret hx hb (by rw [hr]; unfold q_ret; rw [if_pos h0]) (fun t ht hW => ?_) (fun q hq => hS2.2.2 q hq) hd hlocks
    unfold q_Qc
    rw [if_pos h0]
    exact ⟨⟨(), rfl, rfl, by show va_P D vwCl (q_ws base cI cZ cD w1) t.heap; rw [ht]; exact hP2⟩, hS2.F ht⟩
  · rcases hrt with h1 | ⟨h2, hx01⟩
    · refine W.iret hx hb (by rw [hr]; unfold q_ret; rw [if_neg (by omega), if_pos h1]) (fun t ht hW => ?_) (fun q hq => hS2.2.2 q hq) hd hlocks
      unfold q_Qc
      rw [if_neg (show ¬ q_rt y = 0 by omega), if_neg (by omega)]
      exact ⟨⟨x, (), rfl, rfl, by show va_P D vwCl (q_ws base cI cZ cD w1) t.heap; rw [ht]; exact hP2⟩, hS2.F ht⟩
    · refine W.zret (ty := .boolean) hx hb (by rw [hr]; unfold q_ret; rw [if_neg (by omega), if_neg (by omega), if_pos h2]) (by rcases hx01 with rfl | rfl <;> rfl) (fun t ht hW => ?_) (fun q hq => hS2.2.2 q hq) hd hlocks
      unfold q_Qc
      rw [if_neg (show ¬ q_rt y = 0 by omega), if_neg (by omega)]
      exact ⟨⟨x, (), rfl, rfl, by show va_P D vwCl (q_ws base cI cZ cD w1) t.heap; rw [ht]; exact hP2⟩, hS2.F ht⟩
  · refine W.lret hx hb (by rw [hr]; unfold q_ret; rw [if_neg (by omega), if_neg (by omega), if_neg (by omega)]) (fun t ht hW => ?_) (fun q hq => hS2.2.2 q hq) hd hlocks
    unfold q_Qc
    rw [if_neg (show ¬ q_rt y = 0 by omega), if_pos h3]
    exact ⟨⟨x, (), rfl, rfl, by show va_P D vwCl (q_ws base cI cZ cD w1) t.heap; rw [ht]; exact hP2⟩, hS2.F ht⟩
set_option maxHeartbeats 4000000 in
theorem q_main (l : Launch) {D : va_G} {cI cZ cD : ClassId} {base : Nat} {T : Nat → Nat} {X : Nat × (Nat → Int32)} (n : Nat) :
    ∀ {p : Program} {e : Env} {R : Room} {s : State} {m : MethodId} {args : Array Value} {below : List Frame} {meth : Method} {c : Code} {Q : State → Prop} {N0 S0 Nf Sf : Nat} (σ : q_S) (r : Option Value) (w' : q_M), q_Cx p R s m args meth c D cI cZ cD base T X σ.1 N0 S0 Nf Sf → q_run X n σ = some (r, w') → w'.1.length ≤ Nf → q_sl w'.1 ≤ Sf → q_HR p l e R s m args below meth c Q D cI cZ cD base T σ.1 N0 S0 r w' → q_G p l e R s m args below meth c Q D cI cZ cD base T N0 S0 σ := by
  induction n with
  | zero => intro p e R s m args below meth c Q N0 S0 Nf Sf σ r w' C h; cases h
  | succ n ih =>
    intro p e R s m args below meth c Q N0 S0 Nf Sf σ r w' C h hNf hSf HR
    obtain ⟨M, pc, L, S, w⟩ := σ
    rw [q_run_s] at h
    cases hn : q_nxt X (M, pc, L, S, w) with
    | none => rw [hn] at h; cases h
    | some d =>
      rw [hn] at h
      have hn' := hn
      unfold q_nxt at hn'
      split at hn'
      · cases hn'
      · rename_i i n0 g pl hat
        dsimp only at hat hn'
        rcases d with d | d | d
        · cases h
          exact q_step_ret C hat hn' HR
        · have hway : d.1 = M := q_ins_way hn'
          have hg1 : w.1 <+: d.2.2.2.2.1 := q_ins_grow hn'
          have hg2 := q_run_grow h
          have hb2 := q_sl_le hg2
          have hb1 := q_sl_le hg1
          dsimp only at hb2 hb1
          have k := ih d r w' (by rw [hway]; exact C) h hNf hSf (by rw [hway]; exact HR)
          exact q_step_go C hat hn' ⟨by omega, by omega⟩ ⟨by omega, by omega⟩ k
        · obtain ⟨σc, M', pc', L', S'⟩ := d
          dsimp only at h
          cases hc : q_run X n σc with
          | none => rw [hc] at h; cases h
          | some rw1 =>
            obtain ⟨r1, w1⟩ := rw1
            rw [hc] at h
            dsimp only at h
            have hg2 := q_sl_le (q_run_grow h)
            dsimp only at hg2
            have fin : ∀ y : Nat, y < 149 → q_call M (pc + n0) L S w y (q_na y) (q_ml y) = some (.inr (.inr (σc, M', pc', L', S'))) → (q_na y ≤ S.length ∧ (S.drop (q_na y)).length ≤ 4) ∧ q_Mt l D cI cZ cD base T X y (S.take (q_na y)).reverse w r1 w1 ∧ w.1 <+: w1.1 ∧ (w1.1.length ≤ Nf ∧ q_sl w1.1 ≤ Sf) ∧ q_G p l e R s m args below meth c Q D cI cZ cD base T N0 S0 (M, pc + n0, L, r1.toList ++ S.drop (q_na y), w1) := by
              intro y hy hcall
              obtain ⟨hd, h1, h2, h3, h4⟩ := q_call_of hcall
              injection hd with hd1 hd2
              injection hd2 with hd2 hd3
              injection hd3 with hd3 hd4
              injection hd4 with hd4 hd5
              subst hd1 hd2 hd3 hd4 hd5
              refine ⟨⟨h1, h2⟩, q_met ih hy (by simp; omega) h3 (by rw [List.all_reverse]; exact h4) hc, q_run_grow hc, ⟨by omega, by omega⟩, ih _ r w' C h hNf hSf HR⟩
            rcases q_call_no hn' with ⟨x, a, rfl, ha, hcl, hcall⟩ | ⟨x, rfl, hg, hcall⟩ | ⟨x, a, rfl, hg, ha, hcall⟩
            · obtain ⟨hd, hnn, hw, hxc⟩ := q_cert hat
              obtain ⟨hcl9, hna⟩ : q_cl M g = true ∧ q_na g = q_np g + 1 := by simpa [q_xc] using hxc
              obtain ⟨⟨hy, hfr⟩, hlo⟩ : (g < 149 ∧ q_fr g + 1 ≤ q_fr M) ∧ 8 + (q_ml g + 11) + q_lo g ≤ q_lo M := by simpa [q_cl] using hcl9
              obtain ⟨f1, f2, f3, f4, f5⟩ := fin g hy hcall
              exact q_t_invokevirtual C hat ha hcl (q_ci9 hy hna) f1 f2 f3 f4 f5
            · obtain ⟨hd, hnn, hw, hxc⟩ := q_cert hat
              obtain ⟨hcl9, hna⟩ : q_cl M g = true ∧ q_na g = q_np g := by simpa [q_xc, hg] using hxc
              obtain ⟨⟨hy, hfr⟩, hlo⟩ : (g < 149 ∧ q_fr g + 1 ≤ q_fr M) ∧ 8 + (q_ml g + 11) + q_lo g ≤ q_lo M := by simpa [q_cl] using hcl9
              obtain ⟨f1, f2, f3, f4, f5⟩ := fin g hy hcall
              exact q_t_invokestatic C hat hg f1 f2 f3 f4 f5
            · obtain ⟨hd, hnn, hw, hxc⟩ := q_cert hat
              obtain ⟨⟨⟨hcl9, hna⟩, hini⟩, hrt⟩ : ((q_cl M (g % 200) = true ∧ q_na (g % 200) = q_np (g % 200) + 1) ∧ q_ini (g % 200) = true) ∧ q_rt (g % 200) = 0 := by simpa [q_xc, hg] using hxc
              obtain ⟨⟨hy, hfr⟩, hlo⟩ : ((g % 200) < 149 ∧ q_fr (g % 200) + 1 ≤ q_fr M) ∧ 8 + (q_ml (g % 200) + 11) + q_lo (g % 200) ≤ q_lo M := by simpa [q_cl] using hcl9
              obtain ⟨f1, f2, f3, f4, f5⟩ := fin (g % 200) hy hcall
              exact q_t_invokespecial C hat hg ha f1 f2 f3 f4 f5
end
section
/-! THE CLAIM OUT OF ONE WALK OF THE LAW'S BODY. Your part is whole_start (and what it stands on); all else here is the same for every law, but numbers. -/
def R_law : String := "QuietPairsLaw"
def lw_P (b : Addr) (xs : List Int32) (args : Array Value) (s : State) : Prop := args = #[.ref b] ∧ s.IntsAt b xs ∧ xs.length ≤ 3584 ∧ (Jvm.Cond.and given_1 narrow_1).before args s = true
def lw_Q (_ : Array Value) (s : State) (o : Outcome) (t : State) : Prop := o = .returned (some (.int 1)) ∧ Framed s o t [] 600000 7302250
def lw_Z (below : List Frame) (a : Array Value) (s : State) : State → Prop := fun t => ∃ o, t.status = .running ∧ Ended t below o ∧ lw_Q a s o t
/-- the law's own end, with 1 on the stack, nothing written that was there before, its room as the claim has it -/
theorem lw_ret {p : Program} {l : Launch} {e : Env} {s : State} {m : MethodId} {below : List Frame} {meth : Method} {c : Code} {b : Nat} (hx : p.tables.exec = Jvm.exec) (hb : c.code = code) (hr : meth.sig.returnType = ret) (hlocks : meth.locks = false) {pc : Nat} {H : Heap} {ls : Array Slot} (hdg : decode code pc = .ok (.ireturn, 1)) : W p l e room_1 s m #[Value.ref b] below meth c H [] 600000 7302250 (lw_Z below #[Value.ref b] s) (F0 m pc ls [.int 1]) := by
  intro T hT X
  obtain ⟨fs, hret, hrun, hended, hW, hframe⟩ := X.leave (v := some (.int 1)) (hlocks := hlocks) (fun h => by rw [hr] at h; cases h)
  have hmeth' : T.vm.method? m = some meth := X.method'
  refine ⟨T.setFrames fs, ?_, .returned (some (.int 1)), hrun, hended, rfl, ⟨_, rfl⟩, hW, hframe⟩
  jvm_step X.here [X.here.top, hx, hb, hdg, hmeth', hr, ret, narrow_b1]
  (try refine ⟨rfl, ?_⟩); (try refine ⟨rfl, ?_⟩)
  first | (intro acts; rw [hret _ acts rfl rfl rfl]) | rw [hret _ _ rfl rfl rfl]
  exact Steps.refl _
/-- what holds at the law's entry: the machine, the code, the tables' words (any of lw_tbl by 'hts w (by decide +kernel)'), the script of L ints xs at the cell b, what the Statement gives of the start (any of its parts by flat_of_before) -/
def lw_At (p : Program) (s : State) (m : MethodId) (meth : Method) (c : Code) (b L : Nat) (xs : Nat → Int32) : Prop :=
  p.tables.exec = Jvm.exec ∧ c.code = code ∧ meth.sig.returnType = ret ∧ c.maxLocals = 4 ∧ s.vm.findClass R_law = some m.cls ∧ (∀ w ∈ lw_tbl, w.before #[Value.ref b] s = true) ∧ va_X b L xs s s.heap ∧ b < s.heap.size ∧ meth.locks = false ∧ (Jvm.Cond.and given_1 narrow_1).before #[Value.ref b] s = true
/-! ===== the law's walk out of a run of the pure machine ===== -/
def q_w0 : q_M := ([], fun _ _ => 0, fun _ _ => none, fun _ => 0)
/-- the law's start in the pure machine -/
def q_l0 : q_S := (151, 0, [.float 2, .null, .null, .null], [], q_w0)
theorem q_arrT {args : Array Value} {s : State} {ty : FieldType} (h : (Jvm.Cond.arrayClass ty).before args s = true) : ∃ cA : ClassId, ArrOfT s cA ty ∧ s.vm.findClass ("[" ++ ty.toString) = some cA := by
  obtain ⟨cA, kA, comp, hfind, hk, hkind⟩ := Cond.arrayClass_spec h
  exact ⟨cA, fun n z => ⟨(fun k h => by cases h), kA, hk, comp, hkind⟩, hfind⟩
theorem q_marks : ∀ j, j < 16 → Jvm.Cond.eq (.elem (.static RX3 "MARKS" "[I") (.int (Int32.ofNat j))) (.int (q_x0 j)) ∈ flatC (Jvm.Cond.and given_1 narrow_1) := by decide +kernel
theorem q_ones : ∀ j, j < 31 → Jvm.Cond.eq (.elem (.static RX3 "ONE_BY" "[I") (.int (Int32.ofNat j))) (.int (q_x1 j)) ∈ flatC (Jvm.Cond.and given_1 narrow_1) := by decide +kernel
theorem q_inst0 : (List.range 9).all (fun ci => decide (Jvm.Cond.instantiable (q_cn ci) (q_ft ci).length ∈ lw_tbl)) = true := by decide +kernel
set_option maxHeartbeats 4000000 in
theorem q_start {p : Program} {e : Env} {s : State} {m : MethodId} {below : List Frame} {meth : Method} {c : Code} (l : Launch) {b L : Nat} {xs : Nat → Int32} (C0 : lw_At p s m meth c b L xs) {n : Nat} {w' : q_M} (hrun : q_run (L, xs) n q_l0 = some (some (.int 1), w')) (h1 : w'.1.length ≤ 600000) (h2 : q_sl w'.1 ≤ 7302250) : W p l e room_1 s m #[Value.ref b] below meth c s.heap [] 0 0 (lw_Z below #[Value.ref b] s) (entryFrame m ([Value.ref b] : List Value).toArray 4) := by
  obtain ⟨hx, hb, hr, hml, hown, hts, hX, hbl, hlocks, hgv⟩ := id C0
  have hs := flat_of_before _ hgv
  have hA : ∀ a : Nat, a < s.heap.size → ¬ q_A s.heap.size a := fun a ha h => absurd h (Nat.not_le.mpr ha)
  -- the two tables
  obtain ⟨tM, ht1, ht2⟩ := va_Tof (tm := .static RX3 "MARKS" "[I") (ty := .int) (N := 16) (f := fun j => .int (q_x0 j)) (A := q_A s.heap.size) (by decide) (hs _ (by decide +kernel)) (va_eqt (hs _ (show Jvm.Cond.eq (.length (.static RX3 "MARKS" "[I")) (.int 16) ∈ _ by decide +kernel))) (fun j hj => va_eqt (hs _ (q_marks j hj))) hA
  obtain ⟨tO, ho1, ho2⟩ := va_Tof (tm := .static RX3 "ONE_BY" "[I") (ty := .int) (N := 31) (f := fun j => .int (q_x1 j)) (A := q_A s.heap.size) (by decide) (hs _ (by decide +kernel)) (va_eqt (hs _ (show Jvm.Cond.eq (.length (.static RX3 "ONE_BY" "[I")) (.int 31) ∈ _ by decide +kernel))) (fun j hj => va_eqt (hs _ (q_ones j hj))) hA
  have hz1 := va_Zref (A := q_A s.heap.size) (hts (.laysStatic RX3 "MARKS" "[I") (by decide +kernel)) (hts (.initialized RX3) (by decide +kernel)) ht1 hA
  have hz2 := va_Zref (A := q_A s.heap.size) (hts (.laysStatic RX3 "ONE_BY" "[I") (by decide +kernel)) (hts (.initialized RX3) (by decide +kernel)) ho1 hA
  have hscr : va_T .int b L (fun j => .int (xs j)) (q_A s.heap.size) s s.heap := by
    obtain ⟨scr, g1, g2, g3, g4, g5⟩ := hX
    exact ⟨scr, g1, g2, g3, by omega, by rw [g4] <;> rfl, g5, hA b hbl⟩
  -- the classes
  obtain ⟨cI, hI1, hI2⟩ := q_arrT (hts (.arrayClass .int) q_ac_I)
  obtain ⟨cZ, hZ1, hZ2⟩ := q_arrT (hts (.arrayClass .boolean) q_ac_Z)
  have hAO : va_AO RX0 s := va_AO.of (hts (.arrayOver (.object RX0)) (by decide +kernel))
  obtain ⟨comp, cD, kD, hD1, hD2, hD3, hD4, hD5⟩ := Cond.arrayOver_spec hAO
  have hkn : ∀ ci : Nat, ∃ (cC : ClassId) (iS : Nat → Nat), ci < 9 → u_Kn s (q_cn ci) (q_T ci) (q_ft ci).length cC iS := by
    intro ci
    by_cases hci : ci < 9
    · obtain ⟨cC, iS, h⟩ := u_known (C := q_cn ci) (T := q_T ci) (N := (q_ft ci).length) (n := (q_ft ci).length) hts (fun w hw => (List.mem_filter.mp (q_hin hci w hw)).1) (hts _ (of_decide_eq_true (List.all_eq_true.mp q_inst0 ci (List.mem_range.mpr hci))))
      exact ⟨cC, iS, fun _ => h⟩
    · exact ⟨0, fun _ => 0, fun h => absurd h hci⟩
  have hK : va_K (fun ci => (hkn ci).choose, fun ci => (hkn ci).choose_spec.choose) vwCl (q_tys cI cZ cD) s := by
    refine ⟨fun ci q hq => ?_, fun k q hq => ?_⟩
    · have hci : ci < 9 := (List.getElem?_eq_some_iff.mp hq).1
      rw [q_vw hci] at hq
      cases hq
      exact (hkn ci).choose_spec.choose_spec hci
    · match k, hq with
      | 0, hq => cases hq; exact ⟨hI1, hI2⟩
      | 1, hq => cases hq; exact ⟨hZ1, hZ2⟩
      | 2, hq => cases hq; exact ⟨fun n z => ⟨(fun k h => by cases h), kD, hD3, comp, hD4⟩, kD, comp, hD3, hD4, hD1, hD5⟩
      | k + 3, hq => simp [q_tys] at hq
  have C : q_Cx p room_1 s m #[Value.ref b] meth c (fun ci => (hkn ci).choose, fun ci => (hkn ci).choose_spec.choose) cI cZ cD s.heap.size (fun k => if k = 0 then tM else if k = 1 then tO else b) (L, xs) 151 0 0 600000 7302250 := by
    refine ⟨hx, hb, hml, hown, fun w hw => hts w (List.mem_filter.mp hw).1, ⟨hAO, fun o k y h hm => va_Nw.of rfl (hts _ hm)⟩, fun h => absurd h (by decide +kernel), hK, ⟨⟨hz1, ht2⟩, ⟨hz2, ho2⟩, fun u h0 h1 => ?_⟩, rfl, rfl, rfl, rfl, rfl⟩
    have hu0 : ¬ u.toNat = 0 := fun z => h0 (UInt32.toNat_inj.mp z)
    have hu1 : ¬ u.toNat = 1 := fun z => h1 (UInt32.toNat_inj.mp z)
    dsimp only
    rw [if_neg hu0, if_neg hu1]
    exact hscr
  rw [lg_entry_eq]
  have hl := lv_entry ([.ref b]) (n := 4) (Nat.le_of_ble_eq_true rfl)
  generalize (lg_sl ([.ref b]) ++ List.replicate (4 - (lg_sl ([.ref b])).length) Slot.unset).toArray = ls at hl ⊢
  have hLo : q_Lo s.heap.size (fun k => if k = 0 then tM else if k = 1 then tO else b) 151 [.float 2, .null, .null, .null] ls := by
    refine ⟨rfl, hl.1, hl.2.1, fun k v hk hv => ?_, fun k v hk hv => ?_⟩
    rotate_left
    · match k, hk with
      | 0, hk => cases hk; simp [Value.category] at hv
      | 1, hk => cases hk; simp [Value.category] at hv
      | 2, hk => cases hk; simp [Value.category] at hv
      | 3, hk => cases hk; simp [Value.category] at hv
      | k + 4, hk => cases hk
    match k, hk with
    | 0, hk => cases hk; exact hl.2.2 _ List.mem_cons_self
    | 1, hk => cases hk; exact absurd rfl hv
    | 2, hk => cases hk; exact absurd rfl hv
    | 3, hk => cases hk; exact absurd rfl hv
    | k + 4, hk => cases hk
  refine q_main l n q_l0 (some (.int 1)) w' C hrun h1 h2 ?_ s.heap [] 0 0 ls hLo (fun k q h => by cases h) va_S.rf rfl rfl
  intro pc i H locs cells slots ls2 hd hcase hP2 hS2 hc2 hs2
  have hi : i = .ireturn := by
    rcases hcase with ⟨h0, -, hh⟩ | ⟨h0, -⟩ | ⟨h0, -⟩
    · cases hh
    · exact h0
    · exact absurd h0 (by decide +kernel)
  subst hi
  refine va_forget (fun q hq => hS2.2.2 q hq) ?_
  refine W.widen (k := 600000) (n := 7302250) (by omega) (by omega) ?_
  exact lw_ret hx hb hr hlocks hd
end
section
/-! ===== the pure machine behind the constructors: 86 cells ===== -/
def k_st : q_K := [(7, 0), (4, 0), (9, 160), (5, 0), (9, 16), (9, 16), (9, 12), (9, 4), (5, 0), (9, 16), (9, 16), (9, 12), (9, 4), (0, 0), (9, 16), (9, 16), (9, 16), (9, 12), (1, 0), (11, 6), (0, 0), (9, 16), (9, 16), (9, 16), (9, 12), (0, 0), (9, 16), (9, 16), (9, 16), (9, 12), (0, 0), (9, 16), (9, 16), (9, 16), (9, 12), (0, 0), (9, 16), (9, 16), (9, 16), (9, 12), (0, 0), (9, 16), (9, 16), (9, 16), (9, 12), (0, 0), (9, 16), (9, 16), (9, 16), (9, 12), (3, 0), (9, 4), (9, 4), (9, 20), (2, 0), (9, 3), (9, 12), (6, 0), (9, 8), (10, 8), (11, 2), (9, 4), (0, 0), (9, 16), (9, 16), (9, 16), (9, 12), (0, 0), (9, 16), (9, 16), (9, 16), (9, 12), (8, 0), (9, 49), (9, 49), (9, 61), (9, 366), (9, 122), (10, 2), (9, 12), (9, 12), (9, 32), (9, 8), (9, 8), (9, 8), (9, 160)]
def p_tab : List (List (Option Nat)) := [[some 1, some 3, some 8, some 13, some 18, some 50, some 54, some 57, some 60, none, some 61], [some 2], [], [some 4, some 5, some 6, some 7], [], [], [], [], [some 9, some 10, some 11, some 12], [], [], [], [], [none, some 14, some 15, some 16, some 17], [], [], [], [], [some 19], [some 20, some 25, some 30, some 35, some 40, some 45], [none, some 21, some 22, some 23, some 24], [], [], [], [], [none, some 26, some 27, some 28, some 29], [], [], [], [], [none, some 31, some 32, some 33, some 34], [], [], [], [], [none, some 36, some 37, some 38, some 39], [], [], [], [], [none, some 41, some 42, some 43, some 44], [], [], [], [], [none, some 46, some 47, some 48, some 49], [], [], [], [], [some 51, some 52, some 53], [], [], [], [some 55, some 56], [], [], [some 58, some 59], [], [], [some 62, some 67], [], [none, some 63, some 64, some 65, some 66], [], [], [], [], [none, some 68, some 69, some 70, some 71], [], [], [], [], [some 73, some 74, some 75, some 76, none, some 77, some 78, some 79, some 80, some 81, none, some 82, some 83, some 84, some 85], [], [], [], [], [], [], [], [], [], [], [], [], []]
/-- the references: t is told, u toldNext -/
def p_st (t u a i : Nat) : Option Nat := if a = 0 ∧ i = 1 then some t else if a = 0 ∧ i = 2 then some u else (p_tab.getD a []).getD i none
def q_w (t u : Nat) (F : Nat → Nat → Int32) (J : Nat → Int64) : q_M := (k_st, F, p_st t u, J)
/-- Done objects, Told objects -/
def q_isD (a : Nat) : Bool := ([13, 20, 25, 30, 35, 40, 45, 62, 67] : List Nat).contains a
def q_isT (a : Nat) : Bool := ([3, 8] : List Nat).contains a
/-- the length of an int array, of a boolean array -/
def k_l9 (a : Nat) : Nat := match k_st[a]? with
  | some (9, n) => n
  | _ => 0
def k_l10 (a : Nat) : Nat := match k_st[a]? with
  | some (10, n) => n
  | _ => 0
theorem k_9 {a i : Nat} (h : i < k_l9 a) : ∃ n, k_st[a]? = some (9, n) ∧ i < n := by
  unfold k_l9 at h
  split at h
  · rename_i n hn
    exact ⟨n, hn, h⟩
  · omega
theorem k_10 {a i : Nat} (h : i < k_l10 a) : ∃ n, k_st[a]? = some (10, n) ∧ i < n := by
  unfold k_l10 at h
  split at h
  · rename_i n hn
    exact ⟨n, hn, h⟩
  · omega
theorem k_small {a k n : Nat} (h : k_st[a]? = some (k, n)) : n ≤ 366 := by
  have h1 : k_st.all (fun x => decide (x.2 ≤ 366)) = true := by decide +kernel
  exact of_decide_eq_true (List.all_eq_true.mp h1 _ (List.mem_of_getElem? h))
theorem q_inb_nI {i n : Nat} (h : i < n) (hn : n ≤ 100000) : q_inb (nI i) n = true := by
  unfold q_inb
  simp only [Bool.and_eq_true, decide_eq_true_eq]
  exact ⟨nI_pos (by omega), by rw [nI_clamp (by omega)]; exact h⟩
theorem isD_cases {a : Nat} (h : q_isD a = true) : a = 13 ∨ a = 20 ∨ a = 25 ∨ a = 30 ∨ a = 35 ∨ a = 40 ∨ a = 45 ∨ a = 62 ∨ a = 67 := by
  simpa [q_isD] using h
theorem isT_cases {a : Nat} (h : q_isT a = true) : a = 3 ∨ a = 8 := by
  simpa [q_isT] using h
section GX
variable {X : Nat × (Nat → Int32)} {M pc n g t u : Nat} {pl : List Nat} {L S : List Value} {w : q_M} {F : Nat → Nat → Int32} {J : Nat → Int64}
theorem g_nxt {i : Instr} (hat : q_at M pc = some (i, n, g, pl)) : q_nxt X (M, pc, L, S, w) = q_ins X M pc L S w i n g pl := by
  unfold q_nxt
  dsimp only
  rw [hat]
theorem g_go {i : Instr} {σ : q_S} (hat : q_at M pc = some (i, n, g, pl)) (h : q_ins X M pc L S w i n g pl = some (.inr (.inl σ))) : q_ex X (M, pc, L, S, w) = q_ex X σ := q_ex_go ((g_nxt hat).trans h)
theorem g_c1 {i : Instr} {x : Int32} {P : Int32 → Prop} (dP : ∀ x, Decidable (P x)) (hat : q_at M pc = some (i, n, g, pl)) (h : q_ins X M pc L (.int x :: S) w i n g pl = q_c1 M (pc + n) g L (.int x :: S) w (fun x => decide (P x))) : q_ex X (M, pc, L, .int x :: S, w) = if P x then q_ex X (M, g, L, S, w) else q_ex X (M, pc + n, L, S, w) := by
  unfold q_c1 at h
  dsimp only at h
  by_cases hp : P x
  · rw [if_pos hp]
    rw [if_pos (by simpa using hp)] at h
    exact q_ex_go ((g_nxt hat).trans h)
  · rw [if_neg hp]
    rw [if_neg (by simpa using hp)] at h
    exact q_ex_go ((g_nxt hat).trans h)
theorem g_c2 {i : Instr} {x y : Int32} {P : Int32 → Int32 → Prop} (dP : ∀ x y, Decidable (P x y)) (hat : q_at M pc = some (i, n, g, pl)) (h : q_ins X M pc L (.int y :: .int x :: S) w i n g pl = q_c2 M (pc + n) g L (.int y :: .int x :: S) w (fun x y => decide (P x y))) : q_ex X (M, pc, L, .int y :: .int x :: S, w) = if P x y then q_ex X (M, g, L, S, w) else q_ex X (M, pc + n, L, S, w) := by
  unfold q_c2 at h
  dsimp only at h
  by_cases hp : P x y
  · rw [if_pos hp]
    rw [if_pos (by simpa using hp)] at h
    exact q_ex_go ((g_nxt hat).trans h)
  · rw [if_neg hp]
    rw [if_neg (by simpa using hp)] at h
    exact q_ex_go ((g_nxt hat).trans h)
theorem g_idiv {x y : Int32} (hat : q_at M pc = some (.idiv, n, g, pl)) (hy : ¬ y = 0) : q_ex X (M, pc, L, .int y :: .int x :: S, w) = q_ex X (M, pc + n, L, .int (x / y) :: S, w) := by
  refine g_go hat ?_
  show (if y = 0 then none else _) = _
  rw [if_neg hy]
  rfl
theorem g_irem {x y : Int32} (hat : q_at M pc = some (.irem, n, g, pl)) (hy : ¬ y = 0) : q_ex X (M, pc, L, .int y :: .int x :: S, w) = q_ex X (M, pc + n, L, .int (x - x / y * y) :: S, w) := by
  refine g_go hat ?_
  show (if y = 0 then none else _) = _
  rw [if_neg hy]
  rfl
theorem g_iaload {a i : Nat} (hat : q_at M pc = some (.iaload, n, g, pl)) (hi : i < k_l9 a) : q_ex X (M, pc, L, .int (nI i) :: .ref a :: S, q_w t u F J) = q_ex X (M, pc + n, L, .int (F a i) :: S, q_w t u F J) := by
  obtain ⟨m, h1, h2⟩ := k_9 hi
  have h3 := k_small h1
  refine g_go hat ?_
  show q_ald X M (pc + n) L (.int (nI i) :: .ref a :: S) (q_w t u F J) 9 = _
  unfold q_ald q_w
  dsimp only
  rw [h1]
  dsimp only
  rw [if_pos ⟨rfl, q_inb_nI h2 (by omega)⟩, nI_clamp (by omega)]
  rfl
theorem g_baload {a i : Nat} (hat : q_at M pc = some (.baload, n, g, pl)) (hi : i < k_l10 a) : q_ex X (M, pc, L, .int (nI i) :: .ref a :: S, q_w t u F J) = q_ex X (M, pc + n, L, .int (F a i) :: S, q_w t u F J) := by
  obtain ⟨m, h1, h2⟩ := k_10 hi
  have h3 := k_small h1
  refine g_go hat ?_
  show q_ald X M (pc + n) L (.int (nI i) :: .ref a :: S) (q_w t u F J) 10 = _
  unfold q_ald q_w
  dsimp only
  rw [h1]
  dsimp only
  rw [if_pos ⟨rfl, q_inb_nI h2 (by omega)⟩, nI_clamp (by omega)]
  rfl
theorem g_iastore {a i : Nat} {v : Int32} (hat : q_at M pc = some (.iastore, n, g, pl)) (hi : i < k_l9 a) : q_ex X (M, pc, L, .int v :: .int (nI i) :: .ref a :: S, q_w t u F J) = q_ex X (M, pc + n, L, S, q_w t u (q_up F a i v) J) := by
  obtain ⟨m, h1, h2⟩ := k_9 hi
  have h3 := k_small h1
  refine g_go hat ?_
  show q_ast M (pc + n) L (.int v :: .int (nI i) :: .ref a :: S) (q_w t u F J) 9 = _
  unfold q_ast q_w
  dsimp only
  rw [h1]
  dsimp only
  rw [if_pos ⟨rfl, q_inb_nI h2 (by omega), Or.inl rfl⟩, nI_clamp (by omega)]
  rfl
theorem g_bastore {a i : Nat} {v : Int32} (hat : q_at M pc = some (.bastore, n, g, pl)) (hi : i < k_l10 a) (hv : v = nI 0 ∨ v = nI 1) : q_ex X (M, pc, L, .int v :: .int (nI i) :: .ref a :: S, q_w t u F J) = q_ex X (M, pc + n, L, S, q_w t u (q_up F a i v) J) := by
  obtain ⟨m, h1, h2⟩ := k_10 hi
  have h3 := k_small h1
  refine g_go hat ?_
  show q_ast M (pc + n) L (.int v :: .int (nI i) :: .ref a :: S) (q_w t u F J) 10 = _
  unfold q_ast q_w
  dsimp only
  rw [h1]
  dsimp only
  rw [if_pos ⟨rfl, q_inb_nI h2 (by omega), Or.inr hv⟩, nI_clamp (by omega)]
  rfl
theorem g_xld {i : Nat} {v : UInt32} (hat : q_at M pc = some (.iaload, n, g, pl)) (hi : i < (q_xt X v).1) (hX : (q_xt X v).1 ≤ 100000) : q_ex X (M, pc, L, .int (nI i) :: .float v :: S, w) = q_ex X (M, pc + n, L, .int ((q_xt X v).2 i) :: S, w) := by
  refine g_go hat ?_
  show q_ald X M (pc + n) L (.int (nI i) :: .float v :: S) w 9 = _
  unfold q_ald
  dsimp only
  rw [if_pos ⟨rfl, q_inb_nI hi hX⟩, nI_clamp (by omega)]
  rfl
theorem g_ret {x : Int32} (hat : q_at M pc = some (.ireturn, n, g, pl)) (h : q_rt M = 1) : q_ex X (M, pc, L, [.int x], w) = some (some (.int x), w) := by
  refine q_ex_ret ((g_nxt hat).trans ?_)
  show q_ret1 [.int x] w (q_rt M) = _
  unfold q_ret1
  dsimp only
  rw [if_pos (Or.inl h)]
theorem g_retZ {x : Int32} (hat : q_at M pc = some (.ireturn, n, g, pl)) (h : q_rt M = 2) (hx : x = nI 0 ∨ x = nI 1) : q_ex X (M, pc, L, [.int x], w) = some (some (.int x), w) := by
  refine q_ex_ret ((g_nxt hat).trans ?_)
  show q_ret1 [.int x] w (q_rt M) = _
  unfold q_ret1
  dsimp only
  rw [if_pos (Or.inr ⟨h, hx⟩)]
theorem g_gfD {a k : Nat} (hat : q_at M pc = some (.getfield n, 3, g, pl)) (hg : g / 32 = 0) (hk : g % 32 = k) (h : q_isD a = true) (hk2 : k = 1 ∨ k = 2 ∨ k = 3 ∨ k = 4) : q_ex X (M, pc, L, .ref a :: S, q_w t u F J) = q_ex X (M, pc + 3, L, .ref (a + k) :: S, q_w t u F J) := by
  refine g_go hat ?_
  show q_gf M (pc + 3) L (.ref a :: S) (q_w t u F J) (g / 32) (g % 32) = _
  rw [hg, hk]
  rcases isD_cases h with rfl | rfl | rfl | rfl | rfl | rfl | rfl | rfl | rfl <;> rcases hk2 with rfl | rfl | rfl | rfl <;> rfl
theorem g_gfDon {a : Nat} (hat : q_at M pc = some (.getfield n, 3, g, pl)) (hg : g = 0) (h : q_isD a = true) : q_ex X (M, pc, L, .ref a :: S, q_w t u F J) = q_ex X (M, pc + 3, L, .int (F a 0) :: S, q_w t u F J) := by
  subst hg
  refine g_go hat ?_
  show q_gf M (pc + 3) L (.ref a :: S) (q_w t u F J) 0 0 = _
  rcases isD_cases h with rfl | rfl | rfl | rfl | rfl | rfl | rfl | rfl | rfl <;> rfl
theorem g_pfDon {a : Nat} {x : Int32} (hat : q_at M pc = some (.putfield n, 3, g, pl)) (hg : g = 0) (h : q_isD a = true) : q_ex X (M, pc, L, .int x :: .ref a :: S, q_w t u F J) = q_ex X (M, pc + 3, L, S, q_w t u (q_up F a 0 x) J) := by
  subst hg
  refine g_go hat ?_
  show q_pf M (pc + 3) L (.int x :: .ref a :: S) (q_w t u F J) 0 0 = _
  rcases isD_cases h with rfl | rfl | rfl | rfl | rfl | rfl | rfl | rfl | rfl <;> rfl
theorem g_gfT {a k : Nat} (hat : q_at M pc = some (.getfield n, 3, g, pl)) (hg : g / 32 = 5) (hk : g % 32 = k) (h : q_isT a = true) (hk2 : k = 0 ∨ k = 1 ∨ k = 2 ∨ k = 3) : q_ex X (M, pc, L, .ref a :: S, q_w t u F J) = q_ex X (M, pc + 3, L, .ref (a + 1 + k) :: S, q_w t u F J) := by
  refine g_go hat ?_
  show q_gf M (pc + 3) L (.ref a :: S) (q_w t u F J) (g / 32) (g % 32) = _
  rw [hg, hk]
  rcases isT_cases h with rfl | rfl <;> rcases hk2 with rfl | rfl | rfl | rfl <;> rfl
theorem g_gfTm {a : Nat} (hat : q_at M pc = some (.getfield n, 3, g, pl)) (hg : g = 164) (h : q_isT a = true) : q_ex X (M, pc, L, .ref a :: S, q_w t u F J) = q_ex X (M, pc + 3, L, .int (F a 4) :: S, q_w t u F J) := by
  subst hg
  refine g_go hat ?_
  show q_gf M (pc + 3) L (.ref a :: S) (q_w t u F J) 5 4 = _
  rcases isT_cases h with rfl | rfl <;> rfl
theorem g_pfTm {a : Nat} {x : Int32} (hat : q_at M pc = some (.putfield n, 3, g, pl)) (hg : g = 164) (h : q_isT a = true) : q_ex X (M, pc, L, .int x :: .ref a :: S, q_w t u F J) = q_ex X (M, pc + 3, L, S, q_w t u (q_up F a 4 x) J) := by
  subst hg
  refine g_go hat ?_
  show q_pf M (pc + 3) L (.int x :: .ref a :: S) (q_w t u F J) 5 4 = _
  rcases isT_cases h with rfl | rfl <;> rfl
theorem g_aald19 {i : Nat} (hat : q_at M pc = some (.aaload, n, g, pl)) (hi : i < 6) : q_ex X (M, pc, L, .int (nI i) :: .ref 19 :: S, q_w t u F J) = q_ex X (M, pc + n, L, .ref (20 + 5 * i) :: S, q_w t u F J) := by
  refine g_go hat ?_
  rcases (show i = 0 ∨ i = 1 ∨ i = 2 ∨ i = 3 ∨ i = 4 ∨ i = 5 by omega) with rfl | rfl | rfl | rfl | rfl | rfl <;> rfl
theorem g_aald60 {i : Nat} (hat : q_at M pc = some (.aaload, n, g, pl)) (hi : i < 2) : q_ex X (M, pc, L, .int (nI i) :: .ref 60 :: S, q_w t u F J) = q_ex X (M, pc + n, L, .ref (62 + 5 * i) :: S, q_w t u F J) := by
  refine g_go hat ?_
  rcases (show i = 0 ∨ i = 1 by omega) with rfl | rfl <;> rfl
theorem g_call {i : Instr} {σc : q_S} {M' pc' : Nat} {L' S' : List Value} (hat : q_at M pc = some (i, n, g, pl)) (h : q_ins X M pc L S w i n g pl = some (.inr (.inr (σc, M', pc', L', S')))) : q_ex X (M, pc, L, S, w) = (q_ex X σc).bind (fun r => q_ex X (M', pc', L', r.1.toList ++ S', r.2)) := q_ex_call ((g_nxt hat).trans h)
end GX
/-- joins -/
theorem q_ite {X : Nat × (Nat → Int32)} {c : Prop} [Decidable c] {M pc : Nat} {L1 L2 S1 S2 : List Value} {w1 w2 : q_M} : (if c then q_ex X (M, pc, L1, S1, w1) else q_ex X (M, pc, L2, S2, w2)) = q_ex X (M, pc, if c then L1 else L2, if c then S1 else S2, if c then w1 else w2) := by
  by_cases h : c
  · simp only [if_pos h]
  · simp only [if_neg h]
theorem q_ite_l {c : Prop} [Decidable c] {a b : Value} {l m : List Value} : (if c then a :: l else b :: m) = (if c then a else b) :: (if c then l else m) := by
  by_cases h : c
  · simp only [if_pos h]
  · simp only [if_neg h]
theorem q_ite_i {c : Prop} [Decidable c] {a b : Int32} : (if c then Value.int a else Value.int b) = Value.int (if c then a else b) := by
  by_cases h : c
  · simp only [if_pos h]
  · simp only [if_neg h]
theorem q_ite_w {c : Prop} [Decidable c] {t u : Nat} {F G : Nat → Nat → Int32} {J I : Nat → Int64} : (if c then q_w t u F J else q_w t u G I) = q_w t u (if c then F else G) (if c then J else I) := by
  by_cases h : c
  · simp only [if_pos h]
  · simp only [if_neg h]
theorem q_ite_s {c : Prop} [Decidable c] {r r' : Option Value} {w w' : q_M} : (if c then some (r, w) else some (r', w')) = some (if c then r else r', if c then w else w') := by
  by_cases h : c
  · simp only [if_pos h]
  · simp only [if_neg h]
theorem q_ite_v {c : Prop} [Decidable c] {a b : Value} : (if c then some a else some b) = some (if c then a else b) := by
  by_cases h : c
  · simp only [if_pos h]
  · simp only [if_neg h]
/-- a loop that goes on step by step -/
theorem q_iter {X : Nat × (Nat → Int32)} {δ : Type} (st : Nat → δ → q_S) (N : Nat) (h : ∀ k, k < N → ∀ d, ∃ d', q_ex X (st k d) = q_ex X (st (k + 1) d')) (d : δ) : ∃ d', q_ex X (st 0 d) = q_ex X (st N d') := by
  induction N with
  | zero => exact ⟨d, rfl⟩
  | succ N ih =>
    obtain ⟨d1, h1⟩ := ih (fun k hk d => h k (by omega) d)
    obtain ⟨d2, h2⟩ := h N (by omega) d1
    exact ⟨d2, h1.trans h2⟩
theorem l9_2 : k_l9 2 = 160 := rfl
theorem l9_4 : k_l9 4 = 16 := rfl
theorem l9_5 : k_l9 5 = 16 := rfl
theorem l9_6 : k_l9 6 = 12 := rfl
theorem l9_7 : k_l9 7 = 4 := rfl
theorem l9_9 : k_l9 9 = 16 := rfl
theorem l9_10 : k_l9 10 = 16 := rfl
theorem l9_11 : k_l9 11 = 12 := rfl
theorem l9_12 : k_l9 12 = 4 := rfl
theorem l9_14 : k_l9 14 = 16 := rfl
theorem l9_15 : k_l9 15 = 16 := rfl
theorem l9_16 : k_l9 16 = 16 := rfl
theorem l9_17 : k_l9 17 = 12 := rfl
theorem l9_21 : k_l9 21 = 16 := rfl
theorem l9_22 : k_l9 22 = 16 := rfl
theorem l9_23 : k_l9 23 = 16 := rfl
theorem l9_24 : k_l9 24 = 12 := rfl
theorem l9_26 : k_l9 26 = 16 := rfl
theorem l9_27 : k_l9 27 = 16 := rfl
theorem l9_28 : k_l9 28 = 16 := rfl
theorem l9_29 : k_l9 29 = 12 := rfl
theorem l9_31 : k_l9 31 = 16 := rfl
theorem l9_32 : k_l9 32 = 16 := rfl
theorem l9_33 : k_l9 33 = 16 := rfl
theorem l9_34 : k_l9 34 = 12 := rfl
theorem l9_36 : k_l9 36 = 16 := rfl
theorem l9_37 : k_l9 37 = 16 := rfl
theorem l9_38 : k_l9 38 = 16 := rfl
theorem l9_39 : k_l9 39 = 12 := rfl
theorem l9_41 : k_l9 41 = 16 := rfl
theorem l9_42 : k_l9 42 = 16 := rfl
theorem l9_43 : k_l9 43 = 16 := rfl
theorem l9_44 : k_l9 44 = 12 := rfl
theorem l9_46 : k_l9 46 = 16 := rfl
theorem l9_47 : k_l9 47 = 16 := rfl
theorem l9_48 : k_l9 48 = 16 := rfl
theorem l9_49 : k_l9 49 = 12 := rfl
theorem l9_51 : k_l9 51 = 4 := rfl
theorem l9_52 : k_l9 52 = 4 := rfl
theorem l9_53 : k_l9 53 = 20 := rfl
theorem l9_55 : k_l9 55 = 3 := rfl
theorem l9_56 : k_l9 56 = 12 := rfl
theorem l9_58 : k_l9 58 = 8 := rfl
theorem l10_59 : k_l10 59 = 8 := rfl
theorem l9_61 : k_l9 61 = 4 := rfl
theorem l9_63 : k_l9 63 = 16 := rfl
theorem l9_64 : k_l9 64 = 16 := rfl
theorem l9_65 : k_l9 65 = 16 := rfl
theorem l9_66 : k_l9 66 = 12 := rfl
theorem l9_68 : k_l9 68 = 16 := rfl
theorem l9_69 : k_l9 69 = 16 := rfl
theorem l9_70 : k_l9 70 = 16 := rfl
theorem l9_71 : k_l9 71 = 12 := rfl
theorem l9_73 : k_l9 73 = 49 := rfl
theorem l9_74 : k_l9 74 = 49 := rfl
theorem l9_75 : k_l9 75 = 61 := rfl
theorem l9_76 : k_l9 76 = 366 := rfl
theorem l9_77 : k_l9 77 = 122 := rfl
theorem l10_78 : k_l10 78 = 2 := rfl
theorem l9_79 : k_l9 79 = 12 := rfl
theorem l9_80 : k_l9 80 = 12 := rfl
theorem l9_81 : k_l9 81 = 32 := rfl
theorem l9_82 : k_l9 82 = 8 := rfl
theorem l9_83 : k_l9 83 = 8 := rfl
theorem l9_84 : k_l9 84 = 8 := rfl
theorem l9_85 : k_l9 85 = 160 := rfl
theorem l9_D1 {d : Nat} (h : q_isD d = true) : k_l9 (d + 1) = 16 := by rcases isD_cases h with rfl | rfl | rfl | rfl | rfl | rfl | rfl | rfl | rfl <;> rfl
theorem l9_D2 {d : Nat} (h : q_isD d = true) : k_l9 (d + 2) = 16 := by rcases isD_cases h with rfl | rfl | rfl | rfl | rfl | rfl | rfl | rfl | rfl <;> rfl
theorem l9_D3 {d : Nat} (h : q_isD d = true) : k_l9 (d + 3) = 16 := by rcases isD_cases h with rfl | rfl | rfl | rfl | rfl | rfl | rfl | rfl | rfl <;> rfl
theorem l9_D4 {d : Nat} (h : q_isD d = true) : k_l9 (d + 4) = 12 := by rcases isD_cases h with rfl | rfl | rfl | rfl | rfl | rfl | rfl | rfl | rfl <;> rfl
theorem l9_T1 {d : Nat} (h : q_isT d = true) : k_l9 (d + 1) = 16 := by rcases isT_cases h with rfl | rfl <;> rfl
theorem l9_T2 {d : Nat} (h : q_isT d = true) : k_l9 (d + 2) = 16 := by rcases isT_cases h with rfl | rfl <;> rfl
theorem l9_T3 {d : Nat} (h : q_isT d = true) : k_l9 (d + 3) = 12 := by rcases isT_cases h with rfl | rfl <;> rfl
theorem l9_T4 {d : Nat} (h : q_isT d = true) : k_l9 (d + 4) = 4 := by rcases isT_cases h with rfl | rfl <;> rfl
theorem isD_13 : q_isD 13 = true := rfl
theorem isD_20 : q_isD 20 = true := rfl
theorem isD_25 : q_isD 25 = true := rfl
theorem isD_30 : q_isD 30 = true := rfl
theorem isD_35 : q_isD 35 = true := rfl
theorem isD_40 : q_isD 40 = true := rfl
theorem isD_45 : q_isD 45 = true := rfl
theorem isD_62 : q_isD 62 = true := rfl
theorem isD_67 : q_isD 67 = true := rfl
end
