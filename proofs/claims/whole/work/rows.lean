section
-- ===== PART A: goes FIRST, ahead of the names: the tables' words, and 'selects' of the private methods out of them =====
/-- a private method of a class that the tables say can be made, by its rows of tables_1 -/
def lw_okq (q : MethodName × Nat) : Prop := (q.1.cls ≠ "java/lang/invoke/MethodHandle" ∧ q.1.cls ≠ "java/lang/invoke/VarHandle") ∧ Cond.instantiable q.1.cls q.2 ∈ tables_1 ∧ Cond.privateMethod q.1 ∈ tables_1 ∧ Cond.instanceMethod q.1 ∈ tables_1
theorem lw_p0 : lw_okq (⟨"ThumpEars", "flag", "([ZIIZ)I"⟩, 7) := ⟨⟨by decide +kernel, by decide +kernel⟩, List.mem_of_getElem? (i := 12) (by decide +kernel), List.mem_of_getElem? (i := 299) (by decide +kernel), List.mem_of_getElem? (i := 300) (by decide +kernel)⟩
theorem lw_p1 : lw_okq (⟨"ThumpEars", "setPace", "(I)I"⟩, 7) := ⟨⟨by decide +kernel, by decide +kernel⟩, List.mem_of_getElem? (i := 12) (by decide +kernel), List.mem_of_getElem? (i := 310) (by decide +kernel), List.mem_of_getElem? (i := 311) (by decide +kernel)⟩
theorem lw_p2 : lw_okq (⟨"ThumpEars", "setTolerance", "(I)I"⟩, 7) := ⟨⟨by decide +kernel, by decide +kernel⟩, List.mem_of_getElem? (i := 12) (by decide +kernel), List.mem_of_getElem? (i := 314) (by decide +kernel), List.mem_of_getElem? (i := 315) (by decide +kernel)⟩
theorem lw_p3 : lw_okq (⟨"ThumpEars", "makeSound", "(LThumpEars$Sounds;III)I"⟩, 7) := ⟨⟨by decide +kernel, by decide +kernel⟩, List.mem_of_getElem? (i := 12) (by decide +kernel), List.mem_of_getElem? (i := 322) (by decide +kernel), List.mem_of_getElem? (i := 323) (by decide +kernel)⟩
theorem lw_p4 : lw_okq (⟨"ThumpEars", "refusalOfOrders", "()I"⟩, 7) := ⟨⟨by decide +kernel, by decide +kernel⟩, List.mem_of_getElem? (i := 12) (by decide +kernel), List.mem_of_getElem? (i := 390) (by decide +kernel), List.mem_of_getElem? (i := 391) (by decide +kernel)⟩
theorem lw_p5 : lw_okq (⟨"ThumpEars", "latestReading", "(I)I"⟩, 7) := ⟨⟨by decide +kernel, by decide +kernel⟩, List.mem_of_getElem? (i := 12) (by decide +kernel), List.mem_of_getElem? (i := 437) (by decide +kernel), List.mem_of_getElem? (i := 438) (by decide +kernel)⟩
theorem lw_p6 : lw_okq (⟨"ThumpEars", "missOf", "(I)I"⟩, 7) := ⟨⟨by decide +kernel, by decide +kernel⟩, List.mem_of_getElem? (i := 12) (by decide +kernel), List.mem_of_getElem? (i := 565) (by decide +kernel), List.mem_of_getElem? (i := 566) (by decide +kernel)⟩
theorem lw_p7 : lw_okq (⟨"ThumpEars", "countFitting", "()I"⟩, 7) := ⟨⟨by decide +kernel, by decide +kernel⟩, List.mem_of_getElem? (i := 12) (by decide +kernel), List.mem_of_getElem? (i := 574) (by decide +kernel), List.mem_of_getElem? (i := 575) (by decide +kernel)⟩
theorem lw_p8 : lw_okq (⟨"ThumpEarsModel", "came", "()I"⟩, 17) := ⟨⟨by decide +kernel, by decide +kernel⟩, List.mem_of_getElem? (i := 578) (by decide +kernel), List.mem_of_getElem? (i := 645) (by decide +kernel), List.mem_of_getElem? (i := 646) (by decide +kernel)⟩
theorem lw_p9 : lw_okq (⟨"ThumpEarsModel", "open", "()V"⟩, 17) := ⟨⟨by decide +kernel, by decide +kernel⟩, List.mem_of_getElem? (i := 578) (by decide +kernel), List.mem_of_getElem? (i := 653) (by decide +kernel), List.mem_of_getElem? (i := 654) (by decide +kernel)⟩
theorem lw_p10 : lw_okq (⟨"ThumpEarsModel", "remember", "()V"⟩, 17) := ⟨⟨by decide +kernel, by decide +kernel⟩, List.mem_of_getElem? (i := 578) (by decide +kernel), List.mem_of_getElem? (i := 657) (by decide +kernel), List.mem_of_getElem? (i := 658) (by decide +kernel)⟩
theorem lw_p11 : lw_okq (⟨"ThumpEarsModel", "record", "()V"⟩, 17) := ⟨⟨by decide +kernel, by decide +kernel⟩, List.mem_of_getElem? (i := 578) (by decide +kernel), List.mem_of_getElem? (i := 661) (by decide +kernel), List.mem_of_getElem? (i := 662) (by decide +kernel)⟩
theorem lw_p12 : lw_okq (⟨"ThumpEarsModel", "noEar", "(I)Z"⟩, 17) := ⟨⟨by decide +kernel, by decide +kernel⟩, List.mem_of_getElem? (i := 578) (by decide +kernel), List.mem_of_getElem? (i := 676) (by decide +kernel), List.mem_of_getElem? (i := 677) (by decide +kernel)⟩
theorem lw_p13 : lw_okq (⟨"ThumpEarsModel", "of", "(II)I"⟩, 17) := ⟨⟨by decide +kernel, by decide +kernel⟩, List.mem_of_getElem? (i := 578) (by decide +kernel), List.mem_of_getElem? (i := 680) (by decide +kernel), List.mem_of_getElem? (i := 681) (by decide +kernel)⟩
theorem lw_p14 : lw_okq (⟨"ThumpEarsModel", "mutes", "()I"⟩, 17) := ⟨⟨by decide +kernel, by decide +kernel⟩, List.mem_of_getElem? (i := 578) (by decide +kernel), List.mem_of_getElem? (i := 688) (by decide +kernel), List.mem_of_getElem? (i := 689) (by decide +kernel)⟩
theorem lw_p15 : lw_okq (⟨"ThumpEarsModel", "act", "(IIII)I"⟩, 17) := ⟨⟨by decide +kernel, by decide +kernel⟩, List.mem_of_getElem? (i := 578) (by decide +kernel), List.mem_of_getElem? (i := 700) (by decide +kernel), List.mem_of_getElem? (i := 701) (by decide +kernel)⟩
def lw_privs_1 : List (MethodName × Nat) := [(⟨"ThumpEars", "flag", "([ZIIZ)I"⟩, 7), (⟨"ThumpEars", "setPace", "(I)I"⟩, 7), (⟨"ThumpEars", "setTolerance", "(I)I"⟩, 7), (⟨"ThumpEars", "makeSound", "(LThumpEars$Sounds;III)I"⟩, 7), (⟨"ThumpEars", "refusalOfOrders", "()I"⟩, 7), (⟨"ThumpEars", "latestReading", "(I)I"⟩, 7), (⟨"ThumpEars", "missOf", "(I)I"⟩, 7), (⟨"ThumpEars", "countFitting", "()I"⟩, 7), (⟨"ThumpEarsModel", "came", "()I"⟩, 17), (⟨"ThumpEarsModel", "open", "()V"⟩, 17), (⟨"ThumpEarsModel", "remember", "()V"⟩, 17), (⟨"ThumpEarsModel", "record", "()V"⟩, 17), (⟨"ThumpEarsModel", "noEar", "(I)Z"⟩, 17), (⟨"ThumpEarsModel", "of", "(II)I"⟩, 17), (⟨"ThumpEarsModel", "mutes", "()I"⟩, 17), (⟨"ThumpEarsModel", "act", "(IIII)I"⟩, 17)]
theorem lw_r1 : ∀ q ∈ lw_privs_1, lw_okq q := List.forall_mem_cons.mpr ⟨lw_p0, List.forall_mem_cons.mpr ⟨lw_p1, List.forall_mem_cons.mpr ⟨lw_p2, List.forall_mem_cons.mpr ⟨lw_p3, List.forall_mem_cons.mpr ⟨lw_p4, List.forall_mem_cons.mpr ⟨lw_p5, List.forall_mem_cons.mpr ⟨lw_p6, List.forall_mem_cons.mpr ⟨lw_p7, List.forall_mem_cons.mpr ⟨lw_p8, List.forall_mem_cons.mpr ⟨lw_p9, List.forall_mem_cons.mpr ⟨lw_p10, List.forall_mem_cons.mpr ⟨lw_p11, List.forall_mem_cons.mpr ⟨lw_p12, List.forall_mem_cons.mpr ⟨lw_p13, List.forall_mem_cons.mpr ⟨lw_p14, List.forall_mem_cons.mpr ⟨lw_p15, fun _ h => absurd h List.not_mem_nil⟩⟩⟩⟩⟩⟩⟩⟩⟩⟩⟩⟩⟩⟩⟩⟩
theorem lw_p16 : lw_okq (⟨"ThumpEarsModel", "make", "(IIII)I"⟩, 17) := ⟨⟨by decide +kernel, by decide +kernel⟩, List.mem_of_getElem? (i := 578) (by decide +kernel), List.mem_of_getElem? (i := 704) (by decide +kernel), List.mem_of_getElem? (i := 705) (by decide +kernel)⟩
theorem lw_p17 : lw_okq (⟨"ThumpEarsModel", "reads", "(II)I"⟩, 17) := ⟨⟨by decide +kernel, by decide +kernel⟩, List.mem_of_getElem? (i := 578) (by decide +kernel), List.mem_of_getElem? (i := 712) (by decide +kernel), List.mem_of_getElem? (i := 713) (by decide +kernel)⟩
theorem lw_p18 : lw_okq (⟨"ThumpEarsModel", "none", "(II)Z"⟩, 17) := ⟨⟨by decide +kernel, by decide +kernel⟩, List.mem_of_getElem? (i := 578) (by decide +kernel), List.mem_of_getElem? (i := 728) (by decide +kernel), List.mem_of_getElem? (i := 729) (by decide +kernel)⟩
theorem lw_p19 : lw_okq (⟨"ThumpEarsModel", "come", "(III)I"⟩, 17) := ⟨⟨by decide +kernel, by decide +kernel⟩, List.mem_of_getElem? (i := 578) (by decide +kernel), List.mem_of_getElem? (i := 732) (by decide +kernel), List.mem_of_getElem? (i := 733) (by decide +kernel)⟩
theorem lw_p20 : lw_okq (⟨"ThumpEarsModel", "outs", "()I"⟩, 17) := ⟨⟨by decide +kernel, by decide +kernel⟩, List.mem_of_getElem? (i := 578) (by decide +kernel), List.mem_of_getElem? (i := 736) (by decide +kernel), List.mem_of_getElem? (i := 737) (by decide +kernel)⟩
theorem lw_p21 : lw_okq (⟨"ThumpEarsModel", "orders", "(Z)I"⟩, 17) := ⟨⟨by decide +kernel, by decide +kernel⟩, List.mem_of_getElem? (i := 578) (by decide +kernel), List.mem_of_getElem? (i := 752) (by decide +kernel), List.mem_of_getElem? (i := 753) (by decide +kernel)⟩
theorem lw_p22 : lw_okq (⟨"ThumpEarsModel", "order", "(Z)Z"⟩, 17) := ⟨⟨by decide +kernel, by decide +kernel⟩, List.mem_of_getElem? (i := 578) (by decide +kernel), List.mem_of_getElem? (i := 756) (by decide +kernel), List.mem_of_getElem? (i := 757) (by decide +kernel)⟩
theorem lw_p23 : lw_okq (⟨"ThumpEarsModel", "sees", "(CC)Z"⟩, 17) := ⟨⟨by decide +kernel, by decide +kernel⟩, List.mem_of_getElem? (i := 578) (by decide +kernel), List.mem_of_getElem? (i := 760) (by decide +kernel), List.mem_of_getElem? (i := 761) (by decide +kernel)⟩
theorem lw_p24 : lw_okq (⟨"ThumpEarsModel", "number", "()I"⟩, 17) := ⟨⟨by decide +kernel, by decide +kernel⟩, List.mem_of_getElem? (i := 578) (by decide +kernel), List.mem_of_getElem? (i := 764) (by decide +kernel), List.mem_of_getElem? (i := 765) (by decide +kernel)⟩
theorem lw_p25 : lw_okq (⟨"ThumpEarsModel", "takes", "(C)Z"⟩, 17) := ⟨⟨by decide +kernel, by decide +kernel⟩, List.mem_of_getElem? (i := 578) (by decide +kernel), List.mem_of_getElem? (i := 768) (by decide +kernel), List.mem_of_getElem? (i := 769) (by decide +kernel)⟩
theorem lw_p26 : lw_okq (⟨"ThumpEarsModel", "goBack", "()V"⟩, 17) := ⟨⟨by decide +kernel, by decide +kernel⟩, List.mem_of_getElem? (i := 578) (by decide +kernel), List.mem_of_getElem? (i := 772) (by decide +kernel), List.mem_of_getElem? (i := 773) (by decide +kernel)⟩
theorem lw_p27 : lw_okq (⟨"ThumpEarsModel", "findMarks", "(I)V"⟩, 17) := ⟨⟨by decide +kernel, by decide +kernel⟩, List.mem_of_getElem? (i := 578) (by decide +kernel), List.mem_of_getElem? (i := 780) (by decide +kernel), List.mem_of_getElem? (i := 781) (by decide +kernel)⟩
theorem lw_p28 : lw_okq (⟨"ThumpEarsModel", "heardOf", "(III)I"⟩, 17) := ⟨⟨by decide +kernel, by decide +kernel⟩, List.mem_of_getElem? (i := 578) (by decide +kernel), List.mem_of_getElem? (i := 784) (by decide +kernel), List.mem_of_getElem? (i := 785) (by decide +kernel)⟩
theorem lw_p29 : lw_okq (⟨"ThumpEarsModel", "knocksHeard", "(I)I"⟩, 17) := ⟨⟨by decide +kernel, by decide +kernel⟩, List.mem_of_getElem? (i := 578) (by decide +kernel), List.mem_of_getElem? (i := 788) (by decide +kernel), List.mem_of_getElem? (i := 789) (by decide +kernel)⟩
theorem lw_p30 : lw_okq (⟨"ThumpEarsModel", "errorAt", "(II)J"⟩, 17) := ⟨⟨by decide +kernel, by decide +kernel⟩, List.mem_of_getElem? (i := 578) (by decide +kernel), List.mem_of_getElem? (i := 810) (by decide +kernel), List.mem_of_getElem? (i := 811) (by decide +kernel)⟩
theorem lw_p31 : lw_okq (⟨"ThumpEarsModel", "rightOf", "(II)J"⟩, 17) := ⟨⟨by decide +kernel, by decide +kernel⟩, List.mem_of_getElem? (i := 578) (by decide +kernel), List.mem_of_getElem? (i := 827) (by decide +kernel), List.mem_of_getElem? (i := 828) (by decide +kernel)⟩
def lw_privs_2 : List (MethodName × Nat) := [(⟨"ThumpEarsModel", "make", "(IIII)I"⟩, 17), (⟨"ThumpEarsModel", "reads", "(II)I"⟩, 17), (⟨"ThumpEarsModel", "none", "(II)Z"⟩, 17), (⟨"ThumpEarsModel", "come", "(III)I"⟩, 17), (⟨"ThumpEarsModel", "outs", "()I"⟩, 17), (⟨"ThumpEarsModel", "orders", "(Z)I"⟩, 17), (⟨"ThumpEarsModel", "order", "(Z)Z"⟩, 17), (⟨"ThumpEarsModel", "sees", "(CC)Z"⟩, 17), (⟨"ThumpEarsModel", "number", "()I"⟩, 17), (⟨"ThumpEarsModel", "takes", "(C)Z"⟩, 17), (⟨"ThumpEarsModel", "goBack", "()V"⟩, 17), (⟨"ThumpEarsModel", "findMarks", "(I)V"⟩, 17), (⟨"ThumpEarsModel", "heardOf", "(III)I"⟩, 17), (⟨"ThumpEarsModel", "knocksHeard", "(I)I"⟩, 17), (⟨"ThumpEarsModel", "errorAt", "(II)J"⟩, 17), (⟨"ThumpEarsModel", "rightOf", "(II)J"⟩, 17)]
theorem lw_r2 : ∀ q ∈ lw_privs_2, lw_okq q := List.forall_mem_cons.mpr ⟨lw_p16, List.forall_mem_cons.mpr ⟨lw_p17, List.forall_mem_cons.mpr ⟨lw_p18, List.forall_mem_cons.mpr ⟨lw_p19, List.forall_mem_cons.mpr ⟨lw_p20, List.forall_mem_cons.mpr ⟨lw_p21, List.forall_mem_cons.mpr ⟨lw_p22, List.forall_mem_cons.mpr ⟨lw_p23, List.forall_mem_cons.mpr ⟨lw_p24, List.forall_mem_cons.mpr ⟨lw_p25, List.forall_mem_cons.mpr ⟨lw_p26, List.forall_mem_cons.mpr ⟨lw_p27, List.forall_mem_cons.mpr ⟨lw_p28, List.forall_mem_cons.mpr ⟨lw_p29, List.forall_mem_cons.mpr ⟨lw_p30, List.forall_mem_cons.mpr ⟨lw_p31, fun _ h => absurd h List.not_mem_nil⟩⟩⟩⟩⟩⟩⟩⟩⟩⟩⟩⟩⟩⟩⟩⟩
theorem lw_p32 : lw_okq (⟨"ThumpEarsModel", "hearers", "(I)I"⟩, 17) := ⟨⟨by decide +kernel, by decide +kernel⟩, List.mem_of_getElem? (i := 578) (by decide +kernel), List.mem_of_getElem? (i := 835) (by decide +kernel), List.mem_of_getElem? (i := 836) (by decide +kernel)⟩
theorem lw_p33 : lw_okq (⟨"ThumpEarsModel", "placeOf", "(I)I"⟩, 17) := ⟨⟨by decide +kernel, by decide +kernel⟩, List.mem_of_getElem? (i := 578) (by decide +kernel), List.mem_of_getElem? (i := 839) (by decide +kernel), List.mem_of_getElem? (i := 840) (by decide +kernel)⟩
theorem lw_p34 : lw_okq (⟨"ThumpEarsModel", "findRight", "(I)V"⟩, 17) := ⟨⟨by decide +kernel, by decide +kernel⟩, List.mem_of_getElem? (i := 578) (by decide +kernel), List.mem_of_getElem? (i := 843) (by decide +kernel), List.mem_of_getElem? (i := 844) (by decide +kernel)⟩
theorem lw_p35 : lw_okq (⟨"ThumpEarsModel", "spreadAt", "(II)J"⟩, 17) := ⟨⟨by decide +kernel, by decide +kernel⟩, List.mem_of_getElem? (i := 578) (by decide +kernel), List.mem_of_getElem? (i := 847) (by decide +kernel), List.mem_of_getElem? (i := 848) (by decide +kernel)⟩
theorem lw_p36 : lw_okq (⟨"ThumpEarsModel", "beginning", "(III)J"⟩, 17) := ⟨⟨by decide +kernel, by decide +kernel⟩, List.mem_of_getElem? (i := 578) (by decide +kernel), List.mem_of_getElem? (i := 851) (by decide +kernel), List.mem_of_getElem? (i := 852) (by decide +kernel)⟩
theorem lw_p37 : lw_okq (⟨"ThumpEarsModel", "worst", "(IIJ)I"⟩, 17) := ⟨⟨by decide +kernel, by decide +kernel⟩, List.mem_of_getElem? (i := 578) (by decide +kernel), List.mem_of_getElem? (i := 856) (by decide +kernel), List.mem_of_getElem? (i := 857) (by decide +kernel)⟩
theorem lw_p38 : lw_okq (⟨"ThumpEarsModel", "fitting", "()I"⟩, 17) := ⟨⟨by decide +kernel, by decide +kernel⟩, List.mem_of_getElem? (i := 578) (by decide +kernel), List.mem_of_getElem? (i := 873) (by decide +kernel), List.mem_of_getElem? (i := 874) (by decide +kernel)⟩
def lw_privs_3 : List (MethodName × Nat) := [(⟨"ThumpEarsModel", "hearers", "(I)I"⟩, 17), (⟨"ThumpEarsModel", "placeOf", "(I)I"⟩, 17), (⟨"ThumpEarsModel", "findRight", "(I)V"⟩, 17), (⟨"ThumpEarsModel", "spreadAt", "(II)J"⟩, 17), (⟨"ThumpEarsModel", "beginning", "(III)J"⟩, 17), (⟨"ThumpEarsModel", "worst", "(IIJ)I"⟩, 17), (⟨"ThumpEarsModel", "fitting", "()I"⟩, 17)]
theorem lw_r3 : ∀ q ∈ lw_privs_3, lw_okq q := List.forall_mem_cons.mpr ⟨lw_p32, List.forall_mem_cons.mpr ⟨lw_p33, List.forall_mem_cons.mpr ⟨lw_p34, List.forall_mem_cons.mpr ⟨lw_p35, List.forall_mem_cons.mpr ⟨lw_p36, List.forall_mem_cons.mpr ⟨lw_p37, List.forall_mem_cons.mpr ⟨lw_p38, fun _ h => absurd h List.not_mem_nil⟩⟩⟩⟩⟩⟩⟩
def lw_privs : List (MethodName × Nat) := lw_privs_1 ++ (lw_privs_2 ++ (lw_privs_3))
def lw_tbl : List Cond := k2_sels lw_privs ++ tables_1
theorem lw_privs_ok : ∀ q ∈ lw_privs, lw_okq q := by
  show ∀ q ∈ lw_privs_1 ++ (lw_privs_2 ++ (lw_privs_3)), lw_okq q
  exact List.forall_mem_append.mpr ⟨lw_r1, List.forall_mem_append.mpr ⟨lw_r2, lw_r3⟩⟩
-- ===== end of PART A; then your names; then what follows =====
end
section
def RX0 : String := "ThumpEars$History"
def TX0 : u_T := fun k => match k with
  | 0 => ("ThumpEars$History", "states", "[LThumpEars$State;", true)
  | _ => ("ThumpEars$History", "size", "I", false)
def tyX0 : Nat → FieldType := fun k => match k with
  | 0 => .array (.object "ThumpEars$State")
  | _ => .int
abbrev wsX00 : List Cond := u_ws RX0 TX0 2
theorem nmX0 : ∀ a, a < 2 → ∀ b, b < 2 → a ≠ b → (TX0 a).2.1 ≠ (TX0 b).2.1 := by decide +kernel
theorem tyX0_ok : ∀ k, k < 2 → parseFieldDescriptor (TX0 k).2.2.1 = some (tyX0 k) := by decide +kernel
abbrev cX0_init : ByteArray := prog_2_method_1_code
def yX0_init : MethodName := ⟨RX0, "<init>", "()V"⟩
abbrev cX0_push : ByteArray := prog_2_method_2_code
def yX0_push : MethodName := ⟨RX0, "push", "(LThumpEars$State;)V"⟩
abbrev cX0_dropOldest : ByteArray := prog_2_method_3_code
def yX0_dropOldest : MethodName := ⟨RX0, "dropOldest", "()V"⟩
abbrev cX0_popInto : ByteArray := prog_2_method_4_code
def yX0_popInto : MethodName := ⟨RX0, "popInto", "(LThumpEars$State;)V"⟩
def RX1 : String := "ThumpEars$Marks"
def TX1 : u_T := fun k => match k with
  | 0 => ("ThumpEars$Marks", "thumps", "[I", true)
  | 1 => ("ThumpEars$Marks", "readings", "[I", true)
  | 2 => ("ThumpEars$Marks", "errors", "[I", true)
  | _ => ("ThumpEars$Marks", "size", "I", false)
def tyX1 : Nat → FieldType := fun k => match k with
  | 0 => .array .int
  | 1 => .array .int
  | 2 => .array .int
  | _ => .int
abbrev wsX10 : List Cond := u_ws RX1 TX1 4
theorem nmX1 : ∀ a, a < 4 → ∀ b, b < 4 → a ≠ b → (TX1 a).2.1 ≠ (TX1 b).2.1 := by decide +kernel
theorem tyX1_ok : ∀ k, k < 4 → parseFieldDescriptor (TX1 k).2.2.1 = some (tyX1 k) := by decide +kernel
abbrev cX1_init : ByteArray := prog_3_method_1_code
def yX1_init : MethodName := ⟨RX1, "<init>", "()V"⟩
abbrev cX1_gather : ByteArray := prog_3_method_2_code
def yX1_gather : MethodName := ⟨RX1, "gather", "(LThumpEars$State;I)V"⟩
abbrev cX1_isBehindAll : ByteArray := prog_3_method_3_code
def yX1_isBehindAll : MethodName := ⟨RX1, "isBehindAll", "(I)Z"⟩
abbrev cX1_latestThump : ByteArray := prog_3_method_4_code
def yX1_latestThump : MethodName := ⟨RX1, "latestThump", "()I"⟩
abbrev cX1_errorAt : ByteArray := prog_3_method_5_code
def yX1_errorAt : MethodName := ⟨RX1, "errorAt", "(I)J"⟩
abbrev cX1_firstOfPair : ByteArray := prog_3_method_6_code
def yX1_firstOfPair : MethodName := ⟨RX1, "firstOfPair", "(I)I"⟩
abbrev cX1_rightTime : ByteArray := prog_3_method_7_code
def yX1_rightTime : MethodName := ⟨RX1, "rightTime", "(I)J"⟩
def RX2 : String := "ThumpEars$OrderText"
def TX2 : u_T := fun k => match k with
  | 0 => ("ThumpEars$OrderText", "signs", "[C", true)
  | 1 => ("ThumpEars$OrderText", "length", "I", false)
  | 2 => ("ThumpEars$OrderText", "areThumps", "[Z", true)
  | 3 => ("ThumpEars$OrderText", "places", "[I", true)
  | 4 => ("ThumpEars$OrderText", "times", "[I", true)
  | 5 => ("ThumpEars$OrderText", "reaches", "[I", true)
  | 6 => ("ThumpEars$OrderText", "orders", "I", false)
  | 7 => ("ThumpEars$OrderText", "position", "I", false)
  | _ => ("ThumpEars$OrderText", "number", "I", false)
def tyX2 : Nat → FieldType := fun k => match k with
  | 0 => .array .char
  | 1 => .int
  | 2 => .array .boolean
  | 3 => .array .int
  | 4 => .array .int
  | 5 => .array .int
  | 6 => .int
  | 7 => .int
  | _ => .int
abbrev wsX20 : List Cond := u_ws RX2 TX2 9
theorem nmX2 : ∀ a, a < 9 → ∀ b, b < 9 → a ≠ b → (TX2 a).2.1 ≠ (TX2 b).2.1 := by decide +kernel
theorem tyX2_ok : ∀ k, k < 9 → parseFieldDescriptor (TX2 k).2.2.1 = some (tyX2 k) := by decide +kernel
abbrev cX2_init : ByteArray := prog_4_method_1_code
def yX2_init : MethodName := ⟨RX2, "<init>", "()V"⟩
abbrev cX2_read : ByteArray := prog_4_method_2_code
def yX2_read : MethodName := ⟨RX2, "read", "()I"⟩
abbrev cX2_readOrder : ByteArray := prog_4_method_3_code
def yX2_readOrder : MethodName := ⟨RX2, "readOrder", "()Z"⟩
abbrev cX2_skips : ByteArray := prog_4_method_4_code
def yX2_skips : MethodName := ⟨RX2, "skips", "(C)Z"⟩
abbrev cX2_readNumber : ByteArray := prog_4_method_5_code
def yX2_readNumber : MethodName := ⟨RX2, "readNumber", "()Z"⟩
abbrev cX2_isDigit : ByteArray := prog_4_method_6_code
def yX2_isDigit : MethodName := ⟨RX2, "isDigit", "()Z"⟩
def RX3 : String := "ThumpEars$Sounds"
def TX3 : u_T := fun k => match k with
  | 0 => ("ThumpEars$Sounds", "places", "[I", true)
  | 1 => ("ThumpEars$Sounds", "times", "[I", true)
  | 2 => ("ThumpEars$Sounds", "paces", "[I", true)
  | 3 => ("ThumpEars$Sounds", "readings", "[[I", true)
  | _ => ("ThumpEars$Sounds", "size", "I", false)
def tyX3 : Nat → FieldType := fun k => match k with
  | 0 => .array .int
  | 1 => .array .int
  | 2 => .array .int
  | 3 => .array (.array .int)
  | _ => .int
abbrev wsX30 : List Cond := u_ws RX3 TX3 5
theorem nmX3 : ∀ a, a < 5 → ∀ b, b < 5 → a ≠ b → (TX3 a).2.1 ≠ (TX3 b).2.1 := by decide +kernel
theorem tyX3_ok : ∀ k, k < 5 → parseFieldDescriptor (TX3 k).2.2.1 = some (tyX3 k) := by decide +kernel
abbrev cX3_init : ByteArray := prog_5_method_1_code
def yX3_init : MethodName := ⟨RX3, "<init>", "()V"⟩
abbrev cX3_copyFrom : ByteArray := prog_5_method_2_code
def yX3_copyFrom : MethodName := ⟨RX3, "copyFrom", "(LThumpEars$Sounds;)V"⟩
abbrev cX3_has : ByteArray := prog_5_method_3_code
def yX3_has : MethodName := ⟨RX3, "has", "(I)Z"⟩
abbrev cX3_heardBy : ByteArray := prog_5_method_4_code
def yX3_heardBy : MethodName := ⟨RX3, "heardBy", "(I)I"⟩
def RX4 : String := "ThumpEars$Source"
def TX4 : u_T := fun k => match k with
  | 0 => ("ThumpEars$Source", "ears", "[I", true)
  | 1 => ("ThumpEars$Source", "earPlaces", "[I", true)
  | 2 => ("ThumpEars$Source", "rightTimes", "[J", true)
  | 3 => ("ThumpEars$Source", "size", "I", false)
  | 4 => ("ThumpEars$Source", "perPlace", "J", false)
  | 5 => ("ThumpEars$Source", "place", "I", false)
  | 6 => ("ThumpEars$Source", "least", "J", false)
  | _ => ("ThumpEars$Source", "greatest", "J", false)
def tyX4 : Nat → FieldType := fun k => match k with
  | 0 => .array .int
  | 1 => .array .int
  | 2 => .array .long
  | 3 => .int
  | 4 => .long
  | 5 => .int
  | 6 => .long
  | _ => .long
abbrev wsX40 : List Cond := u_ws RX4 TX4 8
theorem nmX4 : ∀ a, a < 8 → ∀ b, b < 8 → a ≠ b → (TX4 a).2.1 ≠ (TX4 b).2.1 := by decide +kernel
theorem tyX4_ok : ∀ k, k < 8 → parseFieldDescriptor (TX4 k).2.2.1 = some (tyX4 k) := by decide +kernel
abbrev cX4_init : ByteArray := prog_6_method_1_code
def yX4_init : MethodName := ⟨RX4, "<init>", "()V"⟩
abbrev cX4_listen : ByteArray := prog_6_method_2_code
def yX4_listen : MethodName := ⟨RX4, "listen", "(LThumpEars$State;ILThumpEars$Marks;)V"⟩
abbrev cX4_beginning : ByteArray := prog_6_method_3_code
def yX4_beginning : MethodName := ⟨RX4, "beginning", "(I)J"⟩
abbrev cX4_lookFrom : ByteArray := prog_6_method_4_code
def yX4_lookFrom : MethodName := ⟨RX4, "lookFrom", "(I)V"⟩
abbrev cX4_locate : ByteArray := prog_6_method_5_code
def yX4_locate : MethodName := ⟨RX4, "locate", "()V"⟩
abbrev cX4_width : ByteArray := prog_6_method_6_code
def yX4_width : MethodName := ⟨RX4, "width", "()J"⟩
abbrev cX4_fits : ByteArray := prog_6_method_7_code
def yX4_fits : MethodName := ⟨RX4, "fits", "(I)Z"⟩
abbrev cX4_time : ByteArray := prog_6_method_8_code
def yX4_time : MethodName := ⟨RX4, "time", "()J"⟩
abbrev cX4_worstEar : ByteArray := prog_6_method_9_code
def yX4_worstEar : MethodName := ⟨RX4, "worstEar", "()I"⟩
def RX5 : String := "ThumpEars$State"
def TX5 : u_T := fun k => match k with
  | 0 => ("ThumpEars$State", "places", "[I", true)
  | 1 => ("ThumpEars$State", "offsets", "[I", true)
  | 2 => ("ThumpEars$State", "drifts", "[I", true)
  | 3 => ("ThumpEars$State", "mutes", "[Z", true)
  | 4 => ("ThumpEars$State", "leftOut", "[Z", true)
  | 5 => ("ThumpEars$State", "thumps", "LThumpEars$Sounds;", true)
  | 6 => ("ThumpEars$State", "knocks", "LThumpEars$Sounds;", true)
  | 7 => ("ThumpEars$State", "ears", "I", false)
  | 8 => ("ThumpEars$State", "pace", "I", false)
  | 9 => ("ThumpEars$State", "tolerance", "I", false)
  | _ => ("ThumpEars$State", "latest", "I", false)
def tyX5 : Nat → FieldType := fun k => match k with
  | 0 => .array .int
  | 1 => .array .int
  | 2 => .array .int
  | 3 => .array .boolean
  | 4 => .array .boolean
  | 5 => .object "ThumpEars$Sounds"
  | 6 => .object "ThumpEars$Sounds"
  | 7 => .int
  | 8 => .int
  | 9 => .int
  | _ => .int
abbrev wsX50 : List Cond := u_ws RX5 TX5 11
theorem nmX5 : ∀ a, a < 11 → ∀ b, b < 11 → a ≠ b → (TX5 a).2.1 ≠ (TX5 b).2.1 := by decide +kernel
theorem tyX5_ok : ∀ k, k < 11 → parseFieldDescriptor (TX5 k).2.2.1 = some (tyX5 k) := by decide +kernel
abbrev cX5_init : ByteArray := prog_7_method_1_code
def yX5_init : MethodName := ⟨RX5, "<init>", "()V"⟩
abbrev cX5_copyFrom : ByteArray := prog_7_method_2_code
def yX5_copyFrom : MethodName := ⟨RX5, "copyFrom", "(LThumpEars$State;)V"⟩
abbrev cX5_hasEar : ByteArray := prog_7_method_3_code
def yX5_hasEar : MethodName := ⟨RX5, "hasEar", "(I)Z"⟩
abbrev cX5_addEar : ByteArray := prog_7_method_4_code
def yX5_addEar : MethodName := ⟨RX5, "addEar", "(I)I"⟩
abbrev cX5_reading : ByteArray := prog_7_method_5_code
def yX5_reading : MethodName := ⟨RX5, "reading", "(II)I"⟩
abbrev cX5_wayTo : ByteArray := prog_7_method_6_code
def yX5_wayTo : MethodName := ⟨RX5, "wayTo", "(II)I"⟩
abbrev cX5_canHear : ByteArray := prog_7_method_7_code
def yX5_canHear : MethodName := ⟨RX5, "canHear", "(III)Z"⟩
abbrev cX5_addSound : ByteArray := prog_7_method_8_code
def yX5_addSound : MethodName := ⟨RX5, "addSound", "(LThumpEars$Sounds;III)I"⟩
abbrev cX5_soundsTogether : ByteArray := prog_7_method_9_code
def yX5_soundsTogether : MethodName := ⟨RX5, "soundsTogether", "()I"⟩
def RX6 : String := "ThumpEars"
def TX6 : u_T := fun k => match k with
  | 0 => ("ThumpEars", "now", "LThumpEars$State;", true)
  | 1 => ("ThumpEars", "snapshot", "LThumpEars$State;", true)
  | 2 => ("ThumpEars", "hasSnapshot", "Z", false)
  | 3 => ("ThumpEars", "history", "LThumpEars$History;", true)
  | 4 => ("ThumpEars", "text", "LThumpEars$OrderText;", true)
  | 5 => ("ThumpEars", "marks", "LThumpEars$Marks;", true)
  | _ => ("ThumpEars", "source", "LThumpEars$Source;", true)
def tyX6 : Nat → FieldType := fun k => match k with
  | 0 => .object "ThumpEars$State"
  | 1 => .object "ThumpEars$State"
  | 2 => .boolean
  | 3 => .object "ThumpEars$History"
  | 4 => .object "ThumpEars$OrderText"
  | 5 => .object "ThumpEars$Marks"
  | _ => .object "ThumpEars$Source"
abbrev wsX60 : List Cond := u_ws RX6 TX6 7
theorem nmX6 : ∀ a, a < 7 → ∀ b, b < 7 → a ≠ b → (TX6 a).2.1 ≠ (TX6 b).2.1 := by decide +kernel
theorem tyX6_ok : ∀ k, k < 7 → parseFieldDescriptor (TX6 k).2.2.1 = some (tyX6 k) := by decide +kernel
abbrev cX6_init : ByteArray := prog_1_method_1_code
def yX6_init : MethodName := ⟨RX6, "<init>", "()V"⟩
abbrev cX6_bury : ByteArray := prog_1_method_2_code
def yX6_bury : MethodName := ⟨RX6, "bury", "(I)I"⟩
abbrev cX6_setClock : ByteArray := prog_1_method_3_code
def yX6_setClock : MethodName := ⟨RX6, "setClock", "(III)I"⟩
abbrev cX6_mute : ByteArray := prog_1_method_4_code
def yX6_mute : MethodName := ⟨RX6, "mute", "(IZ)I"⟩
abbrev cX6_set : ByteArray := prog_1_method_5_code
def yX6_set : MethodName := ⟨RX6, "set", "(II)I"⟩
abbrev cX6_thump : ByteArray := prog_1_method_6_code
def yX6_thump : MethodName := ⟨RX6, "thump", "(III)I"⟩
abbrev cX6_knock : ByteArray := prog_1_method_7_code
def yX6_knock : MethodName := ⟨RX6, "knock", "(III)I"⟩
abbrev cX6_leaveOut : ByteArray := prog_1_method_8_code
def yX6_leaveOut : MethodName := ⟨RX6, "leaveOut", "(IZ)I"⟩
abbrev cX6_readOrders : ByteArray := prog_1_method_9_code
def yX6_readOrders : MethodName := ⟨RX6, "readOrders", "()I"⟩
abbrev cX6_type : ByteArray := prog_1_method_10_code
def yX6_type : MethodName := ⟨RX6, "type", "(C)I"⟩
abbrev cX6_clearText : ByteArray := prog_1_method_11_code
def yX6_clearText : MethodName := ⟨RX6, "clearText", "()I"⟩
abbrev cX6_undo : ByteArray := prog_1_method_12_code
def yX6_undo : MethodName := ⟨RX6, "undo", "()I"⟩
abbrev cX6_keep : ByteArray := prog_1_method_13_code
def yX6_keep : MethodName := ⟨RX6, "keep", "()I"⟩
abbrev cX6_restore : ByteArray := prog_1_method_14_code
def yX6_restore : MethodName := ⟨RX6, "restore", "()I"⟩
abbrev cX6_ear : ByteArray := prog_1_method_15_code
def yX6_ear : MethodName := ⟨RX6, "ear", "(II)I"⟩
abbrev cX6_clock : ByteArray := prog_1_method_16_code
def yX6_clock : MethodName := ⟨RX6, "clock", "(II)I"⟩
abbrev cX6_mark : ByteArray := prog_1_method_17_code
def yX6_mark : MethodName := ⟨RX6, "mark", "(III)I"⟩
abbrev cX6_error : ByteArray := prog_1_method_18_code
def yX6_error : MethodName := ⟨RX6, "error", "(II)J"⟩
abbrev cX6_stalest : ByteArray := prog_1_method_19_code
def yX6_stalest : MethodName := ⟨RX6, "stalest", "()I"⟩
abbrev cX6_heard : ByteArray := prog_1_method_20_code
def yX6_heard : MethodName := ⟨RX6, "heard", "(ZII)I"⟩
abbrev cX6_putRight : ByteArray := prog_1_method_21_code
def yX6_putRight : MethodName := ⟨RX6, "putRight", "(II)J"⟩
abbrev cX6_found : ByteArray := prog_1_method_22_code
def yX6_found : MethodName := ⟨RX6, "found", "(II)J"⟩
abbrev cX6_spread : ByteArray := prog_1_method_23_code
def yX6_spread : MethodName := ⟨RX6, "spread", "(II)J"⟩
abbrev cX6_truth : ByteArray := prog_1_method_24_code
def yX6_truth : MethodName := ⟨RX6, "truth", "(II)I"⟩
abbrev cX6_count : ByteArray := prog_1_method_25_code
def yX6_count : MethodName := ⟨RX6, "count", "(I)I"⟩
abbrev cX6_isWithin : ByteArray := prog_1_method_26_code
def yX6_isWithin : MethodName := ⟨RX6, "isWithin", "(III)Z"⟩
abbrev cX6_longError : ByteArray := prog_1_method_27_code
def yX6_longError : MethodName := ⟨RX6, "longError", "(I)J"⟩
abbrev cX6_countFlags : ByteArray := prog_1_method_28_code
def yX6_countFlags : MethodName := ⟨RX6, "countFlags", "([ZI)I"⟩
abbrev cX6_flag : ByteArray := prog_1_method_29_code
def yX6_flag : MethodName := ⟨RX6, "flag", "([ZIIZ)I"⟩
abbrev cX6_setPace : ByteArray := prog_1_method_30_code
def yX6_setPace : MethodName := ⟨RX6, "setPace", "(I)I"⟩
abbrev cX6_setTolerance : ByteArray := prog_1_method_31_code
def yX6_setTolerance : MethodName := ⟨RX6, "setTolerance", "(I)I"⟩
abbrev cX6_makeSound : ByteArray := prog_1_method_32_code
def yX6_makeSound : MethodName := ⟨RX6, "makeSound", "(LThumpEars$Sounds;III)I"⟩
abbrev cX6_refusal : ByteArray := prog_1_method_33_code
def yX6_refusal : MethodName := ⟨RX6, "refusal", "(IIIII)I"⟩
abbrev cX6_refusalOfOrders : ByteArray := prog_1_method_34_code
def yX6_refusalOfOrders : MethodName := ⟨RX6, "refusalOfOrders", "()I"⟩
abbrev cX6_latestReading : ByteArray := prog_1_method_35_code
def yX6_latestReading : MethodName := ⟨RX6, "latestReading", "(I)I"⟩
abbrev cX6_missOf : ByteArray := prog_1_method_36_code
def yX6_missOf : MethodName := ⟨RX6, "missOf", "(I)I"⟩
abbrev cX6_countFitting : ByteArray := prog_1_method_37_code
def yX6_countFitting : MethodName := ⟨RX6, "countFitting", "()I"⟩
def RX7 : String := "ThumpEarsModel"
def TX7 : u_T := fun k => match k with
  | 0 => ("ThumpEarsModel", "row", "[I", true)
  | 1 => ("ThumpEarsModel", "past", "[I", true)
  | 2 => ("ThumpEarsModel", "aside", "[I", true)
  | 3 => ("ThumpEarsModel", "before", "[I", true)
  | 4 => ("ThumpEarsModel", "states", "I", false)
  | 5 => ("ThumpEarsModel", "isAside", "Z", false)
  | 6 => ("ThumpEarsModel", "text", "[C", true)
  | 7 => ("ThumpEarsModel", "length", "I", false)
  | 8 => ("ThumpEarsModel", "at", "I", false)
  | 9 => ("ThumpEarsModel", "told", "I", false)
  | 10 => ("ThumpEarsModel", "marks", "I", false)
  | 11 => ("ThumpEarsModel", "reading", "[I", true)
  | 12 => ("ThumpEarsModel", "error", "[I", true)
  | 13 => ("ThumpEarsModel", "thump", "[I", true)
  | 14 => ("ThumpEarsModel", "least", "J", false)
  | 15 => ("ThumpEarsModel", "most", "J", false)
  | _ => ("ThumpEarsModel", "right", "[J", true)
def tyX7 : Nat → FieldType := fun k => match k with
  | 0 => .array .int
  | 1 => .array .int
  | 2 => .array .int
  | 3 => .array .int
  | 4 => .int
  | 5 => .boolean
  | 6 => .array .char
  | 7 => .int
  | 8 => .int
  | 9 => .int
  | 10 => .int
  | 11 => .array .int
  | 12 => .array .int
  | 13 => .array .int
  | 14 => .long
  | 15 => .long
  | _ => .array .long
abbrev wsX70 : List Cond := u_ws RX7 TX7 17
theorem nmX7 : ∀ a, a < 17 → ∀ b, b < 17 → a ≠ b → (TX7 a).2.1 ≠ (TX7 b).2.1 := by decide +kernel
theorem tyX7_ok : ∀ k, k < 17 → parseFieldDescriptor (TX7 k).2.2.1 = some (tyX7 k) := by decide +kernel
abbrev cX7_init : ByteArray := prog_9_method_1_code
def yX7_init : MethodName := ⟨RX7, "<init>", "()V"⟩
abbrev cX7_in : ByteArray := prog_9_method_2_code
def yX7_in : MethodName := ⟨RX7, "in", "(III)Z"⟩
abbrev cX7_far : ByteArray := prog_9_method_3_code
def yX7_far : MethodName := ⟨RX7, "far", "(II)I"⟩
abbrev cX7_down : ByteArray := prog_9_method_4_code
def yX7_down : MethodName := ⟨RX7, "down", "(JJ)J"⟩
abbrev cX7_toldAs : ByteArray := prog_9_method_5_code
def yX7_toldAs : MethodName := ⟨RX7, "toldAs", "(I)J"⟩
abbrev cX7_remember : ByteArray := prog_9_method_6_code
def yX7_remember : MethodName := ⟨RX7, "remember", "()V"⟩
abbrev cX7_goBack : ByteArray := prog_9_method_7_code
def yX7_goBack : MethodName := ⟨RX7, "goBack", "()V"⟩
abbrev cX7_record : ByteArray := prog_9_method_8_code
def yX7_record : MethodName := ⟨RX7, "record", "()V"⟩
abbrev cX7_open : ByteArray := prog_9_method_9_code
def yX7_open : MethodName := ⟨RX7, "open", "()V"⟩
abbrev cX7_undo : ByteArray := prog_9_method_10_code
def yX7_undo : MethodName := ⟨RX7, "undo", "()I"⟩
abbrev cX7_came : ByteArray := prog_9_method_11_code
def yX7_came : MethodName := ⟨RX7, "came", "()I"⟩
abbrev cX7_keep : ByteArray := prog_9_method_12_code
def yX7_keep : MethodName := ⟨RX7, "keep", "()I"⟩
abbrev cX7_restore : ByteArray := prog_9_method_13_code
def yX7_restore : MethodName := ⟨RX7, "restore", "()I"⟩
abbrev cX7_noEar : ByteArray := prog_9_method_14_code
def yX7_noEar : MethodName := ⟨RX7, "noEar", "(I)Z"⟩
abbrev cX7_of : ByteArray := prog_9_method_15_code
def yX7_of : MethodName := ⟨RX7, "of", "(II)I"⟩
abbrev cX7_bury : ByteArray := prog_9_method_16_code
def yX7_bury : MethodName := ⟨RX7, "bury", "(I)I"⟩
abbrev cX7_setClock : ByteArray := prog_9_method_17_code
def yX7_setClock : MethodName := ⟨RX7, "setClock", "(III)I"⟩
abbrev cX7_mutes : ByteArray := prog_9_method_18_code
def yX7_mutes : MethodName := ⟨RX7, "mutes", "()I"⟩
abbrev cX7_mute : ByteArray := prog_9_method_19_code
def yX7_mute : MethodName := ⟨RX7, "mute", "(IZ)I"⟩
abbrev cX7_set : ByteArray := prog_9_method_20_code
def yX7_set : MethodName := ⟨RX7, "set", "(II)I"⟩
abbrev cX7_come : ByteArray := prog_9_method_21_code
def yX7_come : MethodName := ⟨RX7, "come", "(III)I"⟩
abbrev cX7_heardOf : ByteArray := prog_9_method_22_code
def yX7_heardOf : MethodName := ⟨RX7, "heardOf", "(III)I"⟩
abbrev cX7_none : ByteArray := prog_9_method_23_code
def yX7_none : MethodName := ⟨RX7, "none", "(II)Z"⟩
abbrev cX7_reads : ByteArray := prog_9_method_24_code
def yX7_reads : MethodName := ⟨RX7, "reads", "(II)I"⟩
abbrev cX7_make : ByteArray := prog_9_method_25_code
def yX7_make : MethodName := ⟨RX7, "make", "(IIII)I"⟩
abbrev cX7_act : ByteArray := prog_9_method_26_code
def yX7_act : MethodName := ⟨RX7, "act", "(IIII)I"⟩
abbrev cX7_thump : ByteArray := prog_9_method_27_code
def yX7_thump : MethodName := ⟨RX7, "thump", "(III)I"⟩
abbrev cX7_knock : ByteArray := prog_9_method_28_code
def yX7_knock : MethodName := ⟨RX7, "knock", "(III)I"⟩
abbrev cX7_outs : ByteArray := prog_9_method_29_code
def yX7_outs : MethodName := ⟨RX7, "outs", "()I"⟩
abbrev cX7_leaveOut : ByteArray := prog_9_method_30_code
def yX7_leaveOut : MethodName := ⟨RX7, "leaveOut", "(IZ)I"⟩
abbrev cX7_type : ByteArray := prog_9_method_31_code
def yX7_type : MethodName := ⟨RX7, "type", "(C)I"⟩
abbrev cX7_clearText : ByteArray := prog_9_method_32_code
def yX7_clearText : MethodName := ⟨RX7, "clearText", "()I"⟩
abbrev cX7_sees : ByteArray := prog_9_method_33_code
def yX7_sees : MethodName := ⟨RX7, "sees", "(CC)Z"⟩
abbrev cX7_number : ByteArray := prog_9_method_34_code
def yX7_number : MethodName := ⟨RX7, "number", "()I"⟩
abbrev cX7_takes : ByteArray := prog_9_method_35_code
def yX7_takes : MethodName := ⟨RX7, "takes", "(C)Z"⟩
abbrev cX7_order : ByteArray := prog_9_method_36_code
def yX7_order : MethodName := ⟨RX7, "order", "(Z)Z"⟩
abbrev cX7_orders : ByteArray := prog_9_method_37_code
def yX7_orders : MethodName := ⟨RX7, "orders", "(Z)I"⟩
abbrev cX7_readOrders : ByteArray := prog_9_method_38_code
def yX7_readOrders : MethodName := ⟨RX7, "readOrders", "()I"⟩
abbrev cX7_findMarks : ByteArray := prog_9_method_39_code
def yX7_findMarks : MethodName := ⟨RX7, "findMarks", "(I)V"⟩
abbrev cX7_errorAt : ByteArray := prog_9_method_40_code
def yX7_errorAt : MethodName := ⟨RX7, "errorAt", "(II)J"⟩
abbrev cX7_rightOf : ByteArray := prog_9_method_41_code
def yX7_rightOf : MethodName := ⟨RX7, "rightOf", "(II)J"⟩
abbrev cX7_knocksHeard : ByteArray := prog_9_method_42_code
def yX7_knocksHeard : MethodName := ⟨RX7, "knocksHeard", "(I)I"⟩
abbrev cX7_ear : ByteArray := prog_9_method_43_code
def yX7_ear : MethodName := ⟨RX7, "ear", "(II)I"⟩
abbrev cX7_clock : ByteArray := prog_9_method_44_code
def yX7_clock : MethodName := ⟨RX7, "clock", "(II)I"⟩
abbrev cX7_mark : ByteArray := prog_9_method_45_code
def yX7_mark : MethodName := ⟨RX7, "mark", "(III)I"⟩
abbrev cX7_error : ByteArray := prog_9_method_46_code
def yX7_error : MethodName := ⟨RX7, "error", "(II)J"⟩
abbrev cX7_stalest : ByteArray := prog_9_method_47_code
def yX7_stalest : MethodName := ⟨RX7, "stalest", "()I"⟩
abbrev cX7_heard : ByteArray := prog_9_method_48_code
def yX7_heard : MethodName := ⟨RX7, "heard", "(ZII)I"⟩
abbrev cX7_putRight : ByteArray := prog_9_method_49_code
def yX7_putRight : MethodName := ⟨RX7, "putRight", "(II)J"⟩
abbrev cX7_hearers : ByteArray := prog_9_method_50_code
def yX7_hearers : MethodName := ⟨RX7, "hearers", "(I)I"⟩
abbrev cX7_findRight : ByteArray := prog_9_method_51_code
def yX7_findRight : MethodName := ⟨RX7, "findRight", "(I)V"⟩
abbrev cX7_beginning : ByteArray := prog_9_method_52_code
def yX7_beginning : MethodName := ⟨RX7, "beginning", "(III)J"⟩
abbrev cX7_spreadAt : ByteArray := prog_9_method_53_code
def yX7_spreadAt : MethodName := ⟨RX7, "spreadAt", "(II)J"⟩
abbrev cX7_placeOf : ByteArray := prog_9_method_54_code
def yX7_placeOf : MethodName := ⟨RX7, "placeOf", "(I)I"⟩
abbrev cX7_worst : ByteArray := prog_9_method_55_code
def yX7_worst : MethodName := ⟨RX7, "worst", "(IIJ)I"⟩
abbrev cX7_found : ByteArray := prog_9_method_56_code
def yX7_found : MethodName := ⟨RX7, "found", "(II)J"⟩
abbrev cX7_spread : ByteArray := prog_9_method_57_code
def yX7_spread : MethodName := ⟨RX7, "spread", "(II)J"⟩
abbrev cX7_truth : ByteArray := prog_9_method_58_code
def yX7_truth : MethodName := ⟨RX7, "truth", "(II)I"⟩
abbrev cX7_fitting : ByteArray := prog_9_method_59_code
def yX7_fitting : MethodName := ⟨RX7, "fitting", "()I"⟩
abbrev cX7_count : ByteArray := prog_9_method_60_code
def yX7_count : MethodName := ⟨RX7, "count", "(I)I"⟩
def RJ9 : String := "java/lang/Math"
abbrev cJ9_floorDiv_7cf53 : ByteArray := prog_10_method_47_code
def yJ9_floorDiv_7cf53 : MethodName := ⟨RJ9, "floorDiv", "(II)I"⟩
abbrev cJ9_floorDiv_f86c9 : ByteArray := prog_10_method_49_code
def yJ9_floorDiv_f86c9 : MethodName := ⟨RJ9, "floorDiv", "(JJ)J"⟩
abbrev cJ9_abs_0f7a4 : ByteArray := prog_10_method_59_code
def yJ9_abs_0f7a4 : MethodName := ⟨RJ9, "abs", "(I)I"⟩
abbrev cJ9_abs_067f4 : ByteArray := prog_10_method_61_code
def yJ9_abs_067f4 : MethodName := ⟨RJ9, "abs", "(J)J"⟩
abbrev cJ9_max_f86c9 : ByteArray := prog_10_method_66_code
def yJ9_max_f86c9 : MethodName := ⟨RJ9, "max", "(JJ)J"⟩
abbrev cJ9_min_7cf53 : ByteArray := prog_10_method_69_code
def yJ9_min_7cf53 : MethodName := ⟨RJ9, "min", "(II)I"⟩
abbrev cJ9_min_f86c9 : ByteArray := prog_10_method_70_code
def yJ9_min_f86c9 : MethodName := ⟨RJ9, "min", "(JJ)J"⟩
def RJ10 : String := "java/lang/System"
def RL : String := "ThumpEarsLaw"
abbrev cL_law : ByteArray := code
def yL_law : MethodName := ⟨RL, "law", "([I)Z"⟩
abbrev vwCl : List vw_C := [(RX0, TX0, 2), (RX1, TX1, 4), (RX2, TX2, 9), (RX3, TX3, 5), (RX4, TX4, 8), (RX5, TX5, 11), (RX6, TX6, 7), (RX7, TX7, 17)]
def TT : List Cond := lw_tbl.filter goodWord
theorem TT_good : ∀ w ∈ TT, goodWord w = true := fun _ h => (List.mem_filter.mp h).2
theorem TT_in : ∀ w ∈ TT, w ∈ lw_tbl := fun _ h => (List.mem_filter.mp h).1
theorem TT_of {w : Cond} (k : Nat) (h : lw_tbl[k]? = some w) (h2 : goodWord w = true) : w ∈ TT := List.mem_filter.mpr ⟨List.mem_of_getElem? h, h2⟩
theorem tq_0 : (Jvm.Cond.selects "ThumpEars" (⟨"ThumpEars", "flag", "([ZIIZ)I"⟩ : Jvm.MethodName) (⟨"ThumpEars", "flag", "([ZIIZ)I"⟩ : Jvm.MethodName)) ∈ TT := TT_of 0 (by decide +kernel) (by decide +kernel)
theorem tq_1 : (Jvm.Cond.selects "ThumpEars" (⟨"ThumpEars", "setPace", "(I)I"⟩ : Jvm.MethodName) (⟨"ThumpEars", "setPace", "(I)I"⟩ : Jvm.MethodName)) ∈ TT := TT_of 1 (by decide +kernel) (by decide +kernel)
theorem tq_2 : (Jvm.Cond.selects "ThumpEars" (⟨"ThumpEars", "setTolerance", "(I)I"⟩ : Jvm.MethodName) (⟨"ThumpEars", "setTolerance", "(I)I"⟩ : Jvm.MethodName)) ∈ TT := TT_of 2 (by decide +kernel) (by decide +kernel)
theorem tq_3 : (Jvm.Cond.selects "ThumpEars" (⟨"ThumpEars", "makeSound", "(LThumpEars$Sounds;III)I"⟩ : Jvm.MethodName) (⟨"ThumpEars", "makeSound", "(LThumpEars$Sounds;III)I"⟩ : Jvm.MethodName)) ∈ TT := TT_of 3 (by decide +kernel) (by decide +kernel)
theorem tq_4 : (Jvm.Cond.selects "ThumpEars" (⟨"ThumpEars", "refusalOfOrders", "()I"⟩ : Jvm.MethodName) (⟨"ThumpEars", "refusalOfOrders", "()I"⟩ : Jvm.MethodName)) ∈ TT := TT_of 4 (by decide +kernel) (by decide +kernel)
theorem tq_5 : (Jvm.Cond.selects "ThumpEars" (⟨"ThumpEars", "latestReading", "(I)I"⟩ : Jvm.MethodName) (⟨"ThumpEars", "latestReading", "(I)I"⟩ : Jvm.MethodName)) ∈ TT := TT_of 5 (by decide +kernel) (by decide +kernel)
theorem tq_6 : (Jvm.Cond.selects "ThumpEars" (⟨"ThumpEars", "missOf", "(I)I"⟩ : Jvm.MethodName) (⟨"ThumpEars", "missOf", "(I)I"⟩ : Jvm.MethodName)) ∈ TT := TT_of 6 (by decide +kernel) (by decide +kernel)
theorem tq_7 : (Jvm.Cond.selects "ThumpEars" (⟨"ThumpEars", "countFitting", "()I"⟩ : Jvm.MethodName) (⟨"ThumpEars", "countFitting", "()I"⟩ : Jvm.MethodName)) ∈ TT := TT_of 7 (by decide +kernel) (by decide +kernel)
theorem tq_8 : (Jvm.Cond.selects "ThumpEarsModel" (⟨"ThumpEarsModel", "came", "()I"⟩ : Jvm.MethodName) (⟨"ThumpEarsModel", "came", "()I"⟩ : Jvm.MethodName)) ∈ TT := TT_of 8 (by decide +kernel) (by decide +kernel)
theorem tq_9 : (Jvm.Cond.selects "ThumpEarsModel" (⟨"ThumpEarsModel", "open", "()V"⟩ : Jvm.MethodName) (⟨"ThumpEarsModel", "open", "()V"⟩ : Jvm.MethodName)) ∈ TT := TT_of 9 (by decide +kernel) (by decide +kernel)
theorem tq_10 : (Jvm.Cond.selects "ThumpEarsModel" (⟨"ThumpEarsModel", "remember", "()V"⟩ : Jvm.MethodName) (⟨"ThumpEarsModel", "remember", "()V"⟩ : Jvm.MethodName)) ∈ TT := TT_of 10 (by decide +kernel) (by decide +kernel)
theorem tq_11 : (Jvm.Cond.selects "ThumpEarsModel" (⟨"ThumpEarsModel", "record", "()V"⟩ : Jvm.MethodName) (⟨"ThumpEarsModel", "record", "()V"⟩ : Jvm.MethodName)) ∈ TT := TT_of 11 (by decide +kernel) (by decide +kernel)
theorem tq_12 : (Jvm.Cond.selects "ThumpEarsModel" (⟨"ThumpEarsModel", "noEar", "(I)Z"⟩ : Jvm.MethodName) (⟨"ThumpEarsModel", "noEar", "(I)Z"⟩ : Jvm.MethodName)) ∈ TT := TT_of 12 (by decide +kernel) (by decide +kernel)
theorem tq_13 : (Jvm.Cond.selects "ThumpEarsModel" (⟨"ThumpEarsModel", "of", "(II)I"⟩ : Jvm.MethodName) (⟨"ThumpEarsModel", "of", "(II)I"⟩ : Jvm.MethodName)) ∈ TT := TT_of 13 (by decide +kernel) (by decide +kernel)
theorem tq_14 : (Jvm.Cond.selects "ThumpEarsModel" (⟨"ThumpEarsModel", "mutes", "()I"⟩ : Jvm.MethodName) (⟨"ThumpEarsModel", "mutes", "()I"⟩ : Jvm.MethodName)) ∈ TT := TT_of 14 (by decide +kernel) (by decide +kernel)
theorem tq_15 : (Jvm.Cond.selects "ThumpEarsModel" (⟨"ThumpEarsModel", "act", "(IIII)I"⟩ : Jvm.MethodName) (⟨"ThumpEarsModel", "act", "(IIII)I"⟩ : Jvm.MethodName)) ∈ TT := TT_of 15 (by decide +kernel) (by decide +kernel)
theorem tq_16 : (Jvm.Cond.selects "ThumpEarsModel" (⟨"ThumpEarsModel", "make", "(IIII)I"⟩ : Jvm.MethodName) (⟨"ThumpEarsModel", "make", "(IIII)I"⟩ : Jvm.MethodName)) ∈ TT := TT_of 16 (by decide +kernel) (by decide +kernel)
theorem tq_17 : (Jvm.Cond.selects "ThumpEarsModel" (⟨"ThumpEarsModel", "reads", "(II)I"⟩ : Jvm.MethodName) (⟨"ThumpEarsModel", "reads", "(II)I"⟩ : Jvm.MethodName)) ∈ TT := TT_of 17 (by decide +kernel) (by decide +kernel)
theorem tq_18 : (Jvm.Cond.selects "ThumpEarsModel" (⟨"ThumpEarsModel", "none", "(II)Z"⟩ : Jvm.MethodName) (⟨"ThumpEarsModel", "none", "(II)Z"⟩ : Jvm.MethodName)) ∈ TT := TT_of 18 (by decide +kernel) (by decide +kernel)
theorem tq_19 : (Jvm.Cond.selects "ThumpEarsModel" (⟨"ThumpEarsModel", "come", "(III)I"⟩ : Jvm.MethodName) (⟨"ThumpEarsModel", "come", "(III)I"⟩ : Jvm.MethodName)) ∈ TT := TT_of 19 (by decide +kernel) (by decide +kernel)
theorem tq_20 : (Jvm.Cond.selects "ThumpEarsModel" (⟨"ThumpEarsModel", "outs", "()I"⟩ : Jvm.MethodName) (⟨"ThumpEarsModel", "outs", "()I"⟩ : Jvm.MethodName)) ∈ TT := TT_of 20 (by decide +kernel) (by decide +kernel)
theorem tq_21 : (Jvm.Cond.selects "ThumpEarsModel" (⟨"ThumpEarsModel", "orders", "(Z)I"⟩ : Jvm.MethodName) (⟨"ThumpEarsModel", "orders", "(Z)I"⟩ : Jvm.MethodName)) ∈ TT := TT_of 21 (by decide +kernel) (by decide +kernel)
theorem tq_22 : (Jvm.Cond.selects "ThumpEarsModel" (⟨"ThumpEarsModel", "order", "(Z)Z"⟩ : Jvm.MethodName) (⟨"ThumpEarsModel", "order", "(Z)Z"⟩ : Jvm.MethodName)) ∈ TT := TT_of 22 (by decide +kernel) (by decide +kernel)
theorem tq_23 : (Jvm.Cond.selects "ThumpEarsModel" (⟨"ThumpEarsModel", "sees", "(CC)Z"⟩ : Jvm.MethodName) (⟨"ThumpEarsModel", "sees", "(CC)Z"⟩ : Jvm.MethodName)) ∈ TT := TT_of 23 (by decide +kernel) (by decide +kernel)
theorem tq_24 : (Jvm.Cond.selects "ThumpEarsModel" (⟨"ThumpEarsModel", "number", "()I"⟩ : Jvm.MethodName) (⟨"ThumpEarsModel", "number", "()I"⟩ : Jvm.MethodName)) ∈ TT := TT_of 24 (by decide +kernel) (by decide +kernel)
theorem tq_25 : (Jvm.Cond.selects "ThumpEarsModel" (⟨"ThumpEarsModel", "takes", "(C)Z"⟩ : Jvm.MethodName) (⟨"ThumpEarsModel", "takes", "(C)Z"⟩ : Jvm.MethodName)) ∈ TT := TT_of 25 (by decide +kernel) (by decide +kernel)
theorem tq_26 : (Jvm.Cond.selects "ThumpEarsModel" (⟨"ThumpEarsModel", "goBack", "()V"⟩ : Jvm.MethodName) (⟨"ThumpEarsModel", "goBack", "()V"⟩ : Jvm.MethodName)) ∈ TT := TT_of 26 (by decide +kernel) (by decide +kernel)
theorem tq_27 : (Jvm.Cond.selects "ThumpEarsModel" (⟨"ThumpEarsModel", "findMarks", "(I)V"⟩ : Jvm.MethodName) (⟨"ThumpEarsModel", "findMarks", "(I)V"⟩ : Jvm.MethodName)) ∈ TT := TT_of 27 (by decide +kernel) (by decide +kernel)
theorem tq_28 : (Jvm.Cond.selects "ThumpEarsModel" (⟨"ThumpEarsModel", "heardOf", "(III)I"⟩ : Jvm.MethodName) (⟨"ThumpEarsModel", "heardOf", "(III)I"⟩ : Jvm.MethodName)) ∈ TT := TT_of 28 (by decide +kernel) (by decide +kernel)
theorem tq_29 : (Jvm.Cond.selects "ThumpEarsModel" (⟨"ThumpEarsModel", "knocksHeard", "(I)I"⟩ : Jvm.MethodName) (⟨"ThumpEarsModel", "knocksHeard", "(I)I"⟩ : Jvm.MethodName)) ∈ TT := TT_of 29 (by decide +kernel) (by decide +kernel)
theorem tq_30 : (Jvm.Cond.selects "ThumpEarsModel" (⟨"ThumpEarsModel", "errorAt", "(II)J"⟩ : Jvm.MethodName) (⟨"ThumpEarsModel", "errorAt", "(II)J"⟩ : Jvm.MethodName)) ∈ TT := TT_of 30 (by decide +kernel) (by decide +kernel)
theorem tq_31 : (Jvm.Cond.selects "ThumpEarsModel" (⟨"ThumpEarsModel", "rightOf", "(II)J"⟩ : Jvm.MethodName) (⟨"ThumpEarsModel", "rightOf", "(II)J"⟩ : Jvm.MethodName)) ∈ TT := TT_of 31 (by decide +kernel) (by decide +kernel)
theorem tq_32 : (Jvm.Cond.selects "ThumpEarsModel" (⟨"ThumpEarsModel", "hearers", "(I)I"⟩ : Jvm.MethodName) (⟨"ThumpEarsModel", "hearers", "(I)I"⟩ : Jvm.MethodName)) ∈ TT := TT_of 32 (by decide +kernel) (by decide +kernel)
theorem tq_33 : (Jvm.Cond.selects "ThumpEarsModel" (⟨"ThumpEarsModel", "placeOf", "(I)I"⟩ : Jvm.MethodName) (⟨"ThumpEarsModel", "placeOf", "(I)I"⟩ : Jvm.MethodName)) ∈ TT := TT_of 33 (by decide +kernel) (by decide +kernel)
theorem tq_34 : (Jvm.Cond.selects "ThumpEarsModel" (⟨"ThumpEarsModel", "findRight", "(I)V"⟩ : Jvm.MethodName) (⟨"ThumpEarsModel", "findRight", "(I)V"⟩ : Jvm.MethodName)) ∈ TT := TT_of 34 (by decide +kernel) (by decide +kernel)
theorem tq_35 : (Jvm.Cond.selects "ThumpEarsModel" (⟨"ThumpEarsModel", "spreadAt", "(II)J"⟩ : Jvm.MethodName) (⟨"ThumpEarsModel", "spreadAt", "(II)J"⟩ : Jvm.MethodName)) ∈ TT := TT_of 35 (by decide +kernel) (by decide +kernel)
theorem tq_36 : (Jvm.Cond.selects "ThumpEarsModel" (⟨"ThumpEarsModel", "beginning", "(III)J"⟩ : Jvm.MethodName) (⟨"ThumpEarsModel", "beginning", "(III)J"⟩ : Jvm.MethodName)) ∈ TT := TT_of 36 (by decide +kernel) (by decide +kernel)
theorem tq_37 : (Jvm.Cond.selects "ThumpEarsModel" (⟨"ThumpEarsModel", "worst", "(IIJ)I"⟩ : Jvm.MethodName) (⟨"ThumpEarsModel", "worst", "(IIJ)I"⟩ : Jvm.MethodName)) ∈ TT := TT_of 37 (by decide +kernel) (by decide +kernel)
theorem tq_38 : (Jvm.Cond.selects "ThumpEarsModel" (⟨"ThumpEarsModel", "fitting", "()I"⟩ : Jvm.MethodName) (⟨"ThumpEarsModel", "fitting", "()I"⟩ : Jvm.MethodName)) ∈ TT := TT_of 38 (by decide +kernel) (by decide +kernel)
theorem tq_39 : (Jvm.Cond.initialized "ThumpEarsLaw") ∈ TT := TT_of 39 (by decide +kernel) (by decide +kernel)
theorem tq_40 : (Jvm.Cond.initialized "ThumpEars") ∈ TT := TT_of 40 (by decide +kernel) (by decide +kernel)
theorem tq_41 : (Jvm.Cond.initialized "ThumpEars$State") ∈ TT := TT_of 41 (by decide +kernel) (by decide +kernel)
theorem tq_42 : (Jvm.Cond.initialized "ThumpEars$Sounds") ∈ TT := TT_of 42 (by decide +kernel) (by decide +kernel)
theorem tq_43 : (Jvm.Cond.initialized "ThumpEars$History") ∈ TT := TT_of 43 (by decide +kernel) (by decide +kernel)
theorem tq_44 : (Jvm.Cond.initialized "ThumpEars$OrderText") ∈ TT := TT_of 44 (by decide +kernel) (by decide +kernel)
theorem tq_45 : (Jvm.Cond.initialized "ThumpEars$Marks") ∈ TT := TT_of 45 (by decide +kernel) (by decide +kernel)
theorem tq_46 : (Jvm.Cond.initialized "ThumpEars$Source") ∈ TT := TT_of 46 (by decide +kernel) (by decide +kernel)
theorem tq_47 : (Jvm.Cond.initialized "ThumpEarsModel") ∈ TT := TT_of 47 (by decide +kernel) (by decide +kernel)
theorem tq_48 : (Jvm.Cond.initialized "java/lang/System") ∈ TT := TT_of 48 (by decide +kernel) (by decide +kernel)
theorem tq_49 : (Jvm.Cond.initialized "java/lang/Math") ∈ TT := TT_of 49 (by decide +kernel) (by decide +kernel)
theorem tq_50 : (Jvm.Cond.classLink "ThumpEarsLaw" 7 "ThumpEars") ∈ TT := TT_of 50 (by decide +kernel) (by decide +kernel)
theorem tq_51 : (Jvm.Cond.instantiable "ThumpEars" 7) ∈ TT := TT_of 51 (by decide +kernel) (by decide +kernel)
theorem tq_52 : (Jvm.Cond.methodLink "ThumpEarsLaw" 9 (⟨"ThumpEars", "<init>", "()V"⟩ : Jvm.MethodName)) ∈ TT := TT_of 52 (by decide +kernel) (by decide +kernel)
theorem tq_53 : (Jvm.Cond.instanceMethod (⟨"ThumpEars", "<init>", "()V"⟩ : Jvm.MethodName)) ∈ TT := TT_of 53 (by decide +kernel) (by decide +kernel)
theorem tq_54 : (Jvm.Cond.code (⟨"ThumpEars", "<init>", "()V"⟩ : Jvm.MethodName) prog_1_method_1_code 1 (Option.none : Option Jvm.ClassFile.FieldType)) ∈ TT := TT_of 54 (by decide +kernel) (by decide +kernel)
theorem tq_55 : (Jvm.Cond.methodLink "ThumpEars" 1 (⟨"java/lang/Object", "<init>", "()V"⟩ : Jvm.MethodName)) ∈ TT := TT_of 55 (by decide +kernel) (by decide +kernel)
theorem tq_56 : (Jvm.Cond.instanceMethod (⟨"java/lang/Object", "<init>", "()V"⟩ : Jvm.MethodName)) ∈ TT := TT_of 56 (by decide +kernel) (by decide +kernel)
theorem tq_57 : (Jvm.Cond.code (⟨"java/lang/Object", "<init>", "()V"⟩ : Jvm.MethodName) object_method_1_code 1 (Option.none : Option Jvm.ClassFile.FieldType)) ∈ TT := TT_of 57 (by decide +kernel) (by decide +kernel)
theorem tq_58 : (Jvm.Cond.classLink "ThumpEars" 7 "ThumpEars$State") ∈ TT := TT_of 58 (by decide +kernel) (by decide +kernel)
theorem tq_59 : (Jvm.Cond.instantiable "ThumpEars$State" 11) ∈ TT := TT_of 59 (by decide +kernel) (by decide +kernel)
theorem tl_60 : (Jvm.Cond.methodLinkNest "ThumpEars" 9 (⟨"ThumpEars$State", "<init>", "()V"⟩ : Jvm.MethodName) "ThumpEars") ∈ lw_tbl := List.mem_of_getElem? (i := 60) (by decide +kernel)
theorem tq_61 : (Jvm.Cond.instanceMethod (⟨"ThumpEars$State", "<init>", "()V"⟩ : Jvm.MethodName)) ∈ TT := TT_of 61 (by decide +kernel) (by decide +kernel)
theorem tq_62 : (Jvm.Cond.code (⟨"ThumpEars$State", "<init>", "()V"⟩ : Jvm.MethodName) prog_7_method_1_code 1 (Option.none : Option Jvm.ClassFile.FieldType)) ∈ TT := TT_of 62 (by decide +kernel) (by decide +kernel)
theorem tq_63 : (Jvm.Cond.methodLink "ThumpEars$State" 3 (⟨"java/lang/Object", "<init>", "()V"⟩ : Jvm.MethodName)) ∈ TT := TT_of 63 (by decide +kernel) (by decide +kernel)
theorem tq_64 : (Jvm.Cond.classLink "ThumpEars$State" 28 "ThumpEars$Sounds") ∈ TT := TT_of 64 (by decide +kernel) (by decide +kernel)
theorem tq_65 : (Jvm.Cond.instantiable "ThumpEars$Sounds" 5) ∈ TT := TT_of 65 (by decide +kernel) (by decide +kernel)
theorem tl_66 : (Jvm.Cond.methodLinkNest "ThumpEars$State" 30 (⟨"ThumpEars$Sounds", "<init>", "()V"⟩ : Jvm.MethodName) "ThumpEars") ∈ lw_tbl := List.mem_of_getElem? (i := 66) (by decide +kernel)
theorem tq_67 : (Jvm.Cond.instanceMethod (⟨"ThumpEars$Sounds", "<init>", "()V"⟩ : Jvm.MethodName)) ∈ TT := TT_of 67 (by decide +kernel) (by decide +kernel)
theorem tq_68 : (Jvm.Cond.code (⟨"ThumpEars$Sounds", "<init>", "()V"⟩ : Jvm.MethodName) prog_5_method_1_code 1 (Option.none : Option Jvm.ClassFile.FieldType)) ∈ TT := TT_of 68 (by decide +kernel) (by decide +kernel)
theorem tq_69 : (Jvm.Cond.methodLink "ThumpEars$Sounds" 3 (⟨"java/lang/Object", "<init>", "()V"⟩ : Jvm.MethodName)) ∈ TT := TT_of 69 (by decide +kernel) (by decide +kernel)
theorem tq_70 : (Jvm.Cond.classLink "ThumpEars$Sounds" 21 "[[I") ∈ TT := TT_of 70 (by decide +kernel) (by decide +kernel)
theorem tl_71 : (Jvm.Cond.arrayOver (Jvm.ClassFile.FieldType.array Jvm.ClassFile.FieldType.int)) ∈ lw_tbl := List.mem_of_getElem? (i := 71) (by decide +kernel)
theorem tq_72 : (Jvm.Cond.fieldLink "ThumpEars$Sounds" 9 "ThumpEars$Sounds" "places" "[I") ∈ TT := TT_of 72 (by decide +kernel) (by decide +kernel)
theorem tq_73 : (Jvm.Cond.fieldLink "ThumpEars$Marks" 45 "ThumpEars$Sounds" "places" "[I") ∈ TT := TT_of 73 (by decide +kernel) (by decide +kernel)
theorem tq_74 : (Jvm.Cond.fieldLink "ThumpEars$State" 93 "ThumpEars$Sounds" "places" "[I") ∈ TT := TT_of 74 (by decide +kernel) (by decide +kernel)
theorem tq_75 : (Jvm.Cond.fieldLink "ThumpEars" 230 "ThumpEars$Sounds" "places" "[I") ∈ TT := TT_of 75 (by decide +kernel) (by decide +kernel)
theorem tq_76 : (Jvm.Cond.fieldLink "ThumpEars$Sounds" 15 "ThumpEars$Sounds" "times" "[I") ∈ TT := TT_of 76 (by decide +kernel) (by decide +kernel)
theorem tq_77 : (Jvm.Cond.fieldLink "ThumpEars$Marks" 52 "ThumpEars$Sounds" "times" "[I") ∈ TT := TT_of 77 (by decide +kernel) (by decide +kernel)
theorem tq_78 : (Jvm.Cond.fieldLink "ThumpEars$State" 94 "ThumpEars$Sounds" "times" "[I") ∈ TT := TT_of 78 (by decide +kernel) (by decide +kernel)
theorem tq_79 : (Jvm.Cond.fieldLink "ThumpEars" 231 "ThumpEars$Sounds" "times" "[I") ∈ TT := TT_of 79 (by decide +kernel) (by decide +kernel)
theorem tq_80 : (Jvm.Cond.fieldLink "ThumpEars$Sounds" 18 "ThumpEars$Sounds" "paces" "[I") ∈ TT := TT_of 80 (by decide +kernel) (by decide +kernel)
theorem tq_81 : (Jvm.Cond.fieldLink "ThumpEars$Source" 47 "ThumpEars$Sounds" "paces" "[I") ∈ TT := TT_of 81 (by decide +kernel) (by decide +kernel)
theorem tq_82 : (Jvm.Cond.fieldLink "ThumpEars$Marks" 55 "ThumpEars$Sounds" "paces" "[I") ∈ TT := TT_of 82 (by decide +kernel) (by decide +kernel)
theorem tq_83 : (Jvm.Cond.fieldLink "ThumpEars$State" 97 "ThumpEars$Sounds" "paces" "[I") ∈ TT := TT_of 83 (by decide +kernel) (by decide +kernel)
theorem tq_84 : (Jvm.Cond.fieldLink "ThumpEars$Sounds" 23 "ThumpEars$Sounds" "readings" "[[I") ∈ TT := TT_of 84 (by decide +kernel) (by decide +kernel)
theorem tq_85 : (Jvm.Cond.fieldLink "ThumpEars$Marks" 33 "ThumpEars$Sounds" "readings" "[[I") ∈ TT := TT_of 85 (by decide +kernel) (by decide +kernel)
theorem tq_86 : (Jvm.Cond.fieldLink "ThumpEars$Source" 54 "ThumpEars$Sounds" "readings" "[[I") ∈ TT := TT_of 86 (by decide +kernel) (by decide +kernel)
theorem tq_87 : (Jvm.Cond.fieldLink "ThumpEars$State" 89 "ThumpEars$Sounds" "readings" "[[I") ∈ TT := TT_of 87 (by decide +kernel) (by decide +kernel)
theorem tq_88 : (Jvm.Cond.fieldLink "ThumpEars" 192 "ThumpEars$Sounds" "readings" "[[I") ∈ TT := TT_of 88 (by decide +kernel) (by decide +kernel)
theorem tq_89 : (Jvm.Cond.fieldLink "ThumpEars$Sounds" 26 "ThumpEars$Sounds" "size" "I") ∈ TT := TT_of 89 (by decide +kernel) (by decide +kernel)
theorem tq_90 : (Jvm.Cond.fieldLink "ThumpEars$Marks" 30 "ThumpEars$Sounds" "size" "I") ∈ TT := TT_of 90 (by decide +kernel) (by decide +kernel)
theorem tq_91 : (Jvm.Cond.fieldLink "ThumpEars$State" 78 "ThumpEars$Sounds" "size" "I") ∈ TT := TT_of 91 (by decide +kernel) (by decide +kernel)
theorem tq_92 : (Jvm.Cond.fieldLink "ThumpEars" 111 "ThumpEars$Sounds" "size" "I") ∈ TT := TT_of 92 (by decide +kernel) (by decide +kernel)
theorem tq_93 : (Jvm.Cond.laysFinal "ThumpEars$Sounds" "ThumpEars$Sounds" "places" "[I") ∈ TT := TT_of 93 (by decide +kernel) (by decide +kernel)
theorem tq_94 : (Jvm.Cond.soleField "ThumpEars$Sounds" "places") ∈ TT := TT_of 94 (by decide +kernel) (by decide +kernel)
theorem tq_95 : (Jvm.Cond.laysFinal "ThumpEars$Sounds" "ThumpEars$Sounds" "times" "[I") ∈ TT := TT_of 95 (by decide +kernel) (by decide +kernel)
theorem tq_96 : (Jvm.Cond.soleField "ThumpEars$Sounds" "times") ∈ TT := TT_of 96 (by decide +kernel) (by decide +kernel)
theorem tq_97 : (Jvm.Cond.laysFinal "ThumpEars$Sounds" "ThumpEars$Sounds" "paces" "[I") ∈ TT := TT_of 97 (by decide +kernel) (by decide +kernel)
theorem tq_98 : (Jvm.Cond.soleField "ThumpEars$Sounds" "paces") ∈ TT := TT_of 98 (by decide +kernel) (by decide +kernel)
theorem tq_99 : (Jvm.Cond.laysFinal "ThumpEars$Sounds" "ThumpEars$Sounds" "readings" "[[I") ∈ TT := TT_of 99 (by decide +kernel) (by decide +kernel)
theorem tq_100 : (Jvm.Cond.soleField "ThumpEars$Sounds" "readings") ∈ TT := TT_of 100 (by decide +kernel) (by decide +kernel)
theorem tq_101 : (Jvm.Cond.lays "ThumpEars$Sounds" "ThumpEars$Sounds" "size" "I") ∈ TT := TT_of 101 (by decide +kernel) (by decide +kernel)
theorem tq_102 : (Jvm.Cond.soleField "ThumpEars$Sounds" "size") ∈ TT := TT_of 102 (by decide +kernel) (by decide +kernel)
theorem tq_103 : (Jvm.Cond.superclass "ThumpEars$Sounds" "java/lang/Object") ∈ TT := TT_of 103 (by decide +kernel) (by decide +kernel)
theorem tq_104 : (Jvm.Cond.arrayClass Jvm.ClassFile.FieldType.int) ∈ TT := TT_of 104 (by decide +kernel) (by decide +kernel)
theorem tq_105 : (Jvm.Cond.arrayClass Jvm.ClassFile.FieldType.boolean) ∈ TT := TT_of 105 (by decide +kernel) (by decide +kernel)
theorem tq_106 : (Jvm.Cond.fieldLink "ThumpEars$State" 9 "ThumpEars$State" "places" "[I") ∈ TT := TT_of 106 (by decide +kernel) (by decide +kernel)
theorem tq_107 : (Jvm.Cond.fieldLink "ThumpEars$Source" 65 "ThumpEars$State" "places" "[I") ∈ TT := TT_of 107 (by decide +kernel) (by decide +kernel)
theorem tq_108 : (Jvm.Cond.fieldLink "ThumpEars" 156 "ThumpEars$State" "places" "[I") ∈ TT := TT_of 108 (by decide +kernel) (by decide +kernel)
theorem tq_109 : (Jvm.Cond.fieldLink "ThumpEars$State" 15 "ThumpEars$State" "offsets" "[I") ∈ TT := TT_of 109 (by decide +kernel) (by decide +kernel)
theorem tq_110 : (Jvm.Cond.fieldLink "ThumpEars" 71 "ThumpEars$State" "offsets" "[I") ∈ TT := TT_of 110 (by decide +kernel) (by decide +kernel)
theorem tq_111 : (Jvm.Cond.fieldLink "ThumpEars$State" 18 "ThumpEars$State" "drifts" "[I") ∈ TT := TT_of 111 (by decide +kernel) (by decide +kernel)
theorem tq_112 : (Jvm.Cond.fieldLink "ThumpEars" 75 "ThumpEars$State" "drifts" "[I") ∈ TT := TT_of 112 (by decide +kernel) (by decide +kernel)
theorem tq_113 : (Jvm.Cond.fieldLink "ThumpEars$State" 21 "ThumpEars$State" "mutes" "[Z") ∈ TT := TT_of 113 (by decide +kernel) (by decide +kernel)
theorem tq_114 : (Jvm.Cond.fieldLink "ThumpEars" 78 "ThumpEars$State" "mutes" "[Z") ∈ TT := TT_of 114 (by decide +kernel) (by decide +kernel)
theorem tq_115 : (Jvm.Cond.fieldLink "ThumpEars$State" 25 "ThumpEars$State" "leftOut" "[Z") ∈ TT := TT_of 115 (by decide +kernel) (by decide +kernel)
theorem tq_116 : (Jvm.Cond.fieldLink "ThumpEars$Marks" 37 "ThumpEars$State" "leftOut" "[Z") ∈ TT := TT_of 116 (by decide +kernel) (by decide +kernel)
theorem tq_117 : (Jvm.Cond.fieldLink "ThumpEars" 108 "ThumpEars$State" "leftOut" "[Z") ∈ TT := TT_of 117 (by decide +kernel) (by decide +kernel)
theorem tq_118 : (Jvm.Cond.fieldLink "ThumpEars$State" 31 "ThumpEars$State" "thumps" "LThumpEars$Sounds;") ∈ TT := TT_of 118 (by decide +kernel) (by decide +kernel)
theorem tq_119 : (Jvm.Cond.fieldLink "ThumpEars$Marks" 25 "ThumpEars$State" "thumps" "LThumpEars$Sounds;") ∈ TT := TT_of 119 (by decide +kernel) (by decide +kernel)
theorem tq_120 : (Jvm.Cond.fieldLink "ThumpEars" 92 "ThumpEars$State" "thumps" "LThumpEars$Sounds;") ∈ TT := TT_of 120 (by decide +kernel) (by decide +kernel)
theorem tq_121 : (Jvm.Cond.fieldLink "ThumpEars$State" 35 "ThumpEars$State" "knocks" "LThumpEars$Sounds;") ∈ TT := TT_of 121 (by decide +kernel) (by decide +kernel)
theorem tq_122 : (Jvm.Cond.fieldLink "ThumpEars$Source" 41 "ThumpEars$State" "knocks" "LThumpEars$Sounds;") ∈ TT := TT_of 122 (by decide +kernel) (by decide +kernel)
theorem tq_123 : (Jvm.Cond.fieldLink "ThumpEars" 100 "ThumpEars$State" "knocks" "LThumpEars$Sounds;") ∈ TT := TT_of 123 (by decide +kernel) (by decide +kernel)
theorem tq_124 : (Jvm.Cond.fieldLink "ThumpEars$State" 38 "ThumpEars$State" "ears" "I") ∈ TT := TT_of 124 (by decide +kernel) (by decide +kernel)
theorem tq_125 : (Jvm.Cond.fieldLink "ThumpEars" 55 "ThumpEars$State" "ears" "I") ∈ TT := TT_of 125 (by decide +kernel) (by decide +kernel)
theorem tq_126 : (Jvm.Cond.fieldLink "ThumpEars$Source" 52 "ThumpEars$State" "ears" "I") ∈ TT := TT_of 126 (by decide +kernel) (by decide +kernel)
theorem tq_127 : (Jvm.Cond.fieldLink "ThumpEars$State" 42 "ThumpEars$State" "pace" "I") ∈ TT := TT_of 127 (by decide +kernel) (by decide +kernel)
theorem tq_128 : (Jvm.Cond.fieldLink "ThumpEars" 235 "ThumpEars$State" "pace" "I") ∈ TT := TT_of 128 (by decide +kernel) (by decide +kernel)
theorem tq_129 : (Jvm.Cond.fieldLink "ThumpEars$State" 45 "ThumpEars$State" "tolerance" "I") ∈ TT := TT_of 129 (by decide +kernel) (by decide +kernel)
theorem tq_130 : (Jvm.Cond.fieldLink "ThumpEars" 217 "ThumpEars$State" "tolerance" "I") ∈ TT := TT_of 130 (by decide +kernel) (by decide +kernel)
theorem tq_131 : (Jvm.Cond.fieldLink "ThumpEars$State" 48 "ThumpEars$State" "latest" "I") ∈ TT := TT_of 131 (by decide +kernel) (by decide +kernel)
theorem tq_132 : (Jvm.Cond.fieldLink "ThumpEars" 238 "ThumpEars$State" "latest" "I") ∈ TT := TT_of 132 (by decide +kernel) (by decide +kernel)
theorem tq_133 : (Jvm.Cond.laysFinal "ThumpEars$State" "ThumpEars$State" "places" "[I") ∈ TT := TT_of 133 (by decide +kernel) (by decide +kernel)
theorem tq_134 : (Jvm.Cond.soleField "ThumpEars$State" "places") ∈ TT := TT_of 134 (by decide +kernel) (by decide +kernel)
theorem tq_135 : (Jvm.Cond.laysFinal "ThumpEars$State" "ThumpEars$State" "offsets" "[I") ∈ TT := TT_of 135 (by decide +kernel) (by decide +kernel)
theorem tq_136 : (Jvm.Cond.soleField "ThumpEars$State" "offsets") ∈ TT := TT_of 136 (by decide +kernel) (by decide +kernel)
theorem tq_137 : (Jvm.Cond.laysFinal "ThumpEars$State" "ThumpEars$State" "drifts" "[I") ∈ TT := TT_of 137 (by decide +kernel) (by decide +kernel)
theorem tq_138 : (Jvm.Cond.soleField "ThumpEars$State" "drifts") ∈ TT := TT_of 138 (by decide +kernel) (by decide +kernel)
theorem tq_139 : (Jvm.Cond.laysFinal "ThumpEars$State" "ThumpEars$State" "mutes" "[Z") ∈ TT := TT_of 139 (by decide +kernel) (by decide +kernel)
theorem tq_140 : (Jvm.Cond.soleField "ThumpEars$State" "mutes") ∈ TT := TT_of 140 (by decide +kernel) (by decide +kernel)
theorem tq_141 : (Jvm.Cond.laysFinal "ThumpEars$State" "ThumpEars$State" "leftOut" "[Z") ∈ TT := TT_of 141 (by decide +kernel) (by decide +kernel)
theorem tq_142 : (Jvm.Cond.soleField "ThumpEars$State" "leftOut") ∈ TT := TT_of 142 (by decide +kernel) (by decide +kernel)
theorem tq_143 : (Jvm.Cond.laysFinal "ThumpEars$State" "ThumpEars$State" "thumps" "LThumpEars$Sounds;") ∈ TT := TT_of 143 (by decide +kernel) (by decide +kernel)
theorem tq_144 : (Jvm.Cond.soleField "ThumpEars$State" "thumps") ∈ TT := TT_of 144 (by decide +kernel) (by decide +kernel)
theorem tq_145 : (Jvm.Cond.laysFinal "ThumpEars$State" "ThumpEars$State" "knocks" "LThumpEars$Sounds;") ∈ TT := TT_of 145 (by decide +kernel) (by decide +kernel)
theorem tq_146 : (Jvm.Cond.soleField "ThumpEars$State" "knocks") ∈ TT := TT_of 146 (by decide +kernel) (by decide +kernel)
theorem tq_147 : (Jvm.Cond.lays "ThumpEars$State" "ThumpEars$State" "ears" "I") ∈ TT := TT_of 147 (by decide +kernel) (by decide +kernel)
theorem tq_148 : (Jvm.Cond.soleField "ThumpEars$State" "ears") ∈ TT := TT_of 148 (by decide +kernel) (by decide +kernel)
theorem tq_149 : (Jvm.Cond.lays "ThumpEars$State" "ThumpEars$State" "pace" "I") ∈ TT := TT_of 149 (by decide +kernel) (by decide +kernel)
theorem tq_150 : (Jvm.Cond.soleField "ThumpEars$State" "pace") ∈ TT := TT_of 150 (by decide +kernel) (by decide +kernel)
theorem tq_151 : (Jvm.Cond.lays "ThumpEars$State" "ThumpEars$State" "tolerance" "I") ∈ TT := TT_of 151 (by decide +kernel) (by decide +kernel)
theorem tq_152 : (Jvm.Cond.soleField "ThumpEars$State" "tolerance") ∈ TT := TT_of 152 (by decide +kernel) (by decide +kernel)
theorem tq_153 : (Jvm.Cond.lays "ThumpEars$State" "ThumpEars$State" "latest" "I") ∈ TT := TT_of 153 (by decide +kernel) (by decide +kernel)
theorem tq_154 : (Jvm.Cond.soleField "ThumpEars$State" "latest") ∈ TT := TT_of 154 (by decide +kernel) (by decide +kernel)
theorem tq_155 : (Jvm.Cond.superclass "ThumpEars$State" "java/lang/Object") ∈ TT := TT_of 155 (by decide +kernel) (by decide +kernel)
theorem tq_156 : (Jvm.Cond.classLink "ThumpEars" 23 "ThumpEars$History") ∈ TT := TT_of 156 (by decide +kernel) (by decide +kernel)
theorem tq_157 : (Jvm.Cond.instantiable "ThumpEars$History" 2) ∈ TT := TT_of 157 (by decide +kernel) (by decide +kernel)
theorem tq_158 : (Jvm.Cond.methodLink "ThumpEars" 25 (⟨"ThumpEars$History", "<init>", "()V"⟩ : Jvm.MethodName)) ∈ TT := TT_of 158 (by decide +kernel) (by decide +kernel)
theorem tq_159 : (Jvm.Cond.instanceMethod (⟨"ThumpEars$History", "<init>", "()V"⟩ : Jvm.MethodName)) ∈ TT := TT_of 159 (by decide +kernel) (by decide +kernel)
theorem tq_160 : (Jvm.Cond.code (⟨"ThumpEars$History", "<init>", "()V"⟩ : Jvm.MethodName) prog_2_method_1_code 2 (Option.none : Option Jvm.ClassFile.FieldType)) ∈ TT := TT_of 160 (by decide +kernel) (by decide +kernel)
theorem tq_161 : (Jvm.Cond.methodLink "ThumpEars$History" 3 (⟨"java/lang/Object", "<init>", "()V"⟩ : Jvm.MethodName)) ∈ TT := TT_of 161 (by decide +kernel) (by decide +kernel)
theorem tq_162 : (Jvm.Cond.classLink "ThumpEars$History" 9 "ThumpEars$State") ∈ TT := TT_of 162 (by decide +kernel) (by decide +kernel)
theorem tl_163 : (Jvm.Cond.arrayOver (Jvm.ClassFile.FieldType.object "ThumpEars$State")) ∈ lw_tbl := List.mem_of_getElem? (i := 163) (by decide +kernel)
theorem tl_164 : (Jvm.Cond.methodLinkNest "ThumpEars$History" 21 (⟨"ThumpEars$State", "<init>", "()V"⟩ : Jvm.MethodName) "ThumpEars") ∈ lw_tbl := List.mem_of_getElem? (i := 164) (by decide +kernel)
theorem tq_165 : (Jvm.Cond.fieldLink "ThumpEars$History" 11 "ThumpEars$History" "states" "[LThumpEars$State;") ∈ TT := TT_of 165 (by decide +kernel) (by decide +kernel)
theorem tq_166 : (Jvm.Cond.fieldLink "ThumpEars$History" 17 "ThumpEars$History" "size" "I") ∈ TT := TT_of 166 (by decide +kernel) (by decide +kernel)
theorem tq_167 : (Jvm.Cond.fieldLink "ThumpEars" 146 "ThumpEars$History" "size" "I") ∈ TT := TT_of 167 (by decide +kernel) (by decide +kernel)
theorem tq_168 : (Jvm.Cond.laysFinal "ThumpEars$History" "ThumpEars$History" "states" "[LThumpEars$State;") ∈ TT := TT_of 168 (by decide +kernel) (by decide +kernel)
theorem tq_169 : (Jvm.Cond.soleField "ThumpEars$History" "states") ∈ TT := TT_of 169 (by decide +kernel) (by decide +kernel)
theorem tq_170 : (Jvm.Cond.lays "ThumpEars$History" "ThumpEars$History" "size" "I") ∈ TT := TT_of 170 (by decide +kernel) (by decide +kernel)
theorem tq_171 : (Jvm.Cond.soleField "ThumpEars$History" "size") ∈ TT := TT_of 171 (by decide +kernel) (by decide +kernel)
theorem tq_172 : (Jvm.Cond.superclass "ThumpEars$History" "java/lang/Object") ∈ TT := TT_of 172 (by decide +kernel) (by decide +kernel)
theorem tq_173 : (Jvm.Cond.classLink "ThumpEars" 30 "ThumpEars$OrderText") ∈ TT := TT_of 173 (by decide +kernel) (by decide +kernel)
theorem tq_174 : (Jvm.Cond.instantiable "ThumpEars$OrderText" 9) ∈ TT := TT_of 174 (by decide +kernel) (by decide +kernel)
theorem tl_175 : (Jvm.Cond.methodLinkNest "ThumpEars" 32 (⟨"ThumpEars$OrderText", "<init>", "()V"⟩ : Jvm.MethodName) "ThumpEars") ∈ lw_tbl := List.mem_of_getElem? (i := 175) (by decide +kernel)
theorem tq_176 : (Jvm.Cond.instanceMethod (⟨"ThumpEars$OrderText", "<init>", "()V"⟩ : Jvm.MethodName)) ∈ TT := TT_of 176 (by decide +kernel) (by decide +kernel)
theorem tq_177 : (Jvm.Cond.code (⟨"ThumpEars$OrderText", "<init>", "()V"⟩ : Jvm.MethodName) prog_4_method_1_code 1 (Option.none : Option Jvm.ClassFile.FieldType)) ∈ TT := TT_of 177 (by decide +kernel) (by decide +kernel)
theorem tq_178 : (Jvm.Cond.methodLink "ThumpEars$OrderText" 3 (⟨"java/lang/Object", "<init>", "()V"⟩ : Jvm.MethodName)) ∈ TT := TT_of 178 (by decide +kernel) (by decide +kernel)
theorem tq_179 : (Jvm.Cond.fieldLink "ThumpEars$OrderText" 9 "ThumpEars$OrderText" "signs" "[C") ∈ TT := TT_of 179 (by decide +kernel) (by decide +kernel)
theorem tq_180 : (Jvm.Cond.fieldLink "ThumpEars" 142 "ThumpEars$OrderText" "signs" "[C") ∈ TT := TT_of 180 (by decide +kernel) (by decide +kernel)
theorem tq_181 : (Jvm.Cond.fieldLink "ThumpEars$OrderText" 15 "ThumpEars$OrderText" "length" "I") ∈ TT := TT_of 181 (by decide +kernel) (by decide +kernel)
theorem tq_182 : (Jvm.Cond.fieldLink "ThumpEars" 139 "ThumpEars$OrderText" "length" "I") ∈ TT := TT_of 182 (by decide +kernel) (by decide +kernel)
theorem tq_183 : (Jvm.Cond.fieldLink "ThumpEars$OrderText" 19 "ThumpEars$OrderText" "areThumps" "[Z") ∈ TT := TT_of 183 (by decide +kernel) (by decide +kernel)
theorem tq_184 : (Jvm.Cond.fieldLink "ThumpEars" 124 "ThumpEars$OrderText" "areThumps" "[Z") ∈ TT := TT_of 184 (by decide +kernel) (by decide +kernel)
theorem tq_185 : (Jvm.Cond.fieldLink "ThumpEars$OrderText" 23 "ThumpEars$OrderText" "places" "[I") ∈ TT := TT_of 185 (by decide +kernel) (by decide +kernel)
theorem tq_186 : (Jvm.Cond.fieldLink "ThumpEars" 127 "ThumpEars$OrderText" "places" "[I") ∈ TT := TT_of 186 (by decide +kernel) (by decide +kernel)
theorem tq_187 : (Jvm.Cond.fieldLink "ThumpEars$OrderText" 27 "ThumpEars$OrderText" "times" "[I") ∈ TT := TT_of 187 (by decide +kernel) (by decide +kernel)
theorem tq_188 : (Jvm.Cond.fieldLink "ThumpEars" 130 "ThumpEars$OrderText" "times" "[I") ∈ TT := TT_of 188 (by decide +kernel) (by decide +kernel)
theorem tq_189 : (Jvm.Cond.fieldLink "ThumpEars$OrderText" 30 "ThumpEars$OrderText" "reaches" "[I") ∈ TT := TT_of 189 (by decide +kernel) (by decide +kernel)
theorem tq_190 : (Jvm.Cond.fieldLink "ThumpEars" 133 "ThumpEars$OrderText" "reaches" "[I") ∈ TT := TT_of 190 (by decide +kernel) (by decide +kernel)
theorem tq_191 : (Jvm.Cond.fieldLink "ThumpEars$OrderText" 33 "ThumpEars$OrderText" "orders" "I") ∈ TT := TT_of 191 (by decide +kernel) (by decide +kernel)
theorem tq_192 : (Jvm.Cond.fieldLink "ThumpEars" 121 "ThumpEars$OrderText" "orders" "I") ∈ TT := TT_of 192 (by decide +kernel) (by decide +kernel)
theorem tq_193 : (Jvm.Cond.fieldLink "ThumpEars$OrderText" 36 "ThumpEars$OrderText" "position" "I") ∈ TT := TT_of 193 (by decide +kernel) (by decide +kernel)
theorem tq_194 : (Jvm.Cond.fieldLink "ThumpEars$OrderText" 39 "ThumpEars$OrderText" "number" "I") ∈ TT := TT_of 194 (by decide +kernel) (by decide +kernel)
theorem tq_195 : (Jvm.Cond.laysFinal "ThumpEars$OrderText" "ThumpEars$OrderText" "signs" "[C") ∈ TT := TT_of 195 (by decide +kernel) (by decide +kernel)
theorem tq_196 : (Jvm.Cond.soleField "ThumpEars$OrderText" "signs") ∈ TT := TT_of 196 (by decide +kernel) (by decide +kernel)
theorem tq_197 : (Jvm.Cond.lays "ThumpEars$OrderText" "ThumpEars$OrderText" "length" "I") ∈ TT := TT_of 197 (by decide +kernel) (by decide +kernel)
theorem tq_198 : (Jvm.Cond.soleField "ThumpEars$OrderText" "length") ∈ TT := TT_of 198 (by decide +kernel) (by decide +kernel)
theorem tq_199 : (Jvm.Cond.laysFinal "ThumpEars$OrderText" "ThumpEars$OrderText" "areThumps" "[Z") ∈ TT := TT_of 199 (by decide +kernel) (by decide +kernel)
theorem tq_200 : (Jvm.Cond.soleField "ThumpEars$OrderText" "areThumps") ∈ TT := TT_of 200 (by decide +kernel) (by decide +kernel)
theorem tq_201 : (Jvm.Cond.laysFinal "ThumpEars$OrderText" "ThumpEars$OrderText" "places" "[I") ∈ TT := TT_of 201 (by decide +kernel) (by decide +kernel)
theorem tq_202 : (Jvm.Cond.soleField "ThumpEars$OrderText" "places") ∈ TT := TT_of 202 (by decide +kernel) (by decide +kernel)
theorem tq_203 : (Jvm.Cond.laysFinal "ThumpEars$OrderText" "ThumpEars$OrderText" "times" "[I") ∈ TT := TT_of 203 (by decide +kernel) (by decide +kernel)
theorem tq_204 : (Jvm.Cond.soleField "ThumpEars$OrderText" "times") ∈ TT := TT_of 204 (by decide +kernel) (by decide +kernel)
theorem tq_205 : (Jvm.Cond.laysFinal "ThumpEars$OrderText" "ThumpEars$OrderText" "reaches" "[I") ∈ TT := TT_of 205 (by decide +kernel) (by decide +kernel)
theorem tq_206 : (Jvm.Cond.soleField "ThumpEars$OrderText" "reaches") ∈ TT := TT_of 206 (by decide +kernel) (by decide +kernel)
theorem tq_207 : (Jvm.Cond.lays "ThumpEars$OrderText" "ThumpEars$OrderText" "orders" "I") ∈ TT := TT_of 207 (by decide +kernel) (by decide +kernel)
theorem tq_208 : (Jvm.Cond.soleField "ThumpEars$OrderText" "orders") ∈ TT := TT_of 208 (by decide +kernel) (by decide +kernel)
theorem tq_209 : (Jvm.Cond.lays "ThumpEars$OrderText" "ThumpEars$OrderText" "position" "I") ∈ TT := TT_of 209 (by decide +kernel) (by decide +kernel)
theorem tq_210 : (Jvm.Cond.soleField "ThumpEars$OrderText" "position") ∈ TT := TT_of 210 (by decide +kernel) (by decide +kernel)
theorem tq_211 : (Jvm.Cond.lays "ThumpEars$OrderText" "ThumpEars$OrderText" "number" "I") ∈ TT := TT_of 211 (by decide +kernel) (by decide +kernel)
theorem tq_212 : (Jvm.Cond.soleField "ThumpEars$OrderText" "number") ∈ TT := TT_of 212 (by decide +kernel) (by decide +kernel)
theorem tq_213 : (Jvm.Cond.superclass "ThumpEars$OrderText" "java/lang/Object") ∈ TT := TT_of 213 (by decide +kernel) (by decide +kernel)
theorem tq_214 : (Jvm.Cond.arrayClass Jvm.ClassFile.FieldType.char) ∈ TT := TT_of 214 (by decide +kernel) (by decide +kernel)
theorem tq_215 : (Jvm.Cond.classLink "ThumpEars" 37 "ThumpEars$Marks") ∈ TT := TT_of 215 (by decide +kernel) (by decide +kernel)
theorem tq_216 : (Jvm.Cond.instantiable "ThumpEars$Marks" 4) ∈ TT := TT_of 216 (by decide +kernel) (by decide +kernel)
theorem tl_217 : (Jvm.Cond.methodLinkNest "ThumpEars" 39 (⟨"ThumpEars$Marks", "<init>", "()V"⟩ : Jvm.MethodName) "ThumpEars") ∈ lw_tbl := List.mem_of_getElem? (i := 217) (by decide +kernel)
theorem tq_218 : (Jvm.Cond.instanceMethod (⟨"ThumpEars$Marks", "<init>", "()V"⟩ : Jvm.MethodName)) ∈ TT := TT_of 218 (by decide +kernel) (by decide +kernel)
theorem tq_219 : (Jvm.Cond.code (⟨"ThumpEars$Marks", "<init>", "()V"⟩ : Jvm.MethodName) prog_3_method_1_code 1 (Option.none : Option Jvm.ClassFile.FieldType)) ∈ TT := TT_of 219 (by decide +kernel) (by decide +kernel)
theorem tq_220 : (Jvm.Cond.methodLink "ThumpEars$Marks" 3 (⟨"java/lang/Object", "<init>", "()V"⟩ : Jvm.MethodName)) ∈ TT := TT_of 220 (by decide +kernel) (by decide +kernel)
theorem tq_221 : (Jvm.Cond.fieldLink "ThumpEars$Marks" 9 "ThumpEars$Marks" "thumps" "[I") ∈ TT := TT_of 221 (by decide +kernel) (by decide +kernel)
theorem tq_222 : (Jvm.Cond.fieldLink "ThumpEars" 179 "ThumpEars$Marks" "thumps" "[I") ∈ TT := TT_of 222 (by decide +kernel) (by decide +kernel)
theorem tq_223 : (Jvm.Cond.fieldLink "ThumpEars$Marks" 15 "ThumpEars$Marks" "readings" "[I") ∈ TT := TT_of 223 (by decide +kernel) (by decide +kernel)
theorem tq_224 : (Jvm.Cond.fieldLink "ThumpEars" 173 "ThumpEars$Marks" "readings" "[I") ∈ TT := TT_of 224 (by decide +kernel) (by decide +kernel)
theorem tq_225 : (Jvm.Cond.fieldLink "ThumpEars$Marks" 18 "ThumpEars$Marks" "errors" "[I") ∈ TT := TT_of 225 (by decide +kernel) (by decide +kernel)
theorem tq_226 : (Jvm.Cond.fieldLink "ThumpEars" 176 "ThumpEars$Marks" "errors" "[I") ∈ TT := TT_of 226 (by decide +kernel) (by decide +kernel)
theorem tq_227 : (Jvm.Cond.fieldLink "ThumpEars$Marks" 21 "ThumpEars$Marks" "size" "I") ∈ TT := TT_of 227 (by decide +kernel) (by decide +kernel)
theorem tq_228 : (Jvm.Cond.fieldLink "ThumpEars" 161 "ThumpEars$Marks" "size" "I") ∈ TT := TT_of 228 (by decide +kernel) (by decide +kernel)
theorem tq_229 : (Jvm.Cond.laysFinal "ThumpEars$Marks" "ThumpEars$Marks" "thumps" "[I") ∈ TT := TT_of 229 (by decide +kernel) (by decide +kernel)
theorem tq_230 : (Jvm.Cond.soleField "ThumpEars$Marks" "thumps") ∈ TT := TT_of 230 (by decide +kernel) (by decide +kernel)
theorem tq_231 : (Jvm.Cond.laysFinal "ThumpEars$Marks" "ThumpEars$Marks" "readings" "[I") ∈ TT := TT_of 231 (by decide +kernel) (by decide +kernel)
theorem tq_232 : (Jvm.Cond.soleField "ThumpEars$Marks" "readings") ∈ TT := TT_of 232 (by decide +kernel) (by decide +kernel)
theorem tq_233 : (Jvm.Cond.laysFinal "ThumpEars$Marks" "ThumpEars$Marks" "errors" "[I") ∈ TT := TT_of 233 (by decide +kernel) (by decide +kernel)
theorem tq_234 : (Jvm.Cond.soleField "ThumpEars$Marks" "errors") ∈ TT := TT_of 234 (by decide +kernel) (by decide +kernel)
theorem tq_235 : (Jvm.Cond.lays "ThumpEars$Marks" "ThumpEars$Marks" "size" "I") ∈ TT := TT_of 235 (by decide +kernel) (by decide +kernel)
theorem tq_236 : (Jvm.Cond.soleField "ThumpEars$Marks" "size") ∈ TT := TT_of 236 (by decide +kernel) (by decide +kernel)
theorem tq_237 : (Jvm.Cond.superclass "ThumpEars$Marks" "java/lang/Object") ∈ TT := TT_of 237 (by decide +kernel) (by decide +kernel)
theorem tq_238 : (Jvm.Cond.classLink "ThumpEars" 44 "ThumpEars$Source") ∈ TT := TT_of 238 (by decide +kernel) (by decide +kernel)
theorem tq_239 : (Jvm.Cond.instantiable "ThumpEars$Source" 8) ∈ TT := TT_of 239 (by decide +kernel) (by decide +kernel)
theorem tl_240 : (Jvm.Cond.methodLinkNest "ThumpEars" 46 (⟨"ThumpEars$Source", "<init>", "()V"⟩ : Jvm.MethodName) "ThumpEars") ∈ lw_tbl := List.mem_of_getElem? (i := 240) (by decide +kernel)
theorem tq_241 : (Jvm.Cond.instanceMethod (⟨"ThumpEars$Source", "<init>", "()V"⟩ : Jvm.MethodName)) ∈ TT := TT_of 241 (by decide +kernel) (by decide +kernel)
theorem tq_242 : (Jvm.Cond.code (⟨"ThumpEars$Source", "<init>", "()V"⟩ : Jvm.MethodName) prog_6_method_1_code 1 (Option.none : Option Jvm.ClassFile.FieldType)) ∈ TT := TT_of 242 (by decide +kernel) (by decide +kernel)
theorem tq_243 : (Jvm.Cond.methodLink "ThumpEars$Source" 3 (⟨"java/lang/Object", "<init>", "()V"⟩ : Jvm.MethodName)) ∈ TT := TT_of 243 (by decide +kernel) (by decide +kernel)
theorem tq_244 : (Jvm.Cond.fieldLink "ThumpEars$Source" 9 "ThumpEars$Source" "ears" "[I") ∈ TT := TT_of 244 (by decide +kernel) (by decide +kernel)
theorem tq_245 : (Jvm.Cond.fieldLink "ThumpEars$Source" 15 "ThumpEars$Source" "earPlaces" "[I") ∈ TT := TT_of 245 (by decide +kernel) (by decide +kernel)
theorem tq_246 : (Jvm.Cond.fieldLink "ThumpEars$Source" 18 "ThumpEars$Source" "rightTimes" "[J") ∈ TT := TT_of 246 (by decide +kernel) (by decide +kernel)
theorem tq_247 : (Jvm.Cond.fieldLink "ThumpEars$Source" 22 "ThumpEars$Source" "size" "I") ∈ TT := TT_of 247 (by decide +kernel) (by decide +kernel)
theorem tq_248 : (Jvm.Cond.fieldLink "ThumpEars" 203 "ThumpEars$Source" "size" "I") ∈ TT := TT_of 248 (by decide +kernel) (by decide +kernel)
theorem tq_249 : (Jvm.Cond.fieldLink "ThumpEars$Source" 26 "ThumpEars$Source" "perPlace" "J") ∈ TT := TT_of 249 (by decide +kernel) (by decide +kernel)
theorem tq_250 : (Jvm.Cond.fieldLink "ThumpEars$Source" 30 "ThumpEars$Source" "place" "I") ∈ TT := TT_of 250 (by decide +kernel) (by decide +kernel)
theorem tq_251 : (Jvm.Cond.fieldLink "ThumpEars" 207 "ThumpEars$Source" "place" "I") ∈ TT := TT_of 251 (by decide +kernel) (by decide +kernel)
theorem tq_252 : (Jvm.Cond.fieldLink "ThumpEars$Source" 33 "ThumpEars$Source" "least" "J") ∈ TT := TT_of 252 (by decide +kernel) (by decide +kernel)
theorem tq_253 : (Jvm.Cond.fieldLink "ThumpEars$Source" 36 "ThumpEars$Source" "greatest" "J") ∈ TT := TT_of 253 (by decide +kernel) (by decide +kernel)
theorem tq_254 : (Jvm.Cond.laysFinal "ThumpEars$Source" "ThumpEars$Source" "ears" "[I") ∈ TT := TT_of 254 (by decide +kernel) (by decide +kernel)
theorem tq_255 : (Jvm.Cond.soleField "ThumpEars$Source" "ears") ∈ TT := TT_of 255 (by decide +kernel) (by decide +kernel)
theorem tq_256 : (Jvm.Cond.laysFinal "ThumpEars$Source" "ThumpEars$Source" "earPlaces" "[I") ∈ TT := TT_of 256 (by decide +kernel) (by decide +kernel)
theorem tq_257 : (Jvm.Cond.soleField "ThumpEars$Source" "earPlaces") ∈ TT := TT_of 257 (by decide +kernel) (by decide +kernel)
theorem tq_258 : (Jvm.Cond.laysFinal "ThumpEars$Source" "ThumpEars$Source" "rightTimes" "[J") ∈ TT := TT_of 258 (by decide +kernel) (by decide +kernel)
theorem tq_259 : (Jvm.Cond.soleField "ThumpEars$Source" "rightTimes") ∈ TT := TT_of 259 (by decide +kernel) (by decide +kernel)
theorem tq_260 : (Jvm.Cond.lays "ThumpEars$Source" "ThumpEars$Source" "size" "I") ∈ TT := TT_of 260 (by decide +kernel) (by decide +kernel)
theorem tq_261 : (Jvm.Cond.soleField "ThumpEars$Source" "size") ∈ TT := TT_of 261 (by decide +kernel) (by decide +kernel)
theorem tq_262 : (Jvm.Cond.lays "ThumpEars$Source" "ThumpEars$Source" "perPlace" "J") ∈ TT := TT_of 262 (by decide +kernel) (by decide +kernel)
theorem tq_263 : (Jvm.Cond.soleField "ThumpEars$Source" "perPlace") ∈ TT := TT_of 263 (by decide +kernel) (by decide +kernel)
theorem tq_264 : (Jvm.Cond.lays "ThumpEars$Source" "ThumpEars$Source" "place" "I") ∈ TT := TT_of 264 (by decide +kernel) (by decide +kernel)
theorem tq_265 : (Jvm.Cond.soleField "ThumpEars$Source" "place") ∈ TT := TT_of 265 (by decide +kernel) (by decide +kernel)
theorem tq_266 : (Jvm.Cond.lays "ThumpEars$Source" "ThumpEars$Source" "least" "J") ∈ TT := TT_of 266 (by decide +kernel) (by decide +kernel)
theorem tq_267 : (Jvm.Cond.soleField "ThumpEars$Source" "least") ∈ TT := TT_of 267 (by decide +kernel) (by decide +kernel)
theorem tq_268 : (Jvm.Cond.lays "ThumpEars$Source" "ThumpEars$Source" "greatest" "J") ∈ TT := TT_of 268 (by decide +kernel) (by decide +kernel)
theorem tq_269 : (Jvm.Cond.soleField "ThumpEars$Source" "greatest") ∈ TT := TT_of 269 (by decide +kernel) (by decide +kernel)
theorem tq_270 : (Jvm.Cond.superclass "ThumpEars$Source" "java/lang/Object") ∈ TT := TT_of 270 (by decide +kernel) (by decide +kernel)
theorem tq_271 : (Jvm.Cond.arrayClass Jvm.ClassFile.FieldType.long) ∈ TT := TT_of 271 (by decide +kernel) (by decide +kernel)
theorem tq_272 : (Jvm.Cond.fieldLink "ThumpEars" 10 "ThumpEars" "now" "LThumpEars$State;") ∈ TT := TT_of 272 (by decide +kernel) (by decide +kernel)
theorem tq_273 : (Jvm.Cond.fieldLink "ThumpEars" 16 "ThumpEars" "snapshot" "LThumpEars$State;") ∈ TT := TT_of 273 (by decide +kernel) (by decide +kernel)
theorem tq_274 : (Jvm.Cond.fieldLink "ThumpEars" 19 "ThumpEars" "hasSnapshot" "Z") ∈ TT := TT_of 274 (by decide +kernel) (by decide +kernel)
theorem tq_275 : (Jvm.Cond.fieldLink "ThumpEars" 26 "ThumpEars" "history" "LThumpEars$History;") ∈ TT := TT_of 275 (by decide +kernel) (by decide +kernel)
theorem tq_276 : (Jvm.Cond.fieldLink "ThumpEars" 33 "ThumpEars" "text" "LThumpEars$OrderText;") ∈ TT := TT_of 276 (by decide +kernel) (by decide +kernel)
theorem tq_277 : (Jvm.Cond.fieldLink "ThumpEars" 40 "ThumpEars" "marks" "LThumpEars$Marks;") ∈ TT := TT_of 277 (by decide +kernel) (by decide +kernel)
theorem tq_278 : (Jvm.Cond.fieldLink "ThumpEars" 47 "ThumpEars" "source" "LThumpEars$Source;") ∈ TT := TT_of 278 (by decide +kernel) (by decide +kernel)
theorem tq_279 : (Jvm.Cond.laysFinal "ThumpEars" "ThumpEars" "now" "LThumpEars$State;") ∈ TT := TT_of 279 (by decide +kernel) (by decide +kernel)
theorem tq_280 : (Jvm.Cond.soleField "ThumpEars" "now") ∈ TT := TT_of 280 (by decide +kernel) (by decide +kernel)
theorem tq_281 : (Jvm.Cond.laysFinal "ThumpEars" "ThumpEars" "snapshot" "LThumpEars$State;") ∈ TT := TT_of 281 (by decide +kernel) (by decide +kernel)
theorem tq_282 : (Jvm.Cond.soleField "ThumpEars" "snapshot") ∈ TT := TT_of 282 (by decide +kernel) (by decide +kernel)
theorem tq_283 : (Jvm.Cond.lays "ThumpEars" "ThumpEars" "hasSnapshot" "Z") ∈ TT := TT_of 283 (by decide +kernel) (by decide +kernel)
theorem tq_284 : (Jvm.Cond.soleField "ThumpEars" "hasSnapshot") ∈ TT := TT_of 284 (by decide +kernel) (by decide +kernel)
theorem tq_285 : (Jvm.Cond.laysFinal "ThumpEars" "ThumpEars" "history" "LThumpEars$History;") ∈ TT := TT_of 285 (by decide +kernel) (by decide +kernel)
theorem tq_286 : (Jvm.Cond.soleField "ThumpEars" "history") ∈ TT := TT_of 286 (by decide +kernel) (by decide +kernel)
theorem tq_287 : (Jvm.Cond.laysFinal "ThumpEars" "ThumpEars" "text" "LThumpEars$OrderText;") ∈ TT := TT_of 287 (by decide +kernel) (by decide +kernel)
theorem tq_288 : (Jvm.Cond.soleField "ThumpEars" "text") ∈ TT := TT_of 288 (by decide +kernel) (by decide +kernel)
theorem tq_289 : (Jvm.Cond.laysFinal "ThumpEars" "ThumpEars" "marks" "LThumpEars$Marks;") ∈ TT := TT_of 289 (by decide +kernel) (by decide +kernel)
theorem tq_290 : (Jvm.Cond.soleField "ThumpEars" "marks") ∈ TT := TT_of 290 (by decide +kernel) (by decide +kernel)
theorem tq_291 : (Jvm.Cond.laysFinal "ThumpEars" "ThumpEars" "source" "LThumpEars$Source;") ∈ TT := TT_of 291 (by decide +kernel) (by decide +kernel)
theorem tq_292 : (Jvm.Cond.soleField "ThumpEars" "source") ∈ TT := TT_of 292 (by decide +kernel) (by decide +kernel)
theorem tq_293 : (Jvm.Cond.superclass "ThumpEars" "java/lang/Object") ∈ TT := TT_of 293 (by decide +kernel) (by decide +kernel)
theorem tq_294 : (Jvm.Cond.methodLink "ThumpEarsLaw" 13 (⟨"ThumpEars", "bury", "(I)I"⟩ : Jvm.MethodName)) ∈ TT := TT_of 294 (by decide +kernel) (by decide +kernel)
theorem tq_295 : (Jvm.Cond.instanceMethod (⟨"ThumpEars", "bury", "(I)I"⟩ : Jvm.MethodName)) ∈ TT := TT_of 295 (by decide +kernel) (by decide +kernel)
theorem tq_296 : (Jvm.Cond.selects "ThumpEars" (⟨"ThumpEars", "bury", "(I)I"⟩ : Jvm.MethodName) (⟨"ThumpEars", "bury", "(I)I"⟩ : Jvm.MethodName)) ∈ TT := TT_of 296 (by decide +kernel) (by decide +kernel)
theorem tq_297 : (Jvm.Cond.code (⟨"ThumpEars", "bury", "(I)I"⟩ : Jvm.MethodName) prog_1_method_2_code 2 (Option.some Jvm.ClassFile.FieldType.int)) ∈ TT := TT_of 297 (by decide +kernel) (by decide +kernel)
theorem tq_298 : (Jvm.Cond.methodLink "ThumpEars" 51 (⟨"ThumpEars", "isWithin", "(III)Z"⟩ : Jvm.MethodName)) ∈ TT := TT_of 298 (by decide +kernel) (by decide +kernel)
theorem tq_299 : (Jvm.Cond.static (⟨"ThumpEars", "isWithin", "(III)Z"⟩ : Jvm.MethodName)) ∈ TT := TT_of 299 (by decide +kernel) (by decide +kernel)
theorem tq_300 : (Jvm.Cond.code (⟨"ThumpEars", "isWithin", "(III)Z"⟩ : Jvm.MethodName) prog_1_method_26_code 3 (Option.some Jvm.ClassFile.FieldType.boolean)) ∈ TT := TT_of 300 (by decide +kernel) (by decide +kernel)
theorem tq_301 : (Jvm.Cond.methodLink "ThumpEars" 59 (⟨"ThumpEars$History", "push", "(LThumpEars$State;)V"⟩ : Jvm.MethodName)) ∈ TT := TT_of 301 (by decide +kernel) (by decide +kernel)
theorem tq_302 : (Jvm.Cond.instanceMethod (⟨"ThumpEars$History", "push", "(LThumpEars$State;)V"⟩ : Jvm.MethodName)) ∈ TT := TT_of 302 (by decide +kernel) (by decide +kernel)
theorem tq_303 : (Jvm.Cond.selects "ThumpEars$History" (⟨"ThumpEars$History", "push", "(LThumpEars$State;)V"⟩ : Jvm.MethodName) (⟨"ThumpEars$History", "push", "(LThumpEars$State;)V"⟩ : Jvm.MethodName)) ∈ TT := TT_of 303 (by decide +kernel) (by decide +kernel)
theorem tq_304 : (Jvm.Cond.code (⟨"ThumpEars$History", "push", "(LThumpEars$State;)V"⟩ : Jvm.MethodName) prog_2_method_2_code 2 (Option.none : Option Jvm.ClassFile.FieldType)) ∈ TT := TT_of 304 (by decide +kernel) (by decide +kernel)
theorem tq_305 : (Jvm.Cond.methodLink "ThumpEars$History" 22 (⟨"ThumpEars$History", "dropOldest", "()V"⟩ : Jvm.MethodName)) ∈ TT := TT_of 305 (by decide +kernel) (by decide +kernel)
theorem tq_306 : (Jvm.Cond.instanceMethod (⟨"ThumpEars$History", "dropOldest", "()V"⟩ : Jvm.MethodName)) ∈ TT := TT_of 306 (by decide +kernel) (by decide +kernel)
theorem tq_307 : (Jvm.Cond.selects "ThumpEars$History" (⟨"ThumpEars$History", "dropOldest", "()V"⟩ : Jvm.MethodName) (⟨"ThumpEars$History", "dropOldest", "()V"⟩ : Jvm.MethodName)) ∈ TT := TT_of 307 (by decide +kernel) (by decide +kernel)
theorem tq_308 : (Jvm.Cond.code (⟨"ThumpEars$History", "dropOldest", "()V"⟩ : Jvm.MethodName) prog_2_method_3_code 3 (Option.none : Option Jvm.ClassFile.FieldType)) ∈ TT := TT_of 308 (by decide +kernel) (by decide +kernel)
theorem tq_309 : (Jvm.Cond.methodLink "ThumpEars$History" 25 (⟨"ThumpEars$State", "copyFrom", "(LThumpEars$State;)V"⟩ : Jvm.MethodName)) ∈ TT := TT_of 309 (by decide +kernel) (by decide +kernel)
theorem tq_310 : (Jvm.Cond.instanceMethod (⟨"ThumpEars$State", "copyFrom", "(LThumpEars$State;)V"⟩ : Jvm.MethodName)) ∈ TT := TT_of 310 (by decide +kernel) (by decide +kernel)
theorem tq_311 : (Jvm.Cond.selects "ThumpEars$State" (⟨"ThumpEars$State", "copyFrom", "(LThumpEars$State;)V"⟩ : Jvm.MethodName) (⟨"ThumpEars$State", "copyFrom", "(LThumpEars$State;)V"⟩ : Jvm.MethodName)) ∈ TT := TT_of 311 (by decide +kernel) (by decide +kernel)
theorem tq_312 : (Jvm.Cond.code (⟨"ThumpEars$State", "copyFrom", "(LThumpEars$State;)V"⟩ : Jvm.MethodName) prog_7_method_2_code 2 (Option.none : Option Jvm.ClassFile.FieldType)) ∈ TT := TT_of 312 (by decide +kernel) (by decide +kernel)
theorem tq_313 : (Jvm.Cond.methodLink "ThumpEars$State" 51 (⟨"java/lang/System", "arraycopy", "(Ljava/lang/Object;ILjava/lang/Object;II)V"⟩ : Jvm.MethodName)) ∈ TT := TT_of 313 (by decide +kernel) (by decide +kernel)
theorem tq_314 : (Jvm.Cond.static (⟨"java/lang/System", "arraycopy", "(Ljava/lang/Object;ILjava/lang/Object;II)V"⟩ : Jvm.MethodName)) ∈ TT := TT_of 314 (by decide +kernel) (by decide +kernel)
theorem tq_315 : (Jvm.Cond.native (⟨"java/lang/System", "arraycopy", "(Ljava/lang/Object;ILjava/lang/Object;II)V"⟩ : Jvm.MethodName)) ∈ TT := TT_of 315 (by decide +kernel) (by decide +kernel)
theorem tq_316 : (Jvm.Cond.methodLink "ThumpEars$State" 57 (⟨"ThumpEars$Sounds", "copyFrom", "(LThumpEars$Sounds;)V"⟩ : Jvm.MethodName)) ∈ TT := TT_of 316 (by decide +kernel) (by decide +kernel)
theorem tq_317 : (Jvm.Cond.instanceMethod (⟨"ThumpEars$Sounds", "copyFrom", "(LThumpEars$Sounds;)V"⟩ : Jvm.MethodName)) ∈ TT := TT_of 317 (by decide +kernel) (by decide +kernel)
theorem tq_318 : (Jvm.Cond.selects "ThumpEars$Sounds" (⟨"ThumpEars$Sounds", "copyFrom", "(LThumpEars$Sounds;)V"⟩ : Jvm.MethodName) (⟨"ThumpEars$Sounds", "copyFrom", "(LThumpEars$Sounds;)V"⟩ : Jvm.MethodName)) ∈ TT := TT_of 318 (by decide +kernel) (by decide +kernel)
theorem tq_319 : (Jvm.Cond.code (⟨"ThumpEars$Sounds", "copyFrom", "(LThumpEars$Sounds;)V"⟩ : Jvm.MethodName) prog_5_method_2_code 3 (Option.none : Option Jvm.ClassFile.FieldType)) ∈ TT := TT_of 319 (by decide +kernel) (by decide +kernel)
theorem tq_320 : (Jvm.Cond.methodLink "ThumpEars$Sounds" 30 (⟨"java/lang/System", "arraycopy", "(Ljava/lang/Object;ILjava/lang/Object;II)V"⟩ : Jvm.MethodName)) ∈ TT := TT_of 320 (by decide +kernel) (by decide +kernel)
theorem tq_321 : (Jvm.Cond.methodLink "ThumpEars" 63 (⟨"ThumpEars$State", "addEar", "(I)I"⟩ : Jvm.MethodName)) ∈ TT := TT_of 321 (by decide +kernel) (by decide +kernel)
theorem tq_322 : (Jvm.Cond.instanceMethod (⟨"ThumpEars$State", "addEar", "(I)I"⟩ : Jvm.MethodName)) ∈ TT := TT_of 322 (by decide +kernel) (by decide +kernel)
theorem tq_323 : (Jvm.Cond.selects "ThumpEars$State" (⟨"ThumpEars$State", "addEar", "(I)I"⟩ : Jvm.MethodName) (⟨"ThumpEars$State", "addEar", "(I)I"⟩ : Jvm.MethodName)) ∈ TT := TT_of 323 (by decide +kernel) (by decide +kernel)
theorem tq_324 : (Jvm.Cond.code (⟨"ThumpEars$State", "addEar", "(I)I"⟩ : Jvm.MethodName) prog_7_method_4_code 2 (Option.some Jvm.ClassFile.FieldType.int)) ∈ TT := TT_of 324 (by decide +kernel) (by decide +kernel)
theorem tq_325 : (Jvm.Cond.methodLink "ThumpEarsLaw" 18 (⟨"ThumpEars", "setClock", "(III)I"⟩ : Jvm.MethodName)) ∈ TT := TT_of 325 (by decide +kernel) (by decide +kernel)
theorem tq_326 : (Jvm.Cond.instanceMethod (⟨"ThumpEars", "setClock", "(III)I"⟩ : Jvm.MethodName)) ∈ TT := TT_of 326 (by decide +kernel) (by decide +kernel)
theorem tq_327 : (Jvm.Cond.selects "ThumpEars" (⟨"ThumpEars", "setClock", "(III)I"⟩ : Jvm.MethodName) (⟨"ThumpEars", "setClock", "(III)I"⟩ : Jvm.MethodName)) ∈ TT := TT_of 327 (by decide +kernel) (by decide +kernel)
theorem tq_328 : (Jvm.Cond.code (⟨"ThumpEars", "setClock", "(III)I"⟩ : Jvm.MethodName) prog_1_method_3_code 4 (Option.some Jvm.ClassFile.FieldType.int)) ∈ TT := TT_of 328 (by decide +kernel) (by decide +kernel)
theorem tq_329 : (Jvm.Cond.methodLink "ThumpEars" 67 (⟨"ThumpEars$State", "hasEar", "(I)Z"⟩ : Jvm.MethodName)) ∈ TT := TT_of 329 (by decide +kernel) (by decide +kernel)
theorem tq_330 : (Jvm.Cond.instanceMethod (⟨"ThumpEars$State", "hasEar", "(I)Z"⟩ : Jvm.MethodName)) ∈ TT := TT_of 330 (by decide +kernel) (by decide +kernel)
theorem tq_331 : (Jvm.Cond.selects "ThumpEars$State" (⟨"ThumpEars$State", "hasEar", "(I)Z"⟩ : Jvm.MethodName) (⟨"ThumpEars$State", "hasEar", "(I)Z"⟩ : Jvm.MethodName)) ∈ TT := TT_of 331 (by decide +kernel) (by decide +kernel)
theorem tq_332 : (Jvm.Cond.code (⟨"ThumpEars$State", "hasEar", "(I)Z"⟩ : Jvm.MethodName) prog_7_method_3_code 2 (Option.some Jvm.ClassFile.FieldType.boolean)) ∈ TT := TT_of 332 (by decide +kernel) (by decide +kernel)
theorem tq_333 : (Jvm.Cond.methodLink "ThumpEarsLaw" 23 (⟨"ThumpEars", "mute", "(IZ)I"⟩ : Jvm.MethodName)) ∈ TT := TT_of 333 (by decide +kernel) (by decide +kernel)
theorem tq_334 : (Jvm.Cond.instanceMethod (⟨"ThumpEars", "mute", "(IZ)I"⟩ : Jvm.MethodName)) ∈ TT := TT_of 334 (by decide +kernel) (by decide +kernel)
theorem tq_335 : (Jvm.Cond.selects "ThumpEars" (⟨"ThumpEars", "mute", "(IZ)I"⟩ : Jvm.MethodName) (⟨"ThumpEars", "mute", "(IZ)I"⟩ : Jvm.MethodName)) ∈ TT := TT_of 335 (by decide +kernel) (by decide +kernel)
theorem tq_336 : (Jvm.Cond.code (⟨"ThumpEars", "mute", "(IZ)I"⟩ : Jvm.MethodName) prog_1_method_4_code 3 (Option.some Jvm.ClassFile.FieldType.int)) ∈ TT := TT_of 336 (by decide +kernel) (by decide +kernel)
theorem tq_337 : (Jvm.Cond.methodLink "ThumpEars" 82 (⟨"ThumpEars", "flag", "([ZIIZ)I"⟩ : Jvm.MethodName)) ∈ TT := TT_of 337 (by decide +kernel) (by decide +kernel)
theorem tq_339 : (Jvm.Cond.instanceMethod (⟨"ThumpEars", "flag", "([ZIIZ)I"⟩ : Jvm.MethodName)) ∈ TT := TT_of 339 (by decide +kernel) (by decide +kernel)
theorem tq_340 : (Jvm.Cond.code (⟨"ThumpEars", "flag", "([ZIIZ)I"⟩ : Jvm.MethodName) prog_1_method_29_code 5 (Option.some Jvm.ClassFile.FieldType.int)) ∈ TT := TT_of 340 (by decide +kernel) (by decide +kernel)
theorem tq_341 : (Jvm.Cond.methodLink "ThumpEars" 241 (⟨"ThumpEars", "countFlags", "([ZI)I"⟩ : Jvm.MethodName)) ∈ TT := TT_of 341 (by decide +kernel) (by decide +kernel)
theorem tq_342 : (Jvm.Cond.static (⟨"ThumpEars", "countFlags", "([ZI)I"⟩ : Jvm.MethodName)) ∈ TT := TT_of 342 (by decide +kernel) (by decide +kernel)
theorem tq_343 : (Jvm.Cond.code (⟨"ThumpEars", "countFlags", "([ZI)I"⟩ : Jvm.MethodName) prog_1_method_28_code 4 (Option.some Jvm.ClassFile.FieldType.int)) ∈ TT := TT_of 343 (by decide +kernel) (by decide +kernel)
theorem tq_344 : (Jvm.Cond.methodLink "ThumpEarsLaw" 28 (⟨"ThumpEars", "set", "(II)I"⟩ : Jvm.MethodName)) ∈ TT := TT_of 344 (by decide +kernel) (by decide +kernel)
theorem tq_345 : (Jvm.Cond.instanceMethod (⟨"ThumpEars", "set", "(II)I"⟩ : Jvm.MethodName)) ∈ TT := TT_of 345 (by decide +kernel) (by decide +kernel)
theorem tq_346 : (Jvm.Cond.selects "ThumpEars" (⟨"ThumpEars", "set", "(II)I"⟩ : Jvm.MethodName) (⟨"ThumpEars", "set", "(II)I"⟩ : Jvm.MethodName)) ∈ TT := TT_of 346 (by decide +kernel) (by decide +kernel)
theorem tq_347 : (Jvm.Cond.code (⟨"ThumpEars", "set", "(II)I"⟩ : Jvm.MethodName) prog_1_method_5_code 3 (Option.some Jvm.ClassFile.FieldType.int)) ∈ TT := TT_of 347 (by decide +kernel) (by decide +kernel)
theorem tq_348 : (Jvm.Cond.methodLink "ThumpEars" 86 (⟨"ThumpEars", "setPace", "(I)I"⟩ : Jvm.MethodName)) ∈ TT := TT_of 348 (by decide +kernel) (by decide +kernel)
theorem tq_350 : (Jvm.Cond.instanceMethod (⟨"ThumpEars", "setPace", "(I)I"⟩ : Jvm.MethodName)) ∈ TT := TT_of 350 (by decide +kernel) (by decide +kernel)
theorem tq_351 : (Jvm.Cond.code (⟨"ThumpEars", "setPace", "(I)I"⟩ : Jvm.MethodName) prog_1_method_30_code 3 (Option.some Jvm.ClassFile.FieldType.int)) ∈ TT := TT_of 351 (by decide +kernel) (by decide +kernel)
theorem tq_352 : (Jvm.Cond.methodLink "ThumpEars" 89 (⟨"ThumpEars", "setTolerance", "(I)I"⟩ : Jvm.MethodName)) ∈ TT := TT_of 352 (by decide +kernel) (by decide +kernel)
theorem tq_354 : (Jvm.Cond.instanceMethod (⟨"ThumpEars", "setTolerance", "(I)I"⟩ : Jvm.MethodName)) ∈ TT := TT_of 354 (by decide +kernel) (by decide +kernel)
theorem tq_355 : (Jvm.Cond.code (⟨"ThumpEars", "setTolerance", "(I)I"⟩ : Jvm.MethodName) prog_1_method_31_code 3 (Option.some Jvm.ClassFile.FieldType.int)) ∈ TT := TT_of 355 (by decide +kernel) (by decide +kernel)
theorem tq_356 : (Jvm.Cond.methodLink "ThumpEarsLaw" 33 (⟨"ThumpEars", "thump", "(III)I"⟩ : Jvm.MethodName)) ∈ TT := TT_of 356 (by decide +kernel) (by decide +kernel)
theorem tq_357 : (Jvm.Cond.instanceMethod (⟨"ThumpEars", "thump", "(III)I"⟩ : Jvm.MethodName)) ∈ TT := TT_of 357 (by decide +kernel) (by decide +kernel)
theorem tq_358 : (Jvm.Cond.selects "ThumpEars" (⟨"ThumpEars", "thump", "(III)I"⟩ : Jvm.MethodName) (⟨"ThumpEars", "thump", "(III)I"⟩ : Jvm.MethodName)) ∈ TT := TT_of 358 (by decide +kernel) (by decide +kernel)
theorem tq_359 : (Jvm.Cond.code (⟨"ThumpEars", "thump", "(III)I"⟩ : Jvm.MethodName) prog_1_method_6_code 4 (Option.some Jvm.ClassFile.FieldType.int)) ∈ TT := TT_of 359 (by decide +kernel) (by decide +kernel)
theorem tq_360 : (Jvm.Cond.methodLink "ThumpEars" 96 (⟨"ThumpEars", "makeSound", "(LThumpEars$Sounds;III)I"⟩ : Jvm.MethodName)) ∈ TT := TT_of 360 (by decide +kernel) (by decide +kernel)
theorem tq_362 : (Jvm.Cond.instanceMethod (⟨"ThumpEars", "makeSound", "(LThumpEars$Sounds;III)I"⟩ : Jvm.MethodName)) ∈ TT := TT_of 362 (by decide +kernel) (by decide +kernel)
theorem tq_363 : (Jvm.Cond.code (⟨"ThumpEars", "makeSound", "(LThumpEars$Sounds;III)I"⟩ : Jvm.MethodName) prog_1_method_32_code 6 (Option.some Jvm.ClassFile.FieldType.int)) ∈ TT := TT_of 363 (by decide +kernel) (by decide +kernel)
theorem tq_364 : (Jvm.Cond.methodLink "ThumpEars" 250 (⟨"ThumpEars", "refusal", "(IIIII)I"⟩ : Jvm.MethodName)) ∈ TT := TT_of 364 (by decide +kernel) (by decide +kernel)
theorem tq_365 : (Jvm.Cond.static (⟨"ThumpEars", "refusal", "(IIIII)I"⟩ : Jvm.MethodName)) ∈ TT := TT_of 365 (by decide +kernel) (by decide +kernel)
theorem tq_366 : (Jvm.Cond.code (⟨"ThumpEars", "refusal", "(IIIII)I"⟩ : Jvm.MethodName) prog_1_method_33_code 5 (Option.some Jvm.ClassFile.FieldType.int)) ∈ TT := TT_of 366 (by decide +kernel) (by decide +kernel)
theorem tq_367 : (Jvm.Cond.constant "ThumpEars" 254 (100000 : Int32)) ∈ TT := TT_of 367 (by decide +kernel) (by decide +kernel)
theorem tq_368 : (Jvm.Cond.methodLink "ThumpEars" 136 (⟨"ThumpEars$State", "addSound", "(LThumpEars$Sounds;III)I"⟩ : Jvm.MethodName)) ∈ TT := TT_of 368 (by decide +kernel) (by decide +kernel)
theorem tq_369 : (Jvm.Cond.instanceMethod (⟨"ThumpEars$State", "addSound", "(LThumpEars$Sounds;III)I"⟩ : Jvm.MethodName)) ∈ TT := TT_of 369 (by decide +kernel) (by decide +kernel)
theorem tq_370 : (Jvm.Cond.selects "ThumpEars$State" (⟨"ThumpEars$State", "addSound", "(LThumpEars$Sounds;III)I"⟩ : Jvm.MethodName) (⟨"ThumpEars$State", "addSound", "(LThumpEars$Sounds;III)I"⟩ : Jvm.MethodName)) ∈ TT := TT_of 370 (by decide +kernel) (by decide +kernel)
theorem tq_371 : (Jvm.Cond.code (⟨"ThumpEars$State", "addSound", "(LThumpEars$Sounds;III)I"⟩ : Jvm.MethodName) prog_7_method_8_code 9 (Option.some Jvm.ClassFile.FieldType.int)) ∈ TT := TT_of 371 (by decide +kernel) (by decide +kernel)
theorem tq_372 : (Jvm.Cond.constant "ThumpEars$State" 81 (-1000000 : Int32)) ∈ TT := TT_of 372 (by decide +kernel) (by decide +kernel)
theorem tq_373 : (Jvm.Cond.methodLink "ThumpEars$State" 82 (⟨"ThumpEars$State", "canHear", "(III)Z"⟩ : Jvm.MethodName)) ∈ TT := TT_of 373 (by decide +kernel) (by decide +kernel)
theorem tq_374 : (Jvm.Cond.instanceMethod (⟨"ThumpEars$State", "canHear", "(III)Z"⟩ : Jvm.MethodName)) ∈ TT := TT_of 374 (by decide +kernel) (by decide +kernel)
theorem tq_375 : (Jvm.Cond.selects "ThumpEars$State" (⟨"ThumpEars$State", "canHear", "(III)Z"⟩ : Jvm.MethodName) (⟨"ThumpEars$State", "canHear", "(III)Z"⟩ : Jvm.MethodName)) ∈ TT := TT_of 375 (by decide +kernel) (by decide +kernel)
theorem tq_376 : (Jvm.Cond.code (⟨"ThumpEars$State", "canHear", "(III)Z"⟩ : Jvm.MethodName) prog_7_method_7_code 4 (Option.some Jvm.ClassFile.FieldType.boolean)) ∈ TT := TT_of 376 (by decide +kernel) (by decide +kernel)
theorem tq_377 : (Jvm.Cond.methodLink "ThumpEars$State" 71 (⟨"ThumpEars$State", "hasEar", "(I)Z"⟩ : Jvm.MethodName)) ∈ TT := TT_of 377 (by decide +kernel) (by decide +kernel)
theorem tq_378 : (Jvm.Cond.methodLink "ThumpEars$State" 75 (⟨"ThumpEars$State", "wayTo", "(II)I"⟩ : Jvm.MethodName)) ∈ TT := TT_of 378 (by decide +kernel) (by decide +kernel)
theorem tq_379 : (Jvm.Cond.instanceMethod (⟨"ThumpEars$State", "wayTo", "(II)I"⟩ : Jvm.MethodName)) ∈ TT := TT_of 379 (by decide +kernel) (by decide +kernel)
theorem tq_380 : (Jvm.Cond.selects "ThumpEars$State" (⟨"ThumpEars$State", "wayTo", "(II)I"⟩ : Jvm.MethodName) (⟨"ThumpEars$State", "wayTo", "(II)I"⟩ : Jvm.MethodName)) ∈ TT := TT_of 380 (by decide +kernel) (by decide +kernel)
theorem tq_381 : (Jvm.Cond.code (⟨"ThumpEars$State", "wayTo", "(II)I"⟩ : Jvm.MethodName) prog_7_method_6_code 3 (Option.some Jvm.ClassFile.FieldType.int)) ∈ TT := TT_of 381 (by decide +kernel) (by decide +kernel)
theorem tq_382 : (Jvm.Cond.methodLink "ThumpEars$State" 67 (⟨"java/lang/Math", "abs", "(I)I"⟩ : Jvm.MethodName)) ∈ TT := TT_of 382 (by decide +kernel) (by decide +kernel)
theorem tq_383 : (Jvm.Cond.static (⟨"java/lang/Math", "abs", "(I)I"⟩ : Jvm.MethodName)) ∈ TT := TT_of 383 (by decide +kernel) (by decide +kernel)
theorem tq_384 : (Jvm.Cond.code (⟨"java/lang/Math", "abs", "(I)I"⟩ : Jvm.MethodName) prog_10_method_59_code 1 (Option.some Jvm.ClassFile.FieldType.int)) ∈ TT := TT_of 384 (by decide +kernel) (by decide +kernel)
theorem tq_385 : (Jvm.Cond.methodLink "ThumpEars$State" 86 (⟨"ThumpEars$State", "reading", "(II)I"⟩ : Jvm.MethodName)) ∈ TT := TT_of 385 (by decide +kernel) (by decide +kernel)
theorem tq_386 : (Jvm.Cond.instanceMethod (⟨"ThumpEars$State", "reading", "(II)I"⟩ : Jvm.MethodName)) ∈ TT := TT_of 386 (by decide +kernel) (by decide +kernel)
theorem tq_387 : (Jvm.Cond.selects "ThumpEars$State" (⟨"ThumpEars$State", "reading", "(II)I"⟩ : Jvm.MethodName) (⟨"ThumpEars$State", "reading", "(II)I"⟩ : Jvm.MethodName)) ∈ TT := TT_of 387 (by decide +kernel) (by decide +kernel)
theorem tq_388 : (Jvm.Cond.code (⟨"ThumpEars$State", "reading", "(II)I"⟩ : Jvm.MethodName) prog_7_method_5_code 3 (Option.some Jvm.ClassFile.FieldType.int)) ∈ TT := TT_of 388 (by decide +kernel) (by decide +kernel)
theorem tq_389 : (Jvm.Cond.methodLink "ThumpEars$State" 61 (⟨"java/lang/Math", "floorDiv", "(II)I"⟩ : Jvm.MethodName)) ∈ TT := TT_of 389 (by decide +kernel) (by decide +kernel)
theorem tq_390 : (Jvm.Cond.static (⟨"java/lang/Math", "floorDiv", "(II)I"⟩ : Jvm.MethodName)) ∈ TT := TT_of 390 (by decide +kernel) (by decide +kernel)
theorem tq_391 : (Jvm.Cond.code (⟨"java/lang/Math", "floorDiv", "(II)I"⟩ : Jvm.MethodName) prog_10_method_47_code 3 (Option.some Jvm.ClassFile.FieldType.int)) ∈ TT := TT_of 391 (by decide +kernel) (by decide +kernel)
theorem tq_392 : (Jvm.Cond.methodLink "ThumpEarsLaw" 37 (⟨"ThumpEars", "knock", "(III)I"⟩ : Jvm.MethodName)) ∈ TT := TT_of 392 (by decide +kernel) (by decide +kernel)
theorem tq_393 : (Jvm.Cond.instanceMethod (⟨"ThumpEars", "knock", "(III)I"⟩ : Jvm.MethodName)) ∈ TT := TT_of 393 (by decide +kernel) (by decide +kernel)
theorem tq_394 : (Jvm.Cond.selects "ThumpEars" (⟨"ThumpEars", "knock", "(III)I"⟩ : Jvm.MethodName) (⟨"ThumpEars", "knock", "(III)I"⟩ : Jvm.MethodName)) ∈ TT := TT_of 394 (by decide +kernel) (by decide +kernel)
theorem tq_395 : (Jvm.Cond.code (⟨"ThumpEars", "knock", "(III)I"⟩ : Jvm.MethodName) prog_1_method_7_code 4 (Option.some Jvm.ClassFile.FieldType.int)) ∈ TT := TT_of 395 (by decide +kernel) (by decide +kernel)
theorem tq_396 : (Jvm.Cond.methodLink "ThumpEarsLaw" 41 (⟨"ThumpEars", "leaveOut", "(IZ)I"⟩ : Jvm.MethodName)) ∈ TT := TT_of 396 (by decide +kernel) (by decide +kernel)
theorem tq_397 : (Jvm.Cond.instanceMethod (⟨"ThumpEars", "leaveOut", "(IZ)I"⟩ : Jvm.MethodName)) ∈ TT := TT_of 397 (by decide +kernel) (by decide +kernel)
theorem tq_398 : (Jvm.Cond.selects "ThumpEars" (⟨"ThumpEars", "leaveOut", "(IZ)I"⟩ : Jvm.MethodName) (⟨"ThumpEars", "leaveOut", "(IZ)I"⟩ : Jvm.MethodName)) ∈ TT := TT_of 398 (by decide +kernel) (by decide +kernel)
theorem tq_399 : (Jvm.Cond.code (⟨"ThumpEars", "leaveOut", "(IZ)I"⟩ : Jvm.MethodName) prog_1_method_8_code 3 (Option.some Jvm.ClassFile.FieldType.int)) ∈ TT := TT_of 399 (by decide +kernel) (by decide +kernel)
theorem tq_400 : (Jvm.Cond.methodLink "ThumpEars" 103 (⟨"ThumpEars$Sounds", "has", "(I)Z"⟩ : Jvm.MethodName)) ∈ TT := TT_of 400 (by decide +kernel) (by decide +kernel)
theorem tq_401 : (Jvm.Cond.instanceMethod (⟨"ThumpEars$Sounds", "has", "(I)Z"⟩ : Jvm.MethodName)) ∈ TT := TT_of 401 (by decide +kernel) (by decide +kernel)
theorem tq_402 : (Jvm.Cond.selects "ThumpEars$Sounds" (⟨"ThumpEars$Sounds", "has", "(I)Z"⟩ : Jvm.MethodName) (⟨"ThumpEars$Sounds", "has", "(I)Z"⟩ : Jvm.MethodName)) ∈ TT := TT_of 402 (by decide +kernel) (by decide +kernel)
theorem tq_403 : (Jvm.Cond.code (⟨"ThumpEars$Sounds", "has", "(I)Z"⟩ : Jvm.MethodName) prog_5_method_3_code 2 (Option.some Jvm.ClassFile.FieldType.boolean)) ∈ TT := TT_of 403 (by decide +kernel) (by decide +kernel)
theorem tq_404 : (Jvm.Cond.methodLink "ThumpEarsLaw" 45 (⟨"ThumpEars", "readOrders", "()I"⟩ : Jvm.MethodName)) ∈ TT := TT_of 404 (by decide +kernel) (by decide +kernel)
theorem tq_405 : (Jvm.Cond.instanceMethod (⟨"ThumpEars", "readOrders", "()I"⟩ : Jvm.MethodName)) ∈ TT := TT_of 405 (by decide +kernel) (by decide +kernel)
theorem tq_406 : (Jvm.Cond.selects "ThumpEars" (⟨"ThumpEars", "readOrders", "()I"⟩ : Jvm.MethodName) (⟨"ThumpEars", "readOrders", "()I"⟩ : Jvm.MethodName)) ∈ TT := TT_of 406 (by decide +kernel) (by decide +kernel)
theorem tq_407 : (Jvm.Cond.code (⟨"ThumpEars", "readOrders", "()I"⟩ : Jvm.MethodName) prog_1_method_9_code 5 (Option.some Jvm.ClassFile.FieldType.int)) ∈ TT := TT_of 407 (by decide +kernel) (by decide +kernel)
theorem tq_408 : (Jvm.Cond.methodLink "ThumpEars" 114 (⟨"ThumpEars$OrderText", "read", "()I"⟩ : Jvm.MethodName)) ∈ TT := TT_of 408 (by decide +kernel) (by decide +kernel)
theorem tq_409 : (Jvm.Cond.instanceMethod (⟨"ThumpEars$OrderText", "read", "()I"⟩ : Jvm.MethodName)) ∈ TT := TT_of 409 (by decide +kernel) (by decide +kernel)
theorem tq_410 : (Jvm.Cond.selects "ThumpEars$OrderText" (⟨"ThumpEars$OrderText", "read", "()I"⟩ : Jvm.MethodName) (⟨"ThumpEars$OrderText", "read", "()I"⟩ : Jvm.MethodName)) ∈ TT := TT_of 410 (by decide +kernel) (by decide +kernel)
theorem tq_411 : (Jvm.Cond.code (⟨"ThumpEars$OrderText", "read", "()I"⟩ : Jvm.MethodName) prog_4_method_2_code 2 (Option.some Jvm.ClassFile.FieldType.int)) ∈ TT := TT_of 411 (by decide +kernel) (by decide +kernel)
theorem tq_412 : (Jvm.Cond.methodLink "ThumpEars$OrderText" 42 (⟨"ThumpEars$OrderText", "readOrder", "()Z"⟩ : Jvm.MethodName)) ∈ TT := TT_of 412 (by decide +kernel) (by decide +kernel)
theorem tq_413 : (Jvm.Cond.instanceMethod (⟨"ThumpEars$OrderText", "readOrder", "()Z"⟩ : Jvm.MethodName)) ∈ TT := TT_of 413 (by decide +kernel) (by decide +kernel)
theorem tq_414 : (Jvm.Cond.selects "ThumpEars$OrderText" (⟨"ThumpEars$OrderText", "readOrder", "()Z"⟩ : Jvm.MethodName) (⟨"ThumpEars$OrderText", "readOrder", "()Z"⟩ : Jvm.MethodName)) ∈ TT := TT_of 414 (by decide +kernel) (by decide +kernel)
theorem tq_415 : (Jvm.Cond.code (⟨"ThumpEars$OrderText", "readOrder", "()Z"⟩ : Jvm.MethodName) prog_4_method_3_code 1 (Option.some Jvm.ClassFile.FieldType.boolean)) ∈ TT := TT_of 415 (by decide +kernel) (by decide +kernel)
theorem tq_416 : (Jvm.Cond.methodLink "ThumpEars$OrderText" 46 (⟨"ThumpEars$OrderText", "skips", "(C)Z"⟩ : Jvm.MethodName)) ∈ TT := TT_of 416 (by decide +kernel) (by decide +kernel)
theorem tq_417 : (Jvm.Cond.instanceMethod (⟨"ThumpEars$OrderText", "skips", "(C)Z"⟩ : Jvm.MethodName)) ∈ TT := TT_of 417 (by decide +kernel) (by decide +kernel)
theorem tq_418 : (Jvm.Cond.selects "ThumpEars$OrderText" (⟨"ThumpEars$OrderText", "skips", "(C)Z"⟩ : Jvm.MethodName) (⟨"ThumpEars$OrderText", "skips", "(C)Z"⟩ : Jvm.MethodName)) ∈ TT := TT_of 418 (by decide +kernel) (by decide +kernel)
theorem tq_419 : (Jvm.Cond.code (⟨"ThumpEars$OrderText", "skips", "(C)Z"⟩ : Jvm.MethodName) prog_4_method_4_code 2 (Option.some Jvm.ClassFile.FieldType.boolean)) ∈ TT := TT_of 419 (by decide +kernel) (by decide +kernel)
theorem tq_420 : (Jvm.Cond.methodLink "ThumpEars$OrderText" 50 (⟨"ThumpEars$OrderText", "readNumber", "()Z"⟩ : Jvm.MethodName)) ∈ TT := TT_of 420 (by decide +kernel) (by decide +kernel)
theorem tq_421 : (Jvm.Cond.instanceMethod (⟨"ThumpEars$OrderText", "readNumber", "()Z"⟩ : Jvm.MethodName)) ∈ TT := TT_of 421 (by decide +kernel) (by decide +kernel)
theorem tq_422 : (Jvm.Cond.selects "ThumpEars$OrderText" (⟨"ThumpEars$OrderText", "readNumber", "()Z"⟩ : Jvm.MethodName) (⟨"ThumpEars$OrderText", "readNumber", "()Z"⟩ : Jvm.MethodName)) ∈ TT := TT_of 422 (by decide +kernel) (by decide +kernel)
theorem tq_423 : (Jvm.Cond.code (⟨"ThumpEars$OrderText", "readNumber", "()Z"⟩ : Jvm.MethodName) prog_4_method_5_code 2 (Option.some Jvm.ClassFile.FieldType.boolean)) ∈ TT := TT_of 423 (by decide +kernel) (by decide +kernel)
theorem tq_424 : (Jvm.Cond.methodLink "ThumpEars$OrderText" 53 (⟨"ThumpEars$OrderText", "isDigit", "()Z"⟩ : Jvm.MethodName)) ∈ TT := TT_of 424 (by decide +kernel) (by decide +kernel)
theorem tq_425 : (Jvm.Cond.instanceMethod (⟨"ThumpEars$OrderText", "isDigit", "()Z"⟩ : Jvm.MethodName)) ∈ TT := TT_of 425 (by decide +kernel) (by decide +kernel)
theorem tq_426 : (Jvm.Cond.selects "ThumpEars$OrderText" (⟨"ThumpEars$OrderText", "isDigit", "()Z"⟩ : Jvm.MethodName) (⟨"ThumpEars$OrderText", "isDigit", "()Z"⟩ : Jvm.MethodName)) ∈ TT := TT_of 426 (by decide +kernel) (by decide +kernel)
theorem tq_427 : (Jvm.Cond.code (⟨"ThumpEars$OrderText", "isDigit", "()Z"⟩ : Jvm.MethodName) prog_4_method_6_code 1 (Option.some Jvm.ClassFile.FieldType.boolean)) ∈ TT := TT_of 427 (by decide +kernel) (by decide +kernel)
theorem tq_428 : (Jvm.Cond.methodLink "ThumpEars" 118 (⟨"ThumpEars", "refusalOfOrders", "()I"⟩ : Jvm.MethodName)) ∈ TT := TT_of 428 (by decide +kernel) (by decide +kernel)
theorem tq_430 : (Jvm.Cond.instanceMethod (⟨"ThumpEars", "refusalOfOrders", "()I"⟩ : Jvm.MethodName)) ∈ TT := TT_of 430 (by decide +kernel) (by decide +kernel)
theorem tq_431 : (Jvm.Cond.code (⟨"ThumpEars", "refusalOfOrders", "()I"⟩ : Jvm.MethodName) prog_1_method_34_code 7 (Option.some Jvm.ClassFile.FieldType.int)) ∈ TT := TT_of 431 (by decide +kernel) (by decide +kernel)
theorem tq_432 : (Jvm.Cond.methodLink "ThumpEarsLaw" 50 (⟨"ThumpEars", "type", "(C)I"⟩ : Jvm.MethodName)) ∈ TT := TT_of 432 (by decide +kernel) (by decide +kernel)
theorem tq_433 : (Jvm.Cond.instanceMethod (⟨"ThumpEars", "type", "(C)I"⟩ : Jvm.MethodName)) ∈ TT := TT_of 433 (by decide +kernel) (by decide +kernel)
theorem tq_434 : (Jvm.Cond.selects "ThumpEars" (⟨"ThumpEars", "type", "(C)I"⟩ : Jvm.MethodName) (⟨"ThumpEars", "type", "(C)I"⟩ : Jvm.MethodName)) ∈ TT := TT_of 434 (by decide +kernel) (by decide +kernel)
theorem tq_435 : (Jvm.Cond.code (⟨"ThumpEars", "type", "(C)I"⟩ : Jvm.MethodName) prog_1_method_10_code 2 (Option.some Jvm.ClassFile.FieldType.int)) ∈ TT := TT_of 435 (by decide +kernel) (by decide +kernel)
theorem tq_436 : (Jvm.Cond.methodLink "ThumpEarsLaw" 55 (⟨"ThumpEars", "clearText", "()I"⟩ : Jvm.MethodName)) ∈ TT := TT_of 436 (by decide +kernel) (by decide +kernel)
theorem tq_437 : (Jvm.Cond.instanceMethod (⟨"ThumpEars", "clearText", "()I"⟩ : Jvm.MethodName)) ∈ TT := TT_of 437 (by decide +kernel) (by decide +kernel)
theorem tq_438 : (Jvm.Cond.selects "ThumpEars" (⟨"ThumpEars", "clearText", "()I"⟩ : Jvm.MethodName) (⟨"ThumpEars", "clearText", "()I"⟩ : Jvm.MethodName)) ∈ TT := TT_of 438 (by decide +kernel) (by decide +kernel)
theorem tq_439 : (Jvm.Cond.code (⟨"ThumpEars", "clearText", "()I"⟩ : Jvm.MethodName) prog_1_method_11_code 2 (Option.some Jvm.ClassFile.FieldType.int)) ∈ TT := TT_of 439 (by decide +kernel) (by decide +kernel)
theorem tq_440 : (Jvm.Cond.methodLink "ThumpEarsLaw" 59 (⟨"ThumpEars", "undo", "()I"⟩ : Jvm.MethodName)) ∈ TT := TT_of 440 (by decide +kernel) (by decide +kernel)
theorem tq_441 : (Jvm.Cond.instanceMethod (⟨"ThumpEars", "undo", "()I"⟩ : Jvm.MethodName)) ∈ TT := TT_of 441 (by decide +kernel) (by decide +kernel)
theorem tq_442 : (Jvm.Cond.selects "ThumpEars" (⟨"ThumpEars", "undo", "()I"⟩ : Jvm.MethodName) (⟨"ThumpEars", "undo", "()I"⟩ : Jvm.MethodName)) ∈ TT := TT_of 442 (by decide +kernel) (by decide +kernel)
theorem tq_443 : (Jvm.Cond.code (⟨"ThumpEars", "undo", "()I"⟩ : Jvm.MethodName) prog_1_method_12_code 1 (Option.some Jvm.ClassFile.FieldType.int)) ∈ TT := TT_of 443 (by decide +kernel) (by decide +kernel)
theorem tq_444 : (Jvm.Cond.methodLink "ThumpEars" 147 (⟨"ThumpEars$History", "popInto", "(LThumpEars$State;)V"⟩ : Jvm.MethodName)) ∈ TT := TT_of 444 (by decide +kernel) (by decide +kernel)
theorem tq_445 : (Jvm.Cond.instanceMethod (⟨"ThumpEars$History", "popInto", "(LThumpEars$State;)V"⟩ : Jvm.MethodName)) ∈ TT := TT_of 445 (by decide +kernel) (by decide +kernel)
theorem tq_446 : (Jvm.Cond.selects "ThumpEars$History" (⟨"ThumpEars$History", "popInto", "(LThumpEars$State;)V"⟩ : Jvm.MethodName) (⟨"ThumpEars$History", "popInto", "(LThumpEars$State;)V"⟩ : Jvm.MethodName)) ∈ TT := TT_of 446 (by decide +kernel) (by decide +kernel)
theorem tq_447 : (Jvm.Cond.code (⟨"ThumpEars$History", "popInto", "(LThumpEars$State;)V"⟩ : Jvm.MethodName) prog_2_method_4_code 2 (Option.none : Option Jvm.ClassFile.FieldType)) ∈ TT := TT_of 447 (by decide +kernel) (by decide +kernel)
theorem tq_448 : (Jvm.Cond.methodLink "ThumpEarsLaw" 63 (⟨"ThumpEars", "keep", "()I"⟩ : Jvm.MethodName)) ∈ TT := TT_of 448 (by decide +kernel) (by decide +kernel)
theorem tq_449 : (Jvm.Cond.instanceMethod (⟨"ThumpEars", "keep", "()I"⟩ : Jvm.MethodName)) ∈ TT := TT_of 449 (by decide +kernel) (by decide +kernel)
theorem tq_450 : (Jvm.Cond.selects "ThumpEars" (⟨"ThumpEars", "keep", "()I"⟩ : Jvm.MethodName) (⟨"ThumpEars", "keep", "()I"⟩ : Jvm.MethodName)) ∈ TT := TT_of 450 (by decide +kernel) (by decide +kernel)
theorem tq_451 : (Jvm.Cond.code (⟨"ThumpEars", "keep", "()I"⟩ : Jvm.MethodName) prog_1_method_13_code 1 (Option.some Jvm.ClassFile.FieldType.int)) ∈ TT := TT_of 451 (by decide +kernel) (by decide +kernel)
theorem tq_452 : (Jvm.Cond.methodLink "ThumpEars" 150 (⟨"ThumpEars$State", "copyFrom", "(LThumpEars$State;)V"⟩ : Jvm.MethodName)) ∈ TT := TT_of 452 (by decide +kernel) (by decide +kernel)
theorem tq_453 : (Jvm.Cond.methodLink "ThumpEars" 153 (⟨"ThumpEars$State", "soundsTogether", "()I"⟩ : Jvm.MethodName)) ∈ TT := TT_of 453 (by decide +kernel) (by decide +kernel)
theorem tq_454 : (Jvm.Cond.instanceMethod (⟨"ThumpEars$State", "soundsTogether", "()I"⟩ : Jvm.MethodName)) ∈ TT := TT_of 454 (by decide +kernel) (by decide +kernel)
theorem tq_455 : (Jvm.Cond.selects "ThumpEars$State" (⟨"ThumpEars$State", "soundsTogether", "()I"⟩ : Jvm.MethodName) (⟨"ThumpEars$State", "soundsTogether", "()I"⟩ : Jvm.MethodName)) ∈ TT := TT_of 455 (by decide +kernel) (by decide +kernel)
theorem tq_456 : (Jvm.Cond.code (⟨"ThumpEars$State", "soundsTogether", "()I"⟩ : Jvm.MethodName) prog_7_method_9_code 1 (Option.some Jvm.ClassFile.FieldType.int)) ∈ TT := TT_of 456 (by decide +kernel) (by decide +kernel)
theorem tq_457 : (Jvm.Cond.methodLink "ThumpEarsLaw" 67 (⟨"ThumpEars", "restore", "()I"⟩ : Jvm.MethodName)) ∈ TT := TT_of 457 (by decide +kernel) (by decide +kernel)
theorem tq_458 : (Jvm.Cond.instanceMethod (⟨"ThumpEars", "restore", "()I"⟩ : Jvm.MethodName)) ∈ TT := TT_of 458 (by decide +kernel) (by decide +kernel)
theorem tq_459 : (Jvm.Cond.selects "ThumpEars" (⟨"ThumpEars", "restore", "()I"⟩ : Jvm.MethodName) (⟨"ThumpEars", "restore", "()I"⟩ : Jvm.MethodName)) ∈ TT := TT_of 459 (by decide +kernel) (by decide +kernel)
theorem tq_460 : (Jvm.Cond.code (⟨"ThumpEars", "restore", "()I"⟩ : Jvm.MethodName) prog_1_method_14_code 1 (Option.some Jvm.ClassFile.FieldType.int)) ∈ TT := TT_of 460 (by decide +kernel) (by decide +kernel)
theorem tq_461 : (Jvm.Cond.methodLink "ThumpEarsLaw" 71 (⟨"ThumpEars", "ear", "(II)I"⟩ : Jvm.MethodName)) ∈ TT := TT_of 461 (by decide +kernel) (by decide +kernel)
theorem tq_462 : (Jvm.Cond.instanceMethod (⟨"ThumpEars", "ear", "(II)I"⟩ : Jvm.MethodName)) ∈ TT := TT_of 462 (by decide +kernel) (by decide +kernel)
theorem tq_463 : (Jvm.Cond.selects "ThumpEars" (⟨"ThumpEars", "ear", "(II)I"⟩ : Jvm.MethodName) (⟨"ThumpEars", "ear", "(II)I"⟩ : Jvm.MethodName)) ∈ TT := TT_of 463 (by decide +kernel) (by decide +kernel)
theorem tq_464 : (Jvm.Cond.code (⟨"ThumpEars", "ear", "(II)I"⟩ : Jvm.MethodName) prog_1_method_15_code 3 (Option.some Jvm.ClassFile.FieldType.int)) ∈ TT := TT_of 464 (by decide +kernel) (by decide +kernel)
theorem tq_465 : (Jvm.Cond.methodLink "ThumpEars" 157 (⟨"ThumpEars$Marks", "gather", "(LThumpEars$State;I)V"⟩ : Jvm.MethodName)) ∈ TT := TT_of 465 (by decide +kernel) (by decide +kernel)
theorem tq_466 : (Jvm.Cond.instanceMethod (⟨"ThumpEars$Marks", "gather", "(LThumpEars$State;I)V"⟩ : Jvm.MethodName)) ∈ TT := TT_of 466 (by decide +kernel) (by decide +kernel)
theorem tq_467 : (Jvm.Cond.selects "ThumpEars$Marks" (⟨"ThumpEars$Marks", "gather", "(LThumpEars$State;I)V"⟩ : Jvm.MethodName) (⟨"ThumpEars$Marks", "gather", "(LThumpEars$State;I)V"⟩ : Jvm.MethodName)) ∈ TT := TT_of 467 (by decide +kernel) (by decide +kernel)
theorem tq_468 : (Jvm.Cond.code (⟨"ThumpEars$Marks", "gather", "(LThumpEars$State;I)V"⟩ : Jvm.MethodName) prog_3_method_2_code 7 (Option.none : Option Jvm.ClassFile.FieldType)) ∈ TT := TT_of 468 (by decide +kernel) (by decide +kernel)
theorem tq_469 : (Jvm.Cond.constant "ThumpEars$Marks" 36 (-1000000 : Int32)) ∈ TT := TT_of 469 (by decide +kernel) (by decide +kernel)
theorem tq_470 : (Jvm.Cond.methodLink "ThumpEars$Marks" 41 (⟨"ThumpEars$Marks", "isBehindAll", "(I)Z"⟩ : Jvm.MethodName)) ∈ TT := TT_of 470 (by decide +kernel) (by decide +kernel)
theorem tq_471 : (Jvm.Cond.instanceMethod (⟨"ThumpEars$Marks", "isBehindAll", "(I)Z"⟩ : Jvm.MethodName)) ∈ TT := TT_of 471 (by decide +kernel) (by decide +kernel)
theorem tq_472 : (Jvm.Cond.selects "ThumpEars$Marks" (⟨"ThumpEars$Marks", "isBehindAll", "(I)Z"⟩ : Jvm.MethodName) (⟨"ThumpEars$Marks", "isBehindAll", "(I)Z"⟩ : Jvm.MethodName)) ∈ TT := TT_of 472 (by decide +kernel) (by decide +kernel)
theorem tq_473 : (Jvm.Cond.code (⟨"ThumpEars$Marks", "isBehindAll", "(I)Z"⟩ : Jvm.MethodName) prog_3_method_3_code 2 (Option.some Jvm.ClassFile.FieldType.boolean)) ∈ TT := TT_of 473 (by decide +kernel) (by decide +kernel)
theorem tq_474 : (Jvm.Cond.methodLink "ThumpEars$Marks" 48 (⟨"ThumpEars$State", "wayTo", "(II)I"⟩ : Jvm.MethodName)) ∈ TT := TT_of 474 (by decide +kernel) (by decide +kernel)
theorem tq_475 : (Jvm.Cond.methodLink "ThumpEars" 162 (⟨"ThumpEars", "latestReading", "(I)I"⟩ : Jvm.MethodName)) ∈ TT := TT_of 475 (by decide +kernel) (by decide +kernel)
theorem tq_477 : (Jvm.Cond.instanceMethod (⟨"ThumpEars", "latestReading", "(I)I"⟩ : Jvm.MethodName)) ∈ TT := TT_of 477 (by decide +kernel) (by decide +kernel)
theorem tq_478 : (Jvm.Cond.code (⟨"ThumpEars", "latestReading", "(I)I"⟩ : Jvm.MethodName) prog_1_method_35_code 2 (Option.some Jvm.ClassFile.FieldType.int)) ∈ TT := TT_of 478 (by decide +kernel) (by decide +kernel)
theorem tq_479 : (Jvm.Cond.methodLink "ThumpEars" 165 (⟨"ThumpEars$Sounds", "heardBy", "(I)I"⟩ : Jvm.MethodName)) ∈ TT := TT_of 479 (by decide +kernel) (by decide +kernel)
theorem tq_480 : (Jvm.Cond.instanceMethod (⟨"ThumpEars$Sounds", "heardBy", "(I)I"⟩ : Jvm.MethodName)) ∈ TT := TT_of 480 (by decide +kernel) (by decide +kernel)
theorem tq_481 : (Jvm.Cond.selects "ThumpEars$Sounds" (⟨"ThumpEars$Sounds", "heardBy", "(I)I"⟩ : Jvm.MethodName) (⟨"ThumpEars$Sounds", "heardBy", "(I)I"⟩ : Jvm.MethodName)) ∈ TT := TT_of 481 (by decide +kernel) (by decide +kernel)
theorem tq_482 : (Jvm.Cond.code (⟨"ThumpEars$Sounds", "heardBy", "(I)I"⟩ : Jvm.MethodName) prog_5_method_4_code 4 (Option.some Jvm.ClassFile.FieldType.int)) ∈ TT := TT_of 482 (by decide +kernel) (by decide +kernel)
theorem tq_483 : (Jvm.Cond.constant "ThumpEars$Sounds" 36 (-1000000 : Int32)) ∈ TT := TT_of 483 (by decide +kernel) (by decide +kernel)
theorem tq_484 : (Jvm.Cond.methodLink "ThumpEarsLaw" 75 (⟨"ThumpEars", "clock", "(II)I"⟩ : Jvm.MethodName)) ∈ TT := TT_of 484 (by decide +kernel) (by decide +kernel)
theorem tq_485 : (Jvm.Cond.instanceMethod (⟨"ThumpEars", "clock", "(II)I"⟩ : Jvm.MethodName)) ∈ TT := TT_of 485 (by decide +kernel) (by decide +kernel)
theorem tq_486 : (Jvm.Cond.selects "ThumpEars" (⟨"ThumpEars", "clock", "(II)I"⟩ : Jvm.MethodName) (⟨"ThumpEars", "clock", "(II)I"⟩ : Jvm.MethodName)) ∈ TT := TT_of 486 (by decide +kernel) (by decide +kernel)
theorem tq_487 : (Jvm.Cond.code (⟨"ThumpEars", "clock", "(II)I"⟩ : Jvm.MethodName) prog_1_method_16_code 3 (Option.some Jvm.ClassFile.FieldType.int)) ∈ TT := TT_of 487 (by decide +kernel) (by decide +kernel)
theorem tq_488 : (Jvm.Cond.constant "ThumpEars" 168 (200000 : Int32)) ∈ TT := TT_of 488 (by decide +kernel) (by decide +kernel)
theorem tq_489 : (Jvm.Cond.methodLink "ThumpEars" 169 (⟨"ThumpEars$State", "reading", "(II)I"⟩ : Jvm.MethodName)) ∈ TT := TT_of 489 (by decide +kernel) (by decide +kernel)
theorem tq_490 : (Jvm.Cond.methodLink "ThumpEarsLaw" 79 (⟨"ThumpEars", "mark", "(III)I"⟩ : Jvm.MethodName)) ∈ TT := TT_of 490 (by decide +kernel) (by decide +kernel)
theorem tq_491 : (Jvm.Cond.instanceMethod (⟨"ThumpEars", "mark", "(III)I"⟩ : Jvm.MethodName)) ∈ TT := TT_of 491 (by decide +kernel) (by decide +kernel)
theorem tq_492 : (Jvm.Cond.selects "ThumpEars" (⟨"ThumpEars", "mark", "(III)I"⟩ : Jvm.MethodName) (⟨"ThumpEars", "mark", "(III)I"⟩ : Jvm.MethodName)) ∈ TT := TT_of 492 (by decide +kernel) (by decide +kernel)
theorem tq_493 : (Jvm.Cond.code (⟨"ThumpEars", "mark", "(III)I"⟩ : Jvm.MethodName) prog_1_method_17_code 4 (Option.some Jvm.ClassFile.FieldType.int)) ∈ TT := TT_of 493 (by decide +kernel) (by decide +kernel)
theorem tq_494 : (Jvm.Cond.methodLink "ThumpEarsLaw" 83 (⟨"ThumpEars", "error", "(II)J"⟩ : Jvm.MethodName)) ∈ TT := TT_of 494 (by decide +kernel) (by decide +kernel)
theorem tq_495 : (Jvm.Cond.instanceMethod (⟨"ThumpEars", "error", "(II)J"⟩ : Jvm.MethodName)) ∈ TT := TT_of 495 (by decide +kernel) (by decide +kernel)
theorem tq_496 : (Jvm.Cond.selects "ThumpEars" (⟨"ThumpEars", "error", "(II)J"⟩ : Jvm.MethodName) (⟨"ThumpEars", "error", "(II)J"⟩ : Jvm.MethodName)) ∈ TT := TT_of 496 (by decide +kernel) (by decide +kernel)
theorem tq_497 : (Jvm.Cond.code (⟨"ThumpEars", "error", "(II)J"⟩ : Jvm.MethodName) prog_1_method_18_code 3 (Option.some Jvm.ClassFile.FieldType.long)) ∈ TT := TT_of 497 (by decide +kernel) (by decide +kernel)
theorem tq_498 : (Jvm.Cond.methodLink "ThumpEars" 181 (⟨"ThumpEars", "longError", "(I)J"⟩ : Jvm.MethodName)) ∈ TT := TT_of 498 (by decide +kernel) (by decide +kernel)
theorem tq_499 : (Jvm.Cond.static (⟨"ThumpEars", "longError", "(I)J"⟩ : Jvm.MethodName)) ∈ TT := TT_of 499 (by decide +kernel) (by decide +kernel)
theorem tq_500 : (Jvm.Cond.code (⟨"ThumpEars", "longError", "(I)J"⟩ : Jvm.MethodName) prog_1_method_27_code 1 (Option.some Jvm.ClassFile.FieldType.long)) ∈ TT := TT_of 500 (by decide +kernel) (by decide +kernel)
theorem tq_501 : (Jvm.Cond.constantLong "ThumpEars" 248 (-9223372036854775808 : Int64)) ∈ TT := TT_of 501 (by decide +kernel) (by decide +kernel)
theorem tq_502 : (Jvm.Cond.constant "ThumpEars" 185 (300000 : Int32)) ∈ TT := TT_of 502 (by decide +kernel) (by decide +kernel)
theorem tq_503 : (Jvm.Cond.methodLink "ThumpEars" 186 (⟨"ThumpEars$Marks", "errorAt", "(I)J"⟩ : Jvm.MethodName)) ∈ TT := TT_of 503 (by decide +kernel) (by decide +kernel)
theorem tq_504 : (Jvm.Cond.instanceMethod (⟨"ThumpEars$Marks", "errorAt", "(I)J"⟩ : Jvm.MethodName)) ∈ TT := TT_of 504 (by decide +kernel) (by decide +kernel)
theorem tq_505 : (Jvm.Cond.selects "ThumpEars$Marks" (⟨"ThumpEars$Marks", "errorAt", "(I)J"⟩ : Jvm.MethodName) (⟨"ThumpEars$Marks", "errorAt", "(I)J"⟩ : Jvm.MethodName)) ∈ TT := TT_of 505 (by decide +kernel) (by decide +kernel)
theorem tq_506 : (Jvm.Cond.code (⟨"ThumpEars$Marks", "errorAt", "(I)J"⟩ : Jvm.MethodName) prog_3_method_5_code 10 (Option.some Jvm.ClassFile.FieldType.long)) ∈ TT := TT_of 506 (by decide +kernel) (by decide +kernel)
theorem tq_507 : (Jvm.Cond.methodLink "ThumpEars$Marks" 58 (⟨"ThumpEars$Marks", "firstOfPair", "(I)I"⟩ : Jvm.MethodName)) ∈ TT := TT_of 507 (by decide +kernel) (by decide +kernel)
theorem tq_508 : (Jvm.Cond.instanceMethod (⟨"ThumpEars$Marks", "firstOfPair", "(I)I"⟩ : Jvm.MethodName)) ∈ TT := TT_of 508 (by decide +kernel) (by decide +kernel)
theorem tq_509 : (Jvm.Cond.selects "ThumpEars$Marks" (⟨"ThumpEars$Marks", "firstOfPair", "(I)I"⟩ : Jvm.MethodName) (⟨"ThumpEars$Marks", "firstOfPair", "(I)I"⟩ : Jvm.MethodName)) ∈ TT := TT_of 509 (by decide +kernel) (by decide +kernel)
theorem tq_510 : (Jvm.Cond.code (⟨"ThumpEars$Marks", "firstOfPair", "(I)I"⟩ : Jvm.MethodName) prog_3_method_6_code 4 (Option.some Jvm.ClassFile.FieldType.int)) ∈ TT := TT_of 510 (by decide +kernel) (by decide +kernel)
theorem tq_511 : (Jvm.Cond.methodLink "ThumpEars$Marks" 62 (⟨"java/lang/Math", "min", "(II)I"⟩ : Jvm.MethodName)) ∈ TT := TT_of 511 (by decide +kernel) (by decide +kernel)
theorem tq_512 : (Jvm.Cond.static (⟨"java/lang/Math", "min", "(II)I"⟩ : Jvm.MethodName)) ∈ TT := TT_of 512 (by decide +kernel) (by decide +kernel)
theorem tq_513 : (Jvm.Cond.code (⟨"java/lang/Math", "min", "(II)I"⟩ : Jvm.MethodName) prog_10_method_69_code 2 (Option.some Jvm.ClassFile.FieldType.int)) ∈ TT := TT_of 513 (by decide +kernel) (by decide +kernel)
theorem tq_514 : (Jvm.Cond.constantLong "ThumpEars$Marks" 67 (1000 : Int64)) ∈ TT := TT_of 514 (by decide +kernel) (by decide +kernel)
theorem tq_515 : (Jvm.Cond.methodLink "ThumpEars$Marks" 69 (⟨"java/lang/Math", "floorDiv", "(JJ)J"⟩ : Jvm.MethodName)) ∈ TT := TT_of 515 (by decide +kernel) (by decide +kernel)
theorem tq_516 : (Jvm.Cond.static (⟨"java/lang/Math", "floorDiv", "(JJ)J"⟩ : Jvm.MethodName)) ∈ TT := TT_of 516 (by decide +kernel) (by decide +kernel)
theorem tq_517 : (Jvm.Cond.code (⟨"java/lang/Math", "floorDiv", "(JJ)J"⟩ : Jvm.MethodName) prog_10_method_49_code 6 (Option.some Jvm.ClassFile.FieldType.long)) ∈ TT := TT_of 517 (by decide +kernel) (by decide +kernel)
theorem tq_518 : (Jvm.Cond.methodLink "ThumpEarsLaw" 88 (⟨"ThumpEars", "stalest", "()I"⟩ : Jvm.MethodName)) ∈ TT := TT_of 518 (by decide +kernel) (by decide +kernel)
theorem tq_519 : (Jvm.Cond.instanceMethod (⟨"ThumpEars", "stalest", "()I"⟩ : Jvm.MethodName)) ∈ TT := TT_of 519 (by decide +kernel) (by decide +kernel)
theorem tq_520 : (Jvm.Cond.selects "ThumpEars" (⟨"ThumpEars", "stalest", "()I"⟩ : Jvm.MethodName) (⟨"ThumpEars", "stalest", "()I"⟩ : Jvm.MethodName)) ∈ TT := TT_of 520 (by decide +kernel) (by decide +kernel)
theorem tq_521 : (Jvm.Cond.code (⟨"ThumpEars", "stalest", "()I"⟩ : Jvm.MethodName) prog_1_method_19_code 5 (Option.some Jvm.ClassFile.FieldType.int)) ∈ TT := TT_of 521 (by decide +kernel) (by decide +kernel)
theorem tq_522 : (Jvm.Cond.methodLink "ThumpEars" 189 (⟨"ThumpEars$Marks", "latestThump", "()I"⟩ : Jvm.MethodName)) ∈ TT := TT_of 522 (by decide +kernel) (by decide +kernel)
theorem tq_523 : (Jvm.Cond.instanceMethod (⟨"ThumpEars$Marks", "latestThump", "()I"⟩ : Jvm.MethodName)) ∈ TT := TT_of 523 (by decide +kernel) (by decide +kernel)
theorem tq_524 : (Jvm.Cond.selects "ThumpEars$Marks" (⟨"ThumpEars$Marks", "latestThump", "()I"⟩ : Jvm.MethodName) (⟨"ThumpEars$Marks", "latestThump", "()I"⟩ : Jvm.MethodName)) ∈ TT := TT_of 524 (by decide +kernel) (by decide +kernel)
theorem tq_525 : (Jvm.Cond.code (⟨"ThumpEars$Marks", "latestThump", "()I"⟩ : Jvm.MethodName) prog_3_method_4_code 1 (Option.some Jvm.ClassFile.FieldType.int)) ∈ TT := TT_of 525 (by decide +kernel) (by decide +kernel)
theorem tq_526 : (Jvm.Cond.methodLink "ThumpEarsLaw" 92 (⟨"ThumpEars", "heard", "(ZII)I"⟩ : Jvm.MethodName)) ∈ TT := TT_of 526 (by decide +kernel) (by decide +kernel)
theorem tq_527 : (Jvm.Cond.instanceMethod (⟨"ThumpEars", "heard", "(ZII)I"⟩ : Jvm.MethodName)) ∈ TT := TT_of 527 (by decide +kernel) (by decide +kernel)
theorem tq_528 : (Jvm.Cond.selects "ThumpEars" (⟨"ThumpEars", "heard", "(ZII)I"⟩ : Jvm.MethodName) (⟨"ThumpEars", "heard", "(ZII)I"⟩ : Jvm.MethodName)) ∈ TT := TT_of 528 (by decide +kernel) (by decide +kernel)
theorem tq_529 : (Jvm.Cond.code (⟨"ThumpEars", "heard", "(ZII)I"⟩ : Jvm.MethodName) prog_1_method_20_code 6 (Option.some Jvm.ClassFile.FieldType.int)) ∈ TT := TT_of 529 (by decide +kernel) (by decide +kernel)
theorem tq_530 : (Jvm.Cond.constant "ThumpEars" 195 (-1000000 : Int32)) ∈ TT := TT_of 530 (by decide +kernel) (by decide +kernel)
theorem tq_531 : (Jvm.Cond.methodLink "ThumpEarsLaw" 97 (⟨"ThumpEars", "putRight", "(II)J"⟩ : Jvm.MethodName)) ∈ TT := TT_of 531 (by decide +kernel) (by decide +kernel)
theorem tq_532 : (Jvm.Cond.instanceMethod (⟨"ThumpEars", "putRight", "(II)J"⟩ : Jvm.MethodName)) ∈ TT := TT_of 532 (by decide +kernel) (by decide +kernel)
theorem tq_533 : (Jvm.Cond.selects "ThumpEars" (⟨"ThumpEars", "putRight", "(II)J"⟩ : Jvm.MethodName) (⟨"ThumpEars", "putRight", "(II)J"⟩ : Jvm.MethodName)) ∈ TT := TT_of 533 (by decide +kernel) (by decide +kernel)
theorem tq_534 : (Jvm.Cond.code (⟨"ThumpEars", "putRight", "(II)J"⟩ : Jvm.MethodName) prog_1_method_21_code 4 (Option.some Jvm.ClassFile.FieldType.long)) ∈ TT := TT_of 534 (by decide +kernel) (by decide +kernel)
theorem tq_535 : (Jvm.Cond.methodLink "ThumpEars" 196 (⟨"ThumpEars$Marks", "rightTime", "(I)J"⟩ : Jvm.MethodName)) ∈ TT := TT_of 535 (by decide +kernel) (by decide +kernel)
theorem tq_536 : (Jvm.Cond.instanceMethod (⟨"ThumpEars$Marks", "rightTime", "(I)J"⟩ : Jvm.MethodName)) ∈ TT := TT_of 536 (by decide +kernel) (by decide +kernel)
theorem tq_537 : (Jvm.Cond.selects "ThumpEars$Marks" (⟨"ThumpEars$Marks", "rightTime", "(I)J"⟩ : Jvm.MethodName) (⟨"ThumpEars$Marks", "rightTime", "(I)J"⟩ : Jvm.MethodName)) ∈ TT := TT_of 537 (by decide +kernel) (by decide +kernel)
theorem tq_538 : (Jvm.Cond.code (⟨"ThumpEars$Marks", "rightTime", "(I)J"⟩ : Jvm.MethodName) prog_3_method_7_code 2 (Option.some Jvm.ClassFile.FieldType.long)) ∈ TT := TT_of 538 (by decide +kernel) (by decide +kernel)
theorem tq_539 : (Jvm.Cond.methodLink "ThumpEars$Marks" 73 (⟨"ThumpEars$Marks", "errorAt", "(I)J"⟩ : Jvm.MethodName)) ∈ TT := TT_of 539 (by decide +kernel) (by decide +kernel)
theorem tq_540 : (Jvm.Cond.methodLink "ThumpEarsLaw" 101 (⟨"ThumpEars", "found", "(II)J"⟩ : Jvm.MethodName)) ∈ TT := TT_of 540 (by decide +kernel) (by decide +kernel)
theorem tq_541 : (Jvm.Cond.instanceMethod (⟨"ThumpEars", "found", "(II)J"⟩ : Jvm.MethodName)) ∈ TT := TT_of 541 (by decide +kernel) (by decide +kernel)
theorem tq_542 : (Jvm.Cond.selects "ThumpEars" (⟨"ThumpEars", "found", "(II)J"⟩ : Jvm.MethodName) (⟨"ThumpEars", "found", "(II)J"⟩ : Jvm.MethodName)) ∈ TT := TT_of 542 (by decide +kernel) (by decide +kernel)
theorem tq_543 : (Jvm.Cond.code (⟨"ThumpEars", "found", "(II)J"⟩ : Jvm.MethodName) prog_1_method_22_code 3 (Option.some Jvm.ClassFile.FieldType.long)) ∈ TT := TT_of 543 (by decide +kernel) (by decide +kernel)
theorem tq_544 : (Jvm.Cond.methodLink "ThumpEars" 199 (⟨"ThumpEars$Source", "listen", "(LThumpEars$State;ILThumpEars$Marks;)V"⟩ : Jvm.MethodName)) ∈ TT := TT_of 544 (by decide +kernel) (by decide +kernel)
theorem tq_545 : (Jvm.Cond.instanceMethod (⟨"ThumpEars$Source", "listen", "(LThumpEars$State;ILThumpEars$Marks;)V"⟩ : Jvm.MethodName)) ∈ TT := TT_of 545 (by decide +kernel) (by decide +kernel)
theorem tq_546 : (Jvm.Cond.selects "ThumpEars$Source" (⟨"ThumpEars$Source", "listen", "(LThumpEars$State;ILThumpEars$Marks;)V"⟩ : Jvm.MethodName) (⟨"ThumpEars$Source", "listen", "(LThumpEars$State;ILThumpEars$Marks;)V"⟩ : Jvm.MethodName)) ∈ TT := TT_of 546 (by decide +kernel) (by decide +kernel)
theorem tq_547 : (Jvm.Cond.code (⟨"ThumpEars$Source", "listen", "(LThumpEars$State;ILThumpEars$Marks;)V"⟩ : Jvm.MethodName) prog_6_method_2_code 6 (Option.none : Option Jvm.ClassFile.FieldType)) ∈ TT := TT_of 547 (by decide +kernel) (by decide +kernel)
theorem tq_548 : (Jvm.Cond.constantLong "ThumpEars$Source" 39 (1000 : Int64)) ∈ TT := TT_of 548 (by decide +kernel) (by decide +kernel)
theorem tq_549 : (Jvm.Cond.constant "ThumpEars$Source" 58 (-1000000 : Int32)) ∈ TT := TT_of 549 (by decide +kernel) (by decide +kernel)
theorem tq_550 : (Jvm.Cond.methodLink "ThumpEars$Source" 59 (⟨"ThumpEars$Marks", "gather", "(LThumpEars$State;I)V"⟩ : Jvm.MethodName)) ∈ TT := TT_of 550 (by decide +kernel) (by decide +kernel)
theorem tq_551 : (Jvm.Cond.methodLink "ThumpEars$Source" 68 (⟨"ThumpEars$Marks", "rightTime", "(I)J"⟩ : Jvm.MethodName)) ∈ TT := TT_of 551 (by decide +kernel) (by decide +kernel)
theorem tq_552 : (Jvm.Cond.methodLink "ThumpEars" 204 (⟨"ThumpEars$Source", "locate", "()V"⟩ : Jvm.MethodName)) ∈ TT := TT_of 552 (by decide +kernel) (by decide +kernel)
theorem tq_553 : (Jvm.Cond.instanceMethod (⟨"ThumpEars$Source", "locate", "()V"⟩ : Jvm.MethodName)) ∈ TT := TT_of 553 (by decide +kernel) (by decide +kernel)
theorem tq_554 : (Jvm.Cond.selects "ThumpEars$Source" (⟨"ThumpEars$Source", "locate", "()V"⟩ : Jvm.MethodName) (⟨"ThumpEars$Source", "locate", "()V"⟩ : Jvm.MethodName)) ∈ TT := TT_of 554 (by decide +kernel) (by decide +kernel)
theorem tq_555 : (Jvm.Cond.code (⟨"ThumpEars$Source", "locate", "()V"⟩ : Jvm.MethodName) prog_6_method_5_code 5 (Option.none : Option Jvm.ClassFile.FieldType)) ∈ TT := TT_of 555 (by decide +kernel) (by decide +kernel)
theorem tq_556 : (Jvm.Cond.methodLink "ThumpEars$Source" 88 (⟨"ThumpEars$Source", "lookFrom", "(I)V"⟩ : Jvm.MethodName)) ∈ TT := TT_of 556 (by decide +kernel) (by decide +kernel)
theorem tq_557 : (Jvm.Cond.instanceMethod (⟨"ThumpEars$Source", "lookFrom", "(I)V"⟩ : Jvm.MethodName)) ∈ TT := TT_of 557 (by decide +kernel) (by decide +kernel)
theorem tq_558 : (Jvm.Cond.selects "ThumpEars$Source" (⟨"ThumpEars$Source", "lookFrom", "(I)V"⟩ : Jvm.MethodName) (⟨"ThumpEars$Source", "lookFrom", "(I)V"⟩ : Jvm.MethodName)) ∈ TT := TT_of 558 (by decide +kernel) (by decide +kernel)
theorem tq_559 : (Jvm.Cond.code (⟨"ThumpEars$Source", "lookFrom", "(I)V"⟩ : Jvm.MethodName) prog_6_method_4_code 5 (Option.none : Option Jvm.ClassFile.FieldType)) ∈ TT := TT_of 559 (by decide +kernel) (by decide +kernel)
theorem tq_560 : (Jvm.Cond.methodLink "ThumpEars$Source" 78 (⟨"ThumpEars$Source", "beginning", "(I)J"⟩ : Jvm.MethodName)) ∈ TT := TT_of 560 (by decide +kernel) (by decide +kernel)
theorem tq_561 : (Jvm.Cond.instanceMethod (⟨"ThumpEars$Source", "beginning", "(I)J"⟩ : Jvm.MethodName)) ∈ TT := TT_of 561 (by decide +kernel) (by decide +kernel)
theorem tq_562 : (Jvm.Cond.selects "ThumpEars$Source" (⟨"ThumpEars$Source", "beginning", "(I)J"⟩ : Jvm.MethodName) (⟨"ThumpEars$Source", "beginning", "(I)J"⟩ : Jvm.MethodName)) ∈ TT := TT_of 562 (by decide +kernel) (by decide +kernel)
theorem tq_563 : (Jvm.Cond.code (⟨"ThumpEars$Source", "beginning", "(I)J"⟩ : Jvm.MethodName) prog_6_method_3_code 2 (Option.some Jvm.ClassFile.FieldType.long)) ∈ TT := TT_of 563 (by decide +kernel) (by decide +kernel)
theorem tq_564 : (Jvm.Cond.methodLink "ThumpEars$Source" 72 (⟨"java/lang/Math", "abs", "(I)I"⟩ : Jvm.MethodName)) ∈ TT := TT_of 564 (by decide +kernel) (by decide +kernel)
theorem tq_565 : (Jvm.Cond.methodLink "ThumpEars$Source" 81 (⟨"java/lang/Math", "min", "(JJ)J"⟩ : Jvm.MethodName)) ∈ TT := TT_of 565 (by decide +kernel) (by decide +kernel)
theorem tq_566 : (Jvm.Cond.static (⟨"java/lang/Math", "min", "(JJ)J"⟩ : Jvm.MethodName)) ∈ TT := TT_of 566 (by decide +kernel) (by decide +kernel)
theorem tq_567 : (Jvm.Cond.code (⟨"java/lang/Math", "min", "(JJ)J"⟩ : Jvm.MethodName) prog_10_method_70_code 4 (Option.some Jvm.ClassFile.FieldType.long)) ∈ TT := TT_of 567 (by decide +kernel) (by decide +kernel)
theorem tq_568 : (Jvm.Cond.methodLink "ThumpEars$Source" 85 (⟨"java/lang/Math", "max", "(JJ)J"⟩ : Jvm.MethodName)) ∈ TT := TT_of 568 (by decide +kernel) (by decide +kernel)
theorem tq_569 : (Jvm.Cond.static (⟨"java/lang/Math", "max", "(JJ)J"⟩ : Jvm.MethodName)) ∈ TT := TT_of 569 (by decide +kernel) (by decide +kernel)
theorem tq_570 : (Jvm.Cond.code (⟨"java/lang/Math", "max", "(JJ)J"⟩ : Jvm.MethodName) prog_10_method_66_code 4 (Option.some Jvm.ClassFile.FieldType.long)) ∈ TT := TT_of 570 (by decide +kernel) (by decide +kernel)
theorem tq_571 : (Jvm.Cond.methodLink "ThumpEars$Source" 92 (⟨"ThumpEars$Source", "width", "()J"⟩ : Jvm.MethodName)) ∈ TT := TT_of 571 (by decide +kernel) (by decide +kernel)
theorem tq_572 : (Jvm.Cond.instanceMethod (⟨"ThumpEars$Source", "width", "()J"⟩ : Jvm.MethodName)) ∈ TT := TT_of 572 (by decide +kernel) (by decide +kernel)
theorem tq_573 : (Jvm.Cond.selects "ThumpEars$Source" (⟨"ThumpEars$Source", "width", "()J"⟩ : Jvm.MethodName) (⟨"ThumpEars$Source", "width", "()J"⟩ : Jvm.MethodName)) ∈ TT := TT_of 573 (by decide +kernel) (by decide +kernel)
theorem tq_574 : (Jvm.Cond.code (⟨"ThumpEars$Source", "width", "()J"⟩ : Jvm.MethodName) prog_6_method_6_code 1 (Option.some Jvm.ClassFile.FieldType.long)) ∈ TT := TT_of 574 (by decide +kernel) (by decide +kernel)
theorem tq_575 : (Jvm.Cond.methodLink "ThumpEars" 210 (⟨"ThumpEars$Source", "time", "()J"⟩ : Jvm.MethodName)) ∈ TT := TT_of 575 (by decide +kernel) (by decide +kernel)
theorem tq_576 : (Jvm.Cond.instanceMethod (⟨"ThumpEars$Source", "time", "()J"⟩ : Jvm.MethodName)) ∈ TT := TT_of 576 (by decide +kernel) (by decide +kernel)
theorem tq_577 : (Jvm.Cond.selects "ThumpEars$Source" (⟨"ThumpEars$Source", "time", "()J"⟩ : Jvm.MethodName) (⟨"ThumpEars$Source", "time", "()J"⟩ : Jvm.MethodName)) ∈ TT := TT_of 577 (by decide +kernel) (by decide +kernel)
theorem tq_578 : (Jvm.Cond.code (⟨"ThumpEars$Source", "time", "()J"⟩ : Jvm.MethodName) prog_6_method_8_code 1 (Option.some Jvm.ClassFile.FieldType.long)) ∈ TT := TT_of 578 (by decide +kernel) (by decide +kernel)
theorem tq_579 : (Jvm.Cond.constantLong "ThumpEars$Source" 96 (2 : Int64)) ∈ TT := TT_of 579 (by decide +kernel) (by decide +kernel)
theorem tq_580 : (Jvm.Cond.methodLink "ThumpEars$Source" 98 (⟨"java/lang/Math", "floorDiv", "(JJ)J"⟩ : Jvm.MethodName)) ∈ TT := TT_of 580 (by decide +kernel) (by decide +kernel)
theorem tq_581 : (Jvm.Cond.methodLink "ThumpEars" 214 (⟨"ThumpEars$Source", "width", "()J"⟩ : Jvm.MethodName)) ∈ TT := TT_of 581 (by decide +kernel) (by decide +kernel)
theorem tq_582 : (Jvm.Cond.methodLink "ThumpEars" 220 (⟨"ThumpEars$Source", "fits", "(I)Z"⟩ : Jvm.MethodName)) ∈ TT := TT_of 582 (by decide +kernel) (by decide +kernel)
theorem tq_583 : (Jvm.Cond.instanceMethod (⟨"ThumpEars$Source", "fits", "(I)Z"⟩ : Jvm.MethodName)) ∈ TT := TT_of 583 (by decide +kernel) (by decide +kernel)
theorem tq_584 : (Jvm.Cond.selects "ThumpEars$Source" (⟨"ThumpEars$Source", "fits", "(I)Z"⟩ : Jvm.MethodName) (⟨"ThumpEars$Source", "fits", "(I)Z"⟩ : Jvm.MethodName)) ∈ TT := TT_of 584 (by decide +kernel) (by decide +kernel)
theorem tq_585 : (Jvm.Cond.code (⟨"ThumpEars$Source", "fits", "(I)Z"⟩ : Jvm.MethodName) prog_6_method_7_code 2 (Option.some Jvm.ClassFile.FieldType.boolean)) ∈ TT := TT_of 585 (by decide +kernel) (by decide +kernel)
theorem tq_586 : (Jvm.Cond.methodLink "ThumpEars" 223 (⟨"ThumpEars$Source", "worstEar", "()I"⟩ : Jvm.MethodName)) ∈ TT := TT_of 586 (by decide +kernel) (by decide +kernel)
theorem tq_587 : (Jvm.Cond.instanceMethod (⟨"ThumpEars$Source", "worstEar", "()I"⟩ : Jvm.MethodName)) ∈ TT := TT_of 587 (by decide +kernel) (by decide +kernel)
theorem tq_588 : (Jvm.Cond.selects "ThumpEars$Source" (⟨"ThumpEars$Source", "worstEar", "()I"⟩ : Jvm.MethodName) (⟨"ThumpEars$Source", "worstEar", "()I"⟩ : Jvm.MethodName)) ∈ TT := TT_of 588 (by decide +kernel) (by decide +kernel)
theorem tq_589 : (Jvm.Cond.code (⟨"ThumpEars$Source", "worstEar", "()I"⟩ : Jvm.MethodName) prog_6_method_9_code 7 (Option.some Jvm.ClassFile.FieldType.int)) ∈ TT := TT_of 589 (by decide +kernel) (by decide +kernel)
theorem tq_590 : (Jvm.Cond.methodLink "ThumpEars$Source" 101 (⟨"ThumpEars$Source", "time", "()J"⟩ : Jvm.MethodName)) ∈ TT := TT_of 590 (by decide +kernel) (by decide +kernel)
theorem tq_591 : (Jvm.Cond.methodLink "ThumpEars$Source" 104 (⟨"java/lang/Math", "abs", "(J)J"⟩ : Jvm.MethodName)) ∈ TT := TT_of 591 (by decide +kernel) (by decide +kernel)
theorem tq_592 : (Jvm.Cond.static (⟨"java/lang/Math", "abs", "(J)J"⟩ : Jvm.MethodName)) ∈ TT := TT_of 592 (by decide +kernel) (by decide +kernel)
theorem tq_593 : (Jvm.Cond.code (⟨"java/lang/Math", "abs", "(J)J"⟩ : Jvm.MethodName) prog_10_method_61_code 2 (Option.some Jvm.ClassFile.FieldType.long)) ∈ TT := TT_of 593 (by decide +kernel) (by decide +kernel)
theorem tq_594 : (Jvm.Cond.methodLink "ThumpEarsLaw" 105 (⟨"ThumpEars", "spread", "(II)J"⟩ : Jvm.MethodName)) ∈ TT := TT_of 594 (by decide +kernel) (by decide +kernel)
theorem tq_595 : (Jvm.Cond.instanceMethod (⟨"ThumpEars", "spread", "(II)J"⟩ : Jvm.MethodName)) ∈ TT := TT_of 595 (by decide +kernel) (by decide +kernel)
theorem tq_596 : (Jvm.Cond.selects "ThumpEars" (⟨"ThumpEars", "spread", "(II)J"⟩ : Jvm.MethodName) (⟨"ThumpEars", "spread", "(II)J"⟩ : Jvm.MethodName)) ∈ TT := TT_of 596 (by decide +kernel) (by decide +kernel)
theorem tq_597 : (Jvm.Cond.code (⟨"ThumpEars", "spread", "(II)J"⟩ : Jvm.MethodName) prog_1_method_23_code 3 (Option.some Jvm.ClassFile.FieldType.long)) ∈ TT := TT_of 597 (by decide +kernel) (by decide +kernel)
theorem tq_598 : (Jvm.Cond.methodLink "ThumpEars" 226 (⟨"ThumpEars$Source", "lookFrom", "(I)V"⟩ : Jvm.MethodName)) ∈ TT := TT_of 598 (by decide +kernel) (by decide +kernel)
theorem tq_599 : (Jvm.Cond.methodLink "ThumpEarsLaw" 109 (⟨"ThumpEars", "truth", "(II)I"⟩ : Jvm.MethodName)) ∈ TT := TT_of 599 (by decide +kernel) (by decide +kernel)
theorem tq_600 : (Jvm.Cond.instanceMethod (⟨"ThumpEars", "truth", "(II)I"⟩ : Jvm.MethodName)) ∈ TT := TT_of 600 (by decide +kernel) (by decide +kernel)
theorem tq_601 : (Jvm.Cond.selects "ThumpEars" (⟨"ThumpEars", "truth", "(II)I"⟩ : Jvm.MethodName) (⟨"ThumpEars", "truth", "(II)I"⟩ : Jvm.MethodName)) ∈ TT := TT_of 601 (by decide +kernel) (by decide +kernel)
theorem tq_602 : (Jvm.Cond.code (⟨"ThumpEars", "truth", "(II)I"⟩ : Jvm.MethodName) prog_1_method_24_code 3 (Option.some Jvm.ClassFile.FieldType.int)) ∈ TT := TT_of 602 (by decide +kernel) (by decide +kernel)
theorem tq_603 : (Jvm.Cond.methodLink "ThumpEars" 232 (⟨"ThumpEars", "missOf", "(I)I"⟩ : Jvm.MethodName)) ∈ TT := TT_of 603 (by decide +kernel) (by decide +kernel)
theorem tq_605 : (Jvm.Cond.instanceMethod (⟨"ThumpEars", "missOf", "(I)I"⟩ : Jvm.MethodName)) ∈ TT := TT_of 605 (by decide +kernel) (by decide +kernel)
theorem tq_606 : (Jvm.Cond.code (⟨"ThumpEars", "missOf", "(I)I"⟩ : Jvm.MethodName) prog_1_method_36_code 2 (Option.some Jvm.ClassFile.FieldType.int)) ∈ TT := TT_of 606 (by decide +kernel) (by decide +kernel)
theorem tq_607 : (Jvm.Cond.methodLink "ThumpEars" 255 (⟨"java/lang/Math", "abs", "(I)I"⟩ : Jvm.MethodName)) ∈ TT := TT_of 607 (by decide +kernel) (by decide +kernel)
theorem tq_608 : (Jvm.Cond.methodLink "ThumpEarsLaw" 113 (⟨"ThumpEars", "count", "(I)I"⟩ : Jvm.MethodName)) ∈ TT := TT_of 608 (by decide +kernel) (by decide +kernel)
theorem tq_609 : (Jvm.Cond.instanceMethod (⟨"ThumpEars", "count", "(I)I"⟩ : Jvm.MethodName)) ∈ TT := TT_of 609 (by decide +kernel) (by decide +kernel)
theorem tq_610 : (Jvm.Cond.selects "ThumpEars" (⟨"ThumpEars", "count", "(I)I"⟩ : Jvm.MethodName) (⟨"ThumpEars", "count", "(I)I"⟩ : Jvm.MethodName)) ∈ TT := TT_of 610 (by decide +kernel) (by decide +kernel)
theorem tq_611 : (Jvm.Cond.code (⟨"ThumpEars", "count", "(I)I"⟩ : Jvm.MethodName) prog_1_method_25_code 2 (Option.some Jvm.ClassFile.FieldType.int)) ∈ TT := TT_of 611 (by decide +kernel) (by decide +kernel)
theorem tq_612 : (Jvm.Cond.methodLink "ThumpEars" 245 (⟨"ThumpEars", "countFitting", "()I"⟩ : Jvm.MethodName)) ∈ TT := TT_of 612 (by decide +kernel) (by decide +kernel)
theorem tq_614 : (Jvm.Cond.instanceMethod (⟨"ThumpEars", "countFitting", "()I"⟩ : Jvm.MethodName)) ∈ TT := TT_of 614 (by decide +kernel) (by decide +kernel)
theorem tq_615 : (Jvm.Cond.code (⟨"ThumpEars", "countFitting", "()I"⟩ : Jvm.MethodName) prog_1_method_37_code 3 (Option.some Jvm.ClassFile.FieldType.int)) ∈ TT := TT_of 615 (by decide +kernel) (by decide +kernel)
theorem tq_616 : (Jvm.Cond.classLink "ThumpEarsLaw" 10 "ThumpEarsModel") ∈ TT := TT_of 616 (by decide +kernel) (by decide +kernel)
theorem tq_617 : (Jvm.Cond.instantiable "ThumpEarsModel" 17) ∈ TT := TT_of 617 (by decide +kernel) (by decide +kernel)
theorem tq_618 : (Jvm.Cond.methodLink "ThumpEarsLaw" 12 (⟨"ThumpEarsModel", "<init>", "()V"⟩ : Jvm.MethodName)) ∈ TT := TT_of 618 (by decide +kernel) (by decide +kernel)
theorem tq_619 : (Jvm.Cond.instanceMethod (⟨"ThumpEarsModel", "<init>", "()V"⟩ : Jvm.MethodName)) ∈ TT := TT_of 619 (by decide +kernel) (by decide +kernel)
theorem tq_620 : (Jvm.Cond.code (⟨"ThumpEarsModel", "<init>", "()V"⟩ : Jvm.MethodName) prog_9_method_1_code 2 (Option.none : Option Jvm.ClassFile.FieldType)) ∈ TT := TT_of 620 (by decide +kernel) (by decide +kernel)
theorem tq_621 : (Jvm.Cond.methodLink "ThumpEarsModel" 1 (⟨"java/lang/Object", "<init>", "()V"⟩ : Jvm.MethodName)) ∈ TT := TT_of 621 (by decide +kernel) (by decide +kernel)
theorem tq_622 : (Jvm.Cond.constant "ThumpEarsModel" 39 (-1000000000 : Int32)) ∈ TT := TT_of 622 (by decide +kernel) (by decide +kernel)
theorem tq_623 : (Jvm.Cond.fieldLink "ThumpEarsModel" 7 "ThumpEarsModel" "row" "[I") ∈ TT := TT_of 623 (by decide +kernel) (by decide +kernel)
theorem tq_624 : (Jvm.Cond.fieldLink "ThumpEarsModel" 13 "ThumpEarsModel" "past" "[I") ∈ TT := TT_of 624 (by decide +kernel) (by decide +kernel)
theorem tq_625 : (Jvm.Cond.fieldLink "ThumpEarsModel" 16 "ThumpEarsModel" "aside" "[I") ∈ TT := TT_of 625 (by decide +kernel) (by decide +kernel)
theorem tq_626 : (Jvm.Cond.fieldLink "ThumpEarsModel" 19 "ThumpEarsModel" "before" "[I") ∈ TT := TT_of 626 (by decide +kernel) (by decide +kernel)
theorem tq_627 : (Jvm.Cond.fieldLink "ThumpEarsModel" 42 "ThumpEarsModel" "states" "I") ∈ TT := TT_of 627 (by decide +kernel) (by decide +kernel)
theorem tq_628 : (Jvm.Cond.fieldLink "ThumpEarsModel" 52 "ThumpEarsModel" "isAside" "Z") ∈ TT := TT_of 628 (by decide +kernel) (by decide +kernel)
theorem tq_629 : (Jvm.Cond.fieldLink "ThumpEarsModel" 22 "ThumpEarsModel" "text" "[C") ∈ TT := TT_of 629 (by decide +kernel) (by decide +kernel)
theorem tq_630 : (Jvm.Cond.fieldLink "ThumpEarsModel" 109 "ThumpEarsModel" "length" "I") ∈ TT := TT_of 630 (by decide +kernel) (by decide +kernel)
theorem tq_631 : (Jvm.Cond.fieldLink "ThumpEarsModel" 112 "ThumpEarsModel" "at" "I") ∈ TT := TT_of 631 (by decide +kernel) (by decide +kernel)
theorem tq_632 : (Jvm.Cond.fieldLink "ThumpEarsModel" 126 "ThumpEarsModel" "told" "I") ∈ TT := TT_of 632 (by decide +kernel) (by decide +kernel)
theorem tq_633 : (Jvm.Cond.fieldLink "ThumpEarsModel" 140 "ThumpEarsModel" "marks" "I") ∈ TT := TT_of 633 (by decide +kernel) (by decide +kernel)
theorem tq_634 : (Jvm.Cond.fieldLink "ThumpEarsModel" 26 "ThumpEarsModel" "reading" "[I") ∈ TT := TT_of 634 (by decide +kernel) (by decide +kernel)
theorem tq_635 : (Jvm.Cond.fieldLink "ThumpEarsModel" 29 "ThumpEarsModel" "error" "[I") ∈ TT := TT_of 635 (by decide +kernel) (by decide +kernel)
theorem tq_636 : (Jvm.Cond.fieldLink "ThumpEarsModel" 32 "ThumpEarsModel" "thump" "[I") ∈ TT := TT_of 636 (by decide +kernel) (by decide +kernel)
theorem tq_637 : (Jvm.Cond.fieldLink "ThumpEarsModel" 173 "ThumpEarsModel" "least" "J") ∈ TT := TT_of 637 (by decide +kernel) (by decide +kernel)
theorem tq_638 : (Jvm.Cond.fieldLink "ThumpEarsModel" 177 "ThumpEarsModel" "most" "J") ∈ TT := TT_of 638 (by decide +kernel) (by decide +kernel)
theorem tq_639 : (Jvm.Cond.fieldLink "ThumpEarsModel" 35 "ThumpEarsModel" "right" "[J") ∈ TT := TT_of 639 (by decide +kernel) (by decide +kernel)
theorem tq_640 : (Jvm.Cond.laysFinal "ThumpEarsModel" "ThumpEarsModel" "row" "[I") ∈ TT := TT_of 640 (by decide +kernel) (by decide +kernel)
theorem tq_641 : (Jvm.Cond.soleField "ThumpEarsModel" "row") ∈ TT := TT_of 641 (by decide +kernel) (by decide +kernel)
theorem tq_642 : (Jvm.Cond.laysFinal "ThumpEarsModel" "ThumpEarsModel" "past" "[I") ∈ TT := TT_of 642 (by decide +kernel) (by decide +kernel)
theorem tq_643 : (Jvm.Cond.soleField "ThumpEarsModel" "past") ∈ TT := TT_of 643 (by decide +kernel) (by decide +kernel)
theorem tq_644 : (Jvm.Cond.laysFinal "ThumpEarsModel" "ThumpEarsModel" "aside" "[I") ∈ TT := TT_of 644 (by decide +kernel) (by decide +kernel)
theorem tq_645 : (Jvm.Cond.soleField "ThumpEarsModel" "aside") ∈ TT := TT_of 645 (by decide +kernel) (by decide +kernel)
theorem tq_646 : (Jvm.Cond.laysFinal "ThumpEarsModel" "ThumpEarsModel" "before" "[I") ∈ TT := TT_of 646 (by decide +kernel) (by decide +kernel)
theorem tq_647 : (Jvm.Cond.soleField "ThumpEarsModel" "before") ∈ TT := TT_of 647 (by decide +kernel) (by decide +kernel)
theorem tq_648 : (Jvm.Cond.lays "ThumpEarsModel" "ThumpEarsModel" "states" "I") ∈ TT := TT_of 648 (by decide +kernel) (by decide +kernel)
theorem tq_649 : (Jvm.Cond.soleField "ThumpEarsModel" "states") ∈ TT := TT_of 649 (by decide +kernel) (by decide +kernel)
theorem tq_650 : (Jvm.Cond.lays "ThumpEarsModel" "ThumpEarsModel" "isAside" "Z") ∈ TT := TT_of 650 (by decide +kernel) (by decide +kernel)
theorem tq_651 : (Jvm.Cond.soleField "ThumpEarsModel" "isAside") ∈ TT := TT_of 651 (by decide +kernel) (by decide +kernel)
theorem tq_652 : (Jvm.Cond.laysFinal "ThumpEarsModel" "ThumpEarsModel" "text" "[C") ∈ TT := TT_of 652 (by decide +kernel) (by decide +kernel)
theorem tq_653 : (Jvm.Cond.soleField "ThumpEarsModel" "text") ∈ TT := TT_of 653 (by decide +kernel) (by decide +kernel)
theorem tq_654 : (Jvm.Cond.lays "ThumpEarsModel" "ThumpEarsModel" "length" "I") ∈ TT := TT_of 654 (by decide +kernel) (by decide +kernel)
theorem tq_655 : (Jvm.Cond.soleField "ThumpEarsModel" "length") ∈ TT := TT_of 655 (by decide +kernel) (by decide +kernel)
theorem tq_656 : (Jvm.Cond.lays "ThumpEarsModel" "ThumpEarsModel" "at" "I") ∈ TT := TT_of 656 (by decide +kernel) (by decide +kernel)
theorem tq_657 : (Jvm.Cond.soleField "ThumpEarsModel" "at") ∈ TT := TT_of 657 (by decide +kernel) (by decide +kernel)
theorem tq_658 : (Jvm.Cond.lays "ThumpEarsModel" "ThumpEarsModel" "told" "I") ∈ TT := TT_of 658 (by decide +kernel) (by decide +kernel)
theorem tq_659 : (Jvm.Cond.soleField "ThumpEarsModel" "told") ∈ TT := TT_of 659 (by decide +kernel) (by decide +kernel)
theorem tq_660 : (Jvm.Cond.lays "ThumpEarsModel" "ThumpEarsModel" "marks" "I") ∈ TT := TT_of 660 (by decide +kernel) (by decide +kernel)
theorem tq_661 : (Jvm.Cond.soleField "ThumpEarsModel" "marks") ∈ TT := TT_of 661 (by decide +kernel) (by decide +kernel)
theorem tq_662 : (Jvm.Cond.laysFinal "ThumpEarsModel" "ThumpEarsModel" "reading" "[I") ∈ TT := TT_of 662 (by decide +kernel) (by decide +kernel)
theorem tq_663 : (Jvm.Cond.soleField "ThumpEarsModel" "reading") ∈ TT := TT_of 663 (by decide +kernel) (by decide +kernel)
theorem tq_664 : (Jvm.Cond.laysFinal "ThumpEarsModel" "ThumpEarsModel" "error" "[I") ∈ TT := TT_of 664 (by decide +kernel) (by decide +kernel)
theorem tq_665 : (Jvm.Cond.soleField "ThumpEarsModel" "error") ∈ TT := TT_of 665 (by decide +kernel) (by decide +kernel)
theorem tq_666 : (Jvm.Cond.laysFinal "ThumpEarsModel" "ThumpEarsModel" "thump" "[I") ∈ TT := TT_of 666 (by decide +kernel) (by decide +kernel)
theorem tq_667 : (Jvm.Cond.soleField "ThumpEarsModel" "thump") ∈ TT := TT_of 667 (by decide +kernel) (by decide +kernel)
theorem tq_668 : (Jvm.Cond.lays "ThumpEarsModel" "ThumpEarsModel" "least" "J") ∈ TT := TT_of 668 (by decide +kernel) (by decide +kernel)
theorem tq_669 : (Jvm.Cond.soleField "ThumpEarsModel" "least") ∈ TT := TT_of 669 (by decide +kernel) (by decide +kernel)
theorem tq_670 : (Jvm.Cond.lays "ThumpEarsModel" "ThumpEarsModel" "most" "J") ∈ TT := TT_of 670 (by decide +kernel) (by decide +kernel)
theorem tq_671 : (Jvm.Cond.soleField "ThumpEarsModel" "most") ∈ TT := TT_of 671 (by decide +kernel) (by decide +kernel)
theorem tq_672 : (Jvm.Cond.laysFinal "ThumpEarsModel" "ThumpEarsModel" "right" "[J") ∈ TT := TT_of 672 (by decide +kernel) (by decide +kernel)
theorem tq_673 : (Jvm.Cond.soleField "ThumpEarsModel" "right") ∈ TT := TT_of 673 (by decide +kernel) (by decide +kernel)
theorem tq_674 : (Jvm.Cond.superclass "ThumpEarsModel" "java/lang/Object") ∈ TT := TT_of 674 (by decide +kernel) (by decide +kernel)
theorem tq_675 : (Jvm.Cond.methodLink "ThumpEarsLaw" 62 (⟨"ThumpEarsModel", "undo", "()I"⟩ : Jvm.MethodName)) ∈ TT := TT_of 675 (by decide +kernel) (by decide +kernel)
theorem tq_676 : (Jvm.Cond.instanceMethod (⟨"ThumpEarsModel", "undo", "()I"⟩ : Jvm.MethodName)) ∈ TT := TT_of 676 (by decide +kernel) (by decide +kernel)
theorem tq_677 : (Jvm.Cond.selects "ThumpEarsModel" (⟨"ThumpEarsModel", "undo", "()I"⟩ : Jvm.MethodName) (⟨"ThumpEarsModel", "undo", "()I"⟩ : Jvm.MethodName)) ∈ TT := TT_of 677 (by decide +kernel) (by decide +kernel)
theorem tq_678 : (Jvm.Cond.code (⟨"ThumpEarsModel", "undo", "()I"⟩ : Jvm.MethodName) prog_9_method_10_code 2 (Option.some Jvm.ClassFile.FieldType.int)) ∈ TT := TT_of 678 (by decide +kernel) (by decide +kernel)
theorem tq_679 : (Jvm.Cond.methodLink "ThumpEarsLaw" 66 (⟨"ThumpEarsModel", "keep", "()I"⟩ : Jvm.MethodName)) ∈ TT := TT_of 679 (by decide +kernel) (by decide +kernel)
theorem tq_680 : (Jvm.Cond.instanceMethod (⟨"ThumpEarsModel", "keep", "()I"⟩ : Jvm.MethodName)) ∈ TT := TT_of 680 (by decide +kernel) (by decide +kernel)
theorem tq_681 : (Jvm.Cond.selects "ThumpEarsModel" (⟨"ThumpEarsModel", "keep", "()I"⟩ : Jvm.MethodName) (⟨"ThumpEarsModel", "keep", "()I"⟩ : Jvm.MethodName)) ∈ TT := TT_of 681 (by decide +kernel) (by decide +kernel)
theorem tq_682 : (Jvm.Cond.code (⟨"ThumpEarsModel", "keep", "()I"⟩ : Jvm.MethodName) prog_9_method_12_code 2 (Option.some Jvm.ClassFile.FieldType.int)) ∈ TT := TT_of 682 (by decide +kernel) (by decide +kernel)
theorem tq_683 : (Jvm.Cond.methodLink "ThumpEarsModel" 56 (⟨"ThumpEarsModel", "came", "()I"⟩ : Jvm.MethodName)) ∈ TT := TT_of 683 (by decide +kernel) (by decide +kernel)
theorem tq_685 : (Jvm.Cond.instanceMethod (⟨"ThumpEarsModel", "came", "()I"⟩ : Jvm.MethodName)) ∈ TT := TT_of 685 (by decide +kernel) (by decide +kernel)
theorem tq_686 : (Jvm.Cond.code (⟨"ThumpEarsModel", "came", "()I"⟩ : Jvm.MethodName) prog_9_method_11_code 1 (Option.some Jvm.ClassFile.FieldType.int)) ∈ TT := TT_of 686 (by decide +kernel) (by decide +kernel)
theorem tq_687 : (Jvm.Cond.methodLink "ThumpEarsLaw" 70 (⟨"ThumpEarsModel", "restore", "()I"⟩ : Jvm.MethodName)) ∈ TT := TT_of 687 (by decide +kernel) (by decide +kernel)
theorem tq_688 : (Jvm.Cond.instanceMethod (⟨"ThumpEarsModel", "restore", "()I"⟩ : Jvm.MethodName)) ∈ TT := TT_of 688 (by decide +kernel) (by decide +kernel)
theorem tq_689 : (Jvm.Cond.selects "ThumpEarsModel" (⟨"ThumpEarsModel", "restore", "()I"⟩ : Jvm.MethodName) (⟨"ThumpEarsModel", "restore", "()I"⟩ : Jvm.MethodName)) ∈ TT := TT_of 689 (by decide +kernel) (by decide +kernel)
theorem tq_690 : (Jvm.Cond.code (⟨"ThumpEarsModel", "restore", "()I"⟩ : Jvm.MethodName) prog_9_method_13_code 2 (Option.some Jvm.ClassFile.FieldType.int)) ∈ TT := TT_of 690 (by decide +kernel) (by decide +kernel)
theorem tq_691 : (Jvm.Cond.methodLink "ThumpEarsModel" 60 (⟨"ThumpEarsModel", "open", "()V"⟩ : Jvm.MethodName)) ∈ TT := TT_of 691 (by decide +kernel) (by decide +kernel)
theorem tq_693 : (Jvm.Cond.instanceMethod (⟨"ThumpEarsModel", "open", "()V"⟩ : Jvm.MethodName)) ∈ TT := TT_of 693 (by decide +kernel) (by decide +kernel)
theorem tq_694 : (Jvm.Cond.code (⟨"ThumpEarsModel", "open", "()V"⟩ : Jvm.MethodName) prog_9_method_9_code 1 (Option.none : Option Jvm.ClassFile.FieldType)) ∈ TT := TT_of 694 (by decide +kernel) (by decide +kernel)
theorem tq_695 : (Jvm.Cond.methodLink "ThumpEarsModel" 46 (⟨"ThumpEarsModel", "remember", "()V"⟩ : Jvm.MethodName)) ∈ TT := TT_of 695 (by decide +kernel) (by decide +kernel)
theorem tq_697 : (Jvm.Cond.instanceMethod (⟨"ThumpEarsModel", "remember", "()V"⟩ : Jvm.MethodName)) ∈ TT := TT_of 697 (by decide +kernel) (by decide +kernel)
theorem tq_698 : (Jvm.Cond.code (⟨"ThumpEarsModel", "remember", "()V"⟩ : Jvm.MethodName) prog_9_method_6_code 2 (Option.none : Option Jvm.ClassFile.FieldType)) ∈ TT := TT_of 698 (by decide +kernel) (by decide +kernel)
theorem tq_699 : (Jvm.Cond.methodLink "ThumpEarsModel" 49 (⟨"ThumpEarsModel", "record", "()V"⟩ : Jvm.MethodName)) ∈ TT := TT_of 699 (by decide +kernel) (by decide +kernel)
theorem tq_701 : (Jvm.Cond.instanceMethod (⟨"ThumpEarsModel", "record", "()V"⟩ : Jvm.MethodName)) ∈ TT := TT_of 701 (by decide +kernel) (by decide +kernel)
theorem tq_702 : (Jvm.Cond.code (⟨"ThumpEarsModel", "record", "()V"⟩ : Jvm.MethodName) prog_9_method_8_code 2 (Option.none : Option Jvm.ClassFile.FieldType)) ∈ TT := TT_of 702 (by decide +kernel) (by decide +kernel)
theorem tq_703 : (Jvm.Cond.methodLink "ThumpEarsLaw" 17 (⟨"ThumpEarsModel", "bury", "(I)I"⟩ : Jvm.MethodName)) ∈ TT := TT_of 703 (by decide +kernel) (by decide +kernel)
theorem tq_704 : (Jvm.Cond.instanceMethod (⟨"ThumpEarsModel", "bury", "(I)I"⟩ : Jvm.MethodName)) ∈ TT := TT_of 704 (by decide +kernel) (by decide +kernel)
theorem tq_705 : (Jvm.Cond.selects "ThumpEarsModel" (⟨"ThumpEarsModel", "bury", "(I)I"⟩ : Jvm.MethodName) (⟨"ThumpEarsModel", "bury", "(I)I"⟩ : Jvm.MethodName)) ∈ TT := TT_of 705 (by decide +kernel) (by decide +kernel)
theorem tq_706 : (Jvm.Cond.code (⟨"ThumpEarsModel", "bury", "(I)I"⟩ : Jvm.MethodName) prog_9_method_16_code 4 (Option.some Jvm.ClassFile.FieldType.int)) ∈ TT := TT_of 706 (by decide +kernel) (by decide +kernel)
theorem tq_707 : (Jvm.Cond.methodLink "ThumpEarsModel" 63 (⟨"ThumpEarsModel", "in", "(III)Z"⟩ : Jvm.MethodName)) ∈ TT := TT_of 707 (by decide +kernel) (by decide +kernel)
theorem tq_708 : (Jvm.Cond.static (⟨"ThumpEarsModel", "in", "(III)Z"⟩ : Jvm.MethodName)) ∈ TT := TT_of 708 (by decide +kernel) (by decide +kernel)
theorem tq_709 : (Jvm.Cond.code (⟨"ThumpEarsModel", "in", "(III)Z"⟩ : Jvm.MethodName) prog_9_method_2_code 3 (Option.some Jvm.ClassFile.FieldType.boolean)) ∈ TT := TT_of 709 (by decide +kernel) (by decide +kernel)
theorem tq_710 : (Jvm.Cond.methodLink "ThumpEarsLaw" 22 (⟨"ThumpEarsModel", "setClock", "(III)I"⟩ : Jvm.MethodName)) ∈ TT := TT_of 710 (by decide +kernel) (by decide +kernel)
theorem tq_711 : (Jvm.Cond.instanceMethod (⟨"ThumpEarsModel", "setClock", "(III)I"⟩ : Jvm.MethodName)) ∈ TT := TT_of 711 (by decide +kernel) (by decide +kernel)
theorem tq_712 : (Jvm.Cond.selects "ThumpEarsModel" (⟨"ThumpEarsModel", "setClock", "(III)I"⟩ : Jvm.MethodName) (⟨"ThumpEarsModel", "setClock", "(III)I"⟩ : Jvm.MethodName)) ∈ TT := TT_of 712 (by decide +kernel) (by decide +kernel)
theorem tq_713 : (Jvm.Cond.code (⟨"ThumpEarsModel", "setClock", "(III)I"⟩ : Jvm.MethodName) prog_9_method_17_code 4 (Option.some Jvm.ClassFile.FieldType.int)) ∈ TT := TT_of 713 (by decide +kernel) (by decide +kernel)
theorem tq_714 : (Jvm.Cond.methodLink "ThumpEarsModel" 67 (⟨"ThumpEarsModel", "noEar", "(I)Z"⟩ : Jvm.MethodName)) ∈ TT := TT_of 714 (by decide +kernel) (by decide +kernel)
theorem tq_716 : (Jvm.Cond.instanceMethod (⟨"ThumpEarsModel", "noEar", "(I)Z"⟩ : Jvm.MethodName)) ∈ TT := TT_of 716 (by decide +kernel) (by decide +kernel)
theorem tq_717 : (Jvm.Cond.code (⟨"ThumpEarsModel", "noEar", "(I)Z"⟩ : Jvm.MethodName) prog_9_method_14_code 2 (Option.some Jvm.ClassFile.FieldType.boolean)) ∈ TT := TT_of 717 (by decide +kernel) (by decide +kernel)
theorem tq_718 : (Jvm.Cond.methodLink "ThumpEarsModel" 71 (⟨"ThumpEarsModel", "of", "(II)I"⟩ : Jvm.MethodName)) ∈ TT := TT_of 718 (by decide +kernel) (by decide +kernel)
theorem tq_720 : (Jvm.Cond.instanceMethod (⟨"ThumpEarsModel", "of", "(II)I"⟩ : Jvm.MethodName)) ∈ TT := TT_of 720 (by decide +kernel) (by decide +kernel)
theorem tq_721 : (Jvm.Cond.code (⟨"ThumpEarsModel", "of", "(II)I"⟩ : Jvm.MethodName) prog_9_method_15_code 3 (Option.some Jvm.ClassFile.FieldType.int)) ∈ TT := TT_of 721 (by decide +kernel) (by decide +kernel)
theorem tq_722 : (Jvm.Cond.methodLink "ThumpEarsLaw" 27 (⟨"ThumpEarsModel", "mute", "(IZ)I"⟩ : Jvm.MethodName)) ∈ TT := TT_of 722 (by decide +kernel) (by decide +kernel)
theorem tq_723 : (Jvm.Cond.instanceMethod (⟨"ThumpEarsModel", "mute", "(IZ)I"⟩ : Jvm.MethodName)) ∈ TT := TT_of 723 (by decide +kernel) (by decide +kernel)
theorem tq_724 : (Jvm.Cond.selects "ThumpEarsModel" (⟨"ThumpEarsModel", "mute", "(IZ)I"⟩ : Jvm.MethodName) (⟨"ThumpEarsModel", "mute", "(IZ)I"⟩ : Jvm.MethodName)) ∈ TT := TT_of 724 (by decide +kernel) (by decide +kernel)
theorem tq_725 : (Jvm.Cond.code (⟨"ThumpEarsModel", "mute", "(IZ)I"⟩ : Jvm.MethodName) prog_9_method_19_code 4 (Option.some Jvm.ClassFile.FieldType.int)) ∈ TT := TT_of 725 (by decide +kernel) (by decide +kernel)
theorem tq_726 : (Jvm.Cond.methodLink "ThumpEarsModel" 75 (⟨"ThumpEarsModel", "mutes", "()I"⟩ : Jvm.MethodName)) ∈ TT := TT_of 726 (by decide +kernel) (by decide +kernel)
theorem tq_728 : (Jvm.Cond.instanceMethod (⟨"ThumpEarsModel", "mutes", "()I"⟩ : Jvm.MethodName)) ∈ TT := TT_of 728 (by decide +kernel) (by decide +kernel)
theorem tq_729 : (Jvm.Cond.code (⟨"ThumpEarsModel", "mutes", "()I"⟩ : Jvm.MethodName) prog_9_method_18_code 3 (Option.some Jvm.ClassFile.FieldType.int)) ∈ TT := TT_of 729 (by decide +kernel) (by decide +kernel)
theorem tq_730 : (Jvm.Cond.methodLink "ThumpEarsLaw" 32 (⟨"ThumpEarsModel", "set", "(II)I"⟩ : Jvm.MethodName)) ∈ TT := TT_of 730 (by decide +kernel) (by decide +kernel)
theorem tq_731 : (Jvm.Cond.instanceMethod (⟨"ThumpEarsModel", "set", "(II)I"⟩ : Jvm.MethodName)) ∈ TT := TT_of 731 (by decide +kernel) (by decide +kernel)
theorem tq_732 : (Jvm.Cond.selects "ThumpEarsModel" (⟨"ThumpEarsModel", "set", "(II)I"⟩ : Jvm.MethodName) (⟨"ThumpEarsModel", "set", "(II)I"⟩ : Jvm.MethodName)) ∈ TT := TT_of 732 (by decide +kernel) (by decide +kernel)
theorem tq_733 : (Jvm.Cond.code (⟨"ThumpEarsModel", "set", "(II)I"⟩ : Jvm.MethodName) prog_9_method_20_code 4 (Option.some Jvm.ClassFile.FieldType.int)) ∈ TT := TT_of 733 (by decide +kernel) (by decide +kernel)
theorem tq_734 : (Jvm.Cond.methodLink "ThumpEarsLaw" 36 (⟨"ThumpEarsModel", "thump", "(III)I"⟩ : Jvm.MethodName)) ∈ TT := TT_of 734 (by decide +kernel) (by decide +kernel)
theorem tq_735 : (Jvm.Cond.instanceMethod (⟨"ThumpEarsModel", "thump", "(III)I"⟩ : Jvm.MethodName)) ∈ TT := TT_of 735 (by decide +kernel) (by decide +kernel)
theorem tq_736 : (Jvm.Cond.selects "ThumpEarsModel" (⟨"ThumpEarsModel", "thump", "(III)I"⟩ : Jvm.MethodName) (⟨"ThumpEarsModel", "thump", "(III)I"⟩ : Jvm.MethodName)) ∈ TT := TT_of 736 (by decide +kernel) (by decide +kernel)
theorem tq_737 : (Jvm.Cond.code (⟨"ThumpEarsModel", "thump", "(III)I"⟩ : Jvm.MethodName) prog_9_method_27_code 4 (Option.some Jvm.ClassFile.FieldType.int)) ∈ TT := TT_of 737 (by decide +kernel) (by decide +kernel)
theorem tq_738 : (Jvm.Cond.methodLink "ThumpEarsModel" 95 (⟨"ThumpEarsModel", "act", "(IIII)I"⟩ : Jvm.MethodName)) ∈ TT := TT_of 738 (by decide +kernel) (by decide +kernel)
theorem tq_740 : (Jvm.Cond.instanceMethod (⟨"ThumpEarsModel", "act", "(IIII)I"⟩ : Jvm.MethodName)) ∈ TT := TT_of 740 (by decide +kernel) (by decide +kernel)
theorem tq_741 : (Jvm.Cond.code (⟨"ThumpEarsModel", "act", "(IIII)I"⟩ : Jvm.MethodName) prog_9_method_26_code 6 (Option.some Jvm.ClassFile.FieldType.int)) ∈ TT := TT_of 741 (by decide +kernel) (by decide +kernel)
theorem tq_742 : (Jvm.Cond.methodLink "ThumpEarsModel" 91 (⟨"ThumpEarsModel", "make", "(IIII)I"⟩ : Jvm.MethodName)) ∈ TT := TT_of 742 (by decide +kernel) (by decide +kernel)
theorem tq_744 : (Jvm.Cond.instanceMethod (⟨"ThumpEarsModel", "make", "(IIII)I"⟩ : Jvm.MethodName)) ∈ TT := TT_of 744 (by decide +kernel) (by decide +kernel)
theorem tq_745 : (Jvm.Cond.code (⟨"ThumpEarsModel", "make", "(IIII)I"⟩ : Jvm.MethodName) prog_9_method_25_code 11 (Option.some Jvm.ClassFile.FieldType.int)) ∈ TT := TT_of 745 (by decide +kernel) (by decide +kernel)
theorem tq_746 : (Jvm.Cond.constant "ThumpEarsModel" 84 (100000 : Int32)) ∈ TT := TT_of 746 (by decide +kernel) (by decide +kernel)
theorem tq_747 : (Jvm.Cond.methodLink "ThumpEarsModel" 85 (⟨"ThumpEarsModel", "far", "(II)I"⟩ : Jvm.MethodName)) ∈ TT := TT_of 747 (by decide +kernel) (by decide +kernel)
theorem tq_748 : (Jvm.Cond.static (⟨"ThumpEarsModel", "far", "(II)I"⟩ : Jvm.MethodName)) ∈ TT := TT_of 748 (by decide +kernel) (by decide +kernel)
theorem tq_749 : (Jvm.Cond.code (⟨"ThumpEarsModel", "far", "(II)I"⟩ : Jvm.MethodName) prog_9_method_3_code 2 (Option.some Jvm.ClassFile.FieldType.int)) ∈ TT := TT_of 749 (by decide +kernel) (by decide +kernel)
theorem tq_750 : (Jvm.Cond.methodLink "ThumpEarsModel" 88 (⟨"ThumpEarsModel", "reads", "(II)I"⟩ : Jvm.MethodName)) ∈ TT := TT_of 750 (by decide +kernel) (by decide +kernel)
theorem tq_752 : (Jvm.Cond.instanceMethod (⟨"ThumpEarsModel", "reads", "(II)I"⟩ : Jvm.MethodName)) ∈ TT := TT_of 752 (by decide +kernel) (by decide +kernel)
theorem tq_753 : (Jvm.Cond.code (⟨"ThumpEarsModel", "reads", "(II)I"⟩ : Jvm.MethodName) prog_9_method_24_code 3 (Option.some Jvm.ClassFile.FieldType.int)) ∈ TT := TT_of 753 (by decide +kernel) (by decide +kernel)
theorem tq_754 : (Jvm.Cond.constantLong "ThumpEarsModel" 78 (10000 : Int64)) ∈ TT := TT_of 754 (by decide +kernel) (by decide +kernel)
theorem tq_755 : (Jvm.Cond.methodLink "ThumpEarsModel" 80 (⟨"ThumpEarsModel", "down", "(JJ)J"⟩ : Jvm.MethodName)) ∈ TT := TT_of 755 (by decide +kernel) (by decide +kernel)
theorem tq_756 : (Jvm.Cond.static (⟨"ThumpEarsModel", "down", "(JJ)J"⟩ : Jvm.MethodName)) ∈ TT := TT_of 756 (by decide +kernel) (by decide +kernel)
theorem tq_757 : (Jvm.Cond.code (⟨"ThumpEarsModel", "down", "(JJ)J"⟩ : Jvm.MethodName) prog_9_method_4_code 6 (Option.some Jvm.ClassFile.FieldType.long)) ∈ TT := TT_of 757 (by decide +kernel) (by decide +kernel)
theorem tq_758 : (Jvm.Cond.methodLink "ThumpEarsLaw" 40 (⟨"ThumpEarsModel", "knock", "(III)I"⟩ : Jvm.MethodName)) ∈ TT := TT_of 758 (by decide +kernel) (by decide +kernel)
theorem tq_759 : (Jvm.Cond.instanceMethod (⟨"ThumpEarsModel", "knock", "(III)I"⟩ : Jvm.MethodName)) ∈ TT := TT_of 759 (by decide +kernel) (by decide +kernel)
theorem tq_760 : (Jvm.Cond.selects "ThumpEarsModel" (⟨"ThumpEarsModel", "knock", "(III)I"⟩ : Jvm.MethodName) (⟨"ThumpEarsModel", "knock", "(III)I"⟩ : Jvm.MethodName)) ∈ TT := TT_of 760 (by decide +kernel) (by decide +kernel)
theorem tq_761 : (Jvm.Cond.code (⟨"ThumpEarsModel", "knock", "(III)I"⟩ : Jvm.MethodName) prog_9_method_28_code 4 (Option.some Jvm.ClassFile.FieldType.int)) ∈ TT := TT_of 761 (by decide +kernel) (by decide +kernel)
theorem tq_762 : (Jvm.Cond.methodLink "ThumpEarsLaw" 44 (⟨"ThumpEarsModel", "leaveOut", "(IZ)I"⟩ : Jvm.MethodName)) ∈ TT := TT_of 762 (by decide +kernel) (by decide +kernel)
theorem tq_763 : (Jvm.Cond.instanceMethod (⟨"ThumpEarsModel", "leaveOut", "(IZ)I"⟩ : Jvm.MethodName)) ∈ TT := TT_of 763 (by decide +kernel) (by decide +kernel)
theorem tq_764 : (Jvm.Cond.selects "ThumpEarsModel" (⟨"ThumpEarsModel", "leaveOut", "(IZ)I"⟩ : Jvm.MethodName) (⟨"ThumpEarsModel", "leaveOut", "(IZ)I"⟩ : Jvm.MethodName)) ∈ TT := TT_of 764 (by decide +kernel) (by decide +kernel)
theorem tq_765 : (Jvm.Cond.code (⟨"ThumpEarsModel", "leaveOut", "(IZ)I"⟩ : Jvm.MethodName) prog_9_method_30_code 4 (Option.some Jvm.ClassFile.FieldType.int)) ∈ TT := TT_of 765 (by decide +kernel) (by decide +kernel)
theorem tq_766 : (Jvm.Cond.methodLink "ThumpEarsModel" 102 (⟨"ThumpEarsModel", "none", "(II)Z"⟩ : Jvm.MethodName)) ∈ TT := TT_of 766 (by decide +kernel) (by decide +kernel)
theorem tq_768 : (Jvm.Cond.instanceMethod (⟨"ThumpEarsModel", "none", "(II)Z"⟩ : Jvm.MethodName)) ∈ TT := TT_of 768 (by decide +kernel) (by decide +kernel)
theorem tq_769 : (Jvm.Cond.code (⟨"ThumpEarsModel", "none", "(II)Z"⟩ : Jvm.MethodName) prog_9_method_23_code 3 (Option.some Jvm.ClassFile.FieldType.boolean)) ∈ TT := TT_of 769 (by decide +kernel) (by decide +kernel)
theorem tq_770 : (Jvm.Cond.methodLink "ThumpEarsModel" 98 (⟨"ThumpEarsModel", "come", "(III)I"⟩ : Jvm.MethodName)) ∈ TT := TT_of 770 (by decide +kernel) (by decide +kernel)
theorem tq_772 : (Jvm.Cond.instanceMethod (⟨"ThumpEarsModel", "come", "(III)I"⟩ : Jvm.MethodName)) ∈ TT := TT_of 772 (by decide +kernel) (by decide +kernel)
theorem tq_773 : (Jvm.Cond.code (⟨"ThumpEarsModel", "come", "(III)I"⟩ : Jvm.MethodName) prog_9_method_21_code 4 (Option.some Jvm.ClassFile.FieldType.int)) ∈ TT := TT_of 773 (by decide +kernel) (by decide +kernel)
theorem tq_774 : (Jvm.Cond.methodLink "ThumpEarsModel" 106 (⟨"ThumpEarsModel", "outs", "()I"⟩ : Jvm.MethodName)) ∈ TT := TT_of 774 (by decide +kernel) (by decide +kernel)
theorem tq_776 : (Jvm.Cond.instanceMethod (⟨"ThumpEarsModel", "outs", "()I"⟩ : Jvm.MethodName)) ∈ TT := TT_of 776 (by decide +kernel) (by decide +kernel)
theorem tq_777 : (Jvm.Cond.code (⟨"ThumpEarsModel", "outs", "()I"⟩ : Jvm.MethodName) prog_9_method_29_code 3 (Option.some Jvm.ClassFile.FieldType.int)) ∈ TT := TT_of 777 (by decide +kernel) (by decide +kernel)
theorem tq_778 : (Jvm.Cond.methodLink "ThumpEarsLaw" 54 (⟨"ThumpEarsModel", "type", "(C)I"⟩ : Jvm.MethodName)) ∈ TT := TT_of 778 (by decide +kernel) (by decide +kernel)
theorem tq_779 : (Jvm.Cond.instanceMethod (⟨"ThumpEarsModel", "type", "(C)I"⟩ : Jvm.MethodName)) ∈ TT := TT_of 779 (by decide +kernel) (by decide +kernel)
theorem tq_780 : (Jvm.Cond.selects "ThumpEarsModel" (⟨"ThumpEarsModel", "type", "(C)I"⟩ : Jvm.MethodName) (⟨"ThumpEarsModel", "type", "(C)I"⟩ : Jvm.MethodName)) ∈ TT := TT_of 780 (by decide +kernel) (by decide +kernel)
theorem tq_781 : (Jvm.Cond.code (⟨"ThumpEarsModel", "type", "(C)I"⟩ : Jvm.MethodName) prog_9_method_31_code 2 (Option.some Jvm.ClassFile.FieldType.int)) ∈ TT := TT_of 781 (by decide +kernel) (by decide +kernel)
theorem tq_782 : (Jvm.Cond.methodLink "ThumpEarsLaw" 58 (⟨"ThumpEarsModel", "clearText", "()I"⟩ : Jvm.MethodName)) ∈ TT := TT_of 782 (by decide +kernel) (by decide +kernel)
theorem tq_783 : (Jvm.Cond.instanceMethod (⟨"ThumpEarsModel", "clearText", "()I"⟩ : Jvm.MethodName)) ∈ TT := TT_of 783 (by decide +kernel) (by decide +kernel)
theorem tq_784 : (Jvm.Cond.selects "ThumpEarsModel" (⟨"ThumpEarsModel", "clearText", "()I"⟩ : Jvm.MethodName) (⟨"ThumpEarsModel", "clearText", "()I"⟩ : Jvm.MethodName)) ∈ TT := TT_of 784 (by decide +kernel) (by decide +kernel)
theorem tq_785 : (Jvm.Cond.code (⟨"ThumpEarsModel", "clearText", "()I"⟩ : Jvm.MethodName) prog_9_method_32_code 2 (Option.some Jvm.ClassFile.FieldType.int)) ∈ TT := TT_of 785 (by decide +kernel) (by decide +kernel)
theorem tq_786 : (Jvm.Cond.methodLink "ThumpEarsLaw" 49 (⟨"ThumpEarsModel", "readOrders", "()I"⟩ : Jvm.MethodName)) ∈ TT := TT_of 786 (by decide +kernel) (by decide +kernel)
theorem tq_787 : (Jvm.Cond.instanceMethod (⟨"ThumpEarsModel", "readOrders", "()I"⟩ : Jvm.MethodName)) ∈ TT := TT_of 787 (by decide +kernel) (by decide +kernel)
theorem tq_788 : (Jvm.Cond.selects "ThumpEarsModel" (⟨"ThumpEarsModel", "readOrders", "()I"⟩ : Jvm.MethodName) (⟨"ThumpEarsModel", "readOrders", "()I"⟩ : Jvm.MethodName)) ∈ TT := TT_of 788 (by decide +kernel) (by decide +kernel)
theorem tq_789 : (Jvm.Cond.code (⟨"ThumpEarsModel", "readOrders", "()I"⟩ : Jvm.MethodName) prog_9_method_38_code 2 (Option.some Jvm.ClassFile.FieldType.int)) ∈ TT := TT_of 789 (by decide +kernel) (by decide +kernel)
theorem tq_790 : (Jvm.Cond.methodLink "ThumpEarsModel" 133 (⟨"ThumpEarsModel", "orders", "(Z)I"⟩ : Jvm.MethodName)) ∈ TT := TT_of 790 (by decide +kernel) (by decide +kernel)
theorem tq_792 : (Jvm.Cond.instanceMethod (⟨"ThumpEarsModel", "orders", "(Z)I"⟩ : Jvm.MethodName)) ∈ TT := TT_of 792 (by decide +kernel) (by decide +kernel)
theorem tq_793 : (Jvm.Cond.code (⟨"ThumpEarsModel", "orders", "(Z)I"⟩ : Jvm.MethodName) prog_9_method_37_code 4 (Option.some Jvm.ClassFile.FieldType.int)) ∈ TT := TT_of 793 (by decide +kernel) (by decide +kernel)
theorem tq_794 : (Jvm.Cond.methodLink "ThumpEarsModel" 129 (⟨"ThumpEarsModel", "order", "(Z)Z"⟩ : Jvm.MethodName)) ∈ TT := TT_of 794 (by decide +kernel) (by decide +kernel)
theorem tq_796 : (Jvm.Cond.instanceMethod (⟨"ThumpEarsModel", "order", "(Z)Z"⟩ : Jvm.MethodName)) ∈ TT := TT_of 796 (by decide +kernel) (by decide +kernel)
theorem tq_797 : (Jvm.Cond.code (⟨"ThumpEarsModel", "order", "(Z)Z"⟩ : Jvm.MethodName) prog_9_method_36_code 6 (Option.some Jvm.ClassFile.FieldType.boolean)) ∈ TT := TT_of 797 (by decide +kernel) (by decide +kernel)
theorem tq_798 : (Jvm.Cond.methodLink "ThumpEarsModel" 115 (⟨"ThumpEarsModel", "sees", "(CC)Z"⟩ : Jvm.MethodName)) ∈ TT := TT_of 798 (by decide +kernel) (by decide +kernel)
theorem tq_800 : (Jvm.Cond.instanceMethod (⟨"ThumpEarsModel", "sees", "(CC)Z"⟩ : Jvm.MethodName)) ∈ TT := TT_of 800 (by decide +kernel) (by decide +kernel)
theorem tq_801 : (Jvm.Cond.code (⟨"ThumpEarsModel", "sees", "(CC)Z"⟩ : Jvm.MethodName) prog_9_method_33_code 3 (Option.some Jvm.ClassFile.FieldType.boolean)) ∈ TT := TT_of 801 (by decide +kernel) (by decide +kernel)
theorem tq_802 : (Jvm.Cond.methodLink "ThumpEarsModel" 119 (⟨"ThumpEarsModel", "number", "()I"⟩ : Jvm.MethodName)) ∈ TT := TT_of 802 (by decide +kernel) (by decide +kernel)
theorem tq_804 : (Jvm.Cond.instanceMethod (⟨"ThumpEarsModel", "number", "()I"⟩ : Jvm.MethodName)) ∈ TT := TT_of 804 (by decide +kernel) (by decide +kernel)
theorem tq_805 : (Jvm.Cond.code (⟨"ThumpEarsModel", "number", "()I"⟩ : Jvm.MethodName) prog_9_method_34_code 3 (Option.some Jvm.ClassFile.FieldType.int)) ∈ TT := TT_of 805 (by decide +kernel) (by decide +kernel)
theorem tq_806 : (Jvm.Cond.methodLink "ThumpEarsModel" 122 (⟨"ThumpEarsModel", "takes", "(C)Z"⟩ : Jvm.MethodName)) ∈ TT := TT_of 806 (by decide +kernel) (by decide +kernel)
theorem tq_808 : (Jvm.Cond.instanceMethod (⟨"ThumpEarsModel", "takes", "(C)Z"⟩ : Jvm.MethodName)) ∈ TT := TT_of 808 (by decide +kernel) (by decide +kernel)
theorem tq_809 : (Jvm.Cond.code (⟨"ThumpEarsModel", "takes", "(C)Z"⟩ : Jvm.MethodName) prog_9_method_35_code 3 (Option.some Jvm.ClassFile.FieldType.boolean)) ∈ TT := TT_of 809 (by decide +kernel) (by decide +kernel)
theorem tq_810 : (Jvm.Cond.methodLink "ThumpEarsModel" 137 (⟨"ThumpEarsModel", "goBack", "()V"⟩ : Jvm.MethodName)) ∈ TT := TT_of 810 (by decide +kernel) (by decide +kernel)
theorem tq_812 : (Jvm.Cond.instanceMethod (⟨"ThumpEarsModel", "goBack", "()V"⟩ : Jvm.MethodName)) ∈ TT := TT_of 812 (by decide +kernel) (by decide +kernel)
theorem tq_813 : (Jvm.Cond.code (⟨"ThumpEarsModel", "goBack", "()V"⟩ : Jvm.MethodName) prog_9_method_7_code 2 (Option.none : Option Jvm.ClassFile.FieldType)) ∈ TT := TT_of 813 (by decide +kernel) (by decide +kernel)
theorem tq_814 : (Jvm.Cond.methodLink "ThumpEarsLaw" 74 (⟨"ThumpEarsModel", "ear", "(II)I"⟩ : Jvm.MethodName)) ∈ TT := TT_of 814 (by decide +kernel) (by decide +kernel)
theorem tq_815 : (Jvm.Cond.instanceMethod (⟨"ThumpEarsModel", "ear", "(II)I"⟩ : Jvm.MethodName)) ∈ TT := TT_of 815 (by decide +kernel) (by decide +kernel)
theorem tq_816 : (Jvm.Cond.selects "ThumpEarsModel" (⟨"ThumpEarsModel", "ear", "(II)I"⟩ : Jvm.MethodName) (⟨"ThumpEarsModel", "ear", "(II)I"⟩ : Jvm.MethodName)) ∈ TT := TT_of 816 (by decide +kernel) (by decide +kernel)
theorem tq_817 : (Jvm.Cond.code (⟨"ThumpEarsModel", "ear", "(II)I"⟩ : Jvm.MethodName) prog_9_method_43_code 3 (Option.some Jvm.ClassFile.FieldType.int)) ∈ TT := TT_of 817 (by decide +kernel) (by decide +kernel)
theorem tq_818 : (Jvm.Cond.methodLink "ThumpEarsModel" 146 (⟨"ThumpEarsModel", "findMarks", "(I)V"⟩ : Jvm.MethodName)) ∈ TT := TT_of 818 (by decide +kernel) (by decide +kernel)
theorem tq_820 : (Jvm.Cond.instanceMethod (⟨"ThumpEarsModel", "findMarks", "(I)V"⟩ : Jvm.MethodName)) ∈ TT := TT_of 820 (by decide +kernel) (by decide +kernel)
theorem tq_821 : (Jvm.Cond.code (⟨"ThumpEarsModel", "findMarks", "(I)V"⟩ : Jvm.MethodName) prog_9_method_39_code 4 (Option.none : Option Jvm.ClassFile.FieldType)) ∈ TT := TT_of 821 (by decide +kernel) (by decide +kernel)
theorem tq_822 : (Jvm.Cond.methodLink "ThumpEarsModel" 143 (⟨"ThumpEarsModel", "heardOf", "(III)I"⟩ : Jvm.MethodName)) ∈ TT := TT_of 822 (by decide +kernel) (by decide +kernel)
theorem tq_824 : (Jvm.Cond.instanceMethod (⟨"ThumpEarsModel", "heardOf", "(III)I"⟩ : Jvm.MethodName)) ∈ TT := TT_of 824 (by decide +kernel) (by decide +kernel)
theorem tq_825 : (Jvm.Cond.code (⟨"ThumpEarsModel", "heardOf", "(III)I"⟩ : Jvm.MethodName) prog_9_method_22_code 4 (Option.some Jvm.ClassFile.FieldType.int)) ∈ TT := TT_of 825 (by decide +kernel) (by decide +kernel)
theorem tq_826 : (Jvm.Cond.methodLink "ThumpEarsModel" 156 (⟨"ThumpEarsModel", "knocksHeard", "(I)I"⟩ : Jvm.MethodName)) ∈ TT := TT_of 826 (by decide +kernel) (by decide +kernel)
theorem tq_828 : (Jvm.Cond.instanceMethod (⟨"ThumpEarsModel", "knocksHeard", "(I)I"⟩ : Jvm.MethodName)) ∈ TT := TT_of 828 (by decide +kernel) (by decide +kernel)
theorem tq_829 : (Jvm.Cond.code (⟨"ThumpEarsModel", "knocksHeard", "(I)I"⟩ : Jvm.MethodName) prog_9_method_42_code 4 (Option.some Jvm.ClassFile.FieldType.int)) ∈ TT := TT_of 829 (by decide +kernel) (by decide +kernel)
theorem tq_830 : (Jvm.Cond.methodLink "ThumpEarsLaw" 78 (⟨"ThumpEarsModel", "clock", "(II)I"⟩ : Jvm.MethodName)) ∈ TT := TT_of 830 (by decide +kernel) (by decide +kernel)
theorem tq_831 : (Jvm.Cond.instanceMethod (⟨"ThumpEarsModel", "clock", "(II)I"⟩ : Jvm.MethodName)) ∈ TT := TT_of 831 (by decide +kernel) (by decide +kernel)
theorem tq_832 : (Jvm.Cond.selects "ThumpEarsModel" (⟨"ThumpEarsModel", "clock", "(II)I"⟩ : Jvm.MethodName) (⟨"ThumpEarsModel", "clock", "(II)I"⟩ : Jvm.MethodName)) ∈ TT := TT_of 832 (by decide +kernel) (by decide +kernel)
theorem tq_833 : (Jvm.Cond.code (⟨"ThumpEarsModel", "clock", "(II)I"⟩ : Jvm.MethodName) prog_9_method_44_code 3 (Option.some Jvm.ClassFile.FieldType.int)) ∈ TT := TT_of 833 (by decide +kernel) (by decide +kernel)
theorem tq_834 : (Jvm.Cond.constant "ThumpEarsModel" 160 (200000 : Int32)) ∈ TT := TT_of 834 (by decide +kernel) (by decide +kernel)
theorem tq_835 : (Jvm.Cond.methodLink "ThumpEarsLaw" 82 (⟨"ThumpEarsModel", "mark", "(III)I"⟩ : Jvm.MethodName)) ∈ TT := TT_of 835 (by decide +kernel) (by decide +kernel)
theorem tq_836 : (Jvm.Cond.instanceMethod (⟨"ThumpEarsModel", "mark", "(III)I"⟩ : Jvm.MethodName)) ∈ TT := TT_of 836 (by decide +kernel) (by decide +kernel)
theorem tq_837 : (Jvm.Cond.selects "ThumpEarsModel" (⟨"ThumpEarsModel", "mark", "(III)I"⟩ : Jvm.MethodName) (⟨"ThumpEarsModel", "mark", "(III)I"⟩ : Jvm.MethodName)) ∈ TT := TT_of 837 (by decide +kernel) (by decide +kernel)
theorem tq_838 : (Jvm.Cond.code (⟨"ThumpEarsModel", "mark", "(III)I"⟩ : Jvm.MethodName) prog_9_method_45_code 4 (Option.some Jvm.ClassFile.FieldType.int)) ∈ TT := TT_of 838 (by decide +kernel) (by decide +kernel)
theorem tq_839 : (Jvm.Cond.methodLink "ThumpEarsLaw" 87 (⟨"ThumpEarsModel", "error", "(II)J"⟩ : Jvm.MethodName)) ∈ TT := TT_of 839 (by decide +kernel) (by decide +kernel)
theorem tq_840 : (Jvm.Cond.instanceMethod (⟨"ThumpEarsModel", "error", "(II)J"⟩ : Jvm.MethodName)) ∈ TT := TT_of 840 (by decide +kernel) (by decide +kernel)
theorem tq_841 : (Jvm.Cond.selects "ThumpEarsModel" (⟨"ThumpEarsModel", "error", "(II)J"⟩ : Jvm.MethodName) (⟨"ThumpEarsModel", "error", "(II)J"⟩ : Jvm.MethodName)) ∈ TT := TT_of 841 (by decide +kernel) (by decide +kernel)
theorem tq_842 : (Jvm.Cond.code (⟨"ThumpEarsModel", "error", "(II)J"⟩ : Jvm.MethodName) prog_9_method_46_code 3 (Option.some Jvm.ClassFile.FieldType.long)) ∈ TT := TT_of 842 (by decide +kernel) (by decide +kernel)
theorem tq_843 : (Jvm.Cond.methodLink "ThumpEarsModel" 161 (⟨"ThumpEarsModel", "toldAs", "(I)J"⟩ : Jvm.MethodName)) ∈ TT := TT_of 843 (by decide +kernel) (by decide +kernel)
theorem tq_844 : (Jvm.Cond.static (⟨"ThumpEarsModel", "toldAs", "(I)J"⟩ : Jvm.MethodName)) ∈ TT := TT_of 844 (by decide +kernel) (by decide +kernel)
theorem tq_845 : (Jvm.Cond.code (⟨"ThumpEarsModel", "toldAs", "(I)J"⟩ : Jvm.MethodName) prog_9_method_5_code 1 (Option.some Jvm.ClassFile.FieldType.long)) ∈ TT := TT_of 845 (by decide +kernel) (by decide +kernel)
theorem tq_846 : (Jvm.Cond.constantLong "ThumpEarsModel" 40 (-9223372036854775808 : Int64)) ∈ TT := TT_of 846 (by decide +kernel) (by decide +kernel)
theorem tq_847 : (Jvm.Cond.constant "ThumpEarsModel" 165 (300000 : Int32)) ∈ TT := TT_of 847 (by decide +kernel) (by decide +kernel)
theorem tq_848 : (Jvm.Cond.methodLink "ThumpEarsModel" 152 (⟨"ThumpEarsModel", "errorAt", "(II)J"⟩ : Jvm.MethodName)) ∈ TT := TT_of 848 (by decide +kernel) (by decide +kernel)
theorem tq_850 : (Jvm.Cond.instanceMethod (⟨"ThumpEarsModel", "errorAt", "(II)J"⟩ : Jvm.MethodName)) ∈ TT := TT_of 850 (by decide +kernel) (by decide +kernel)
theorem tq_851 : (Jvm.Cond.code (⟨"ThumpEarsModel", "errorAt", "(II)J"⟩ : Jvm.MethodName) prog_9_method_40_code 6 (Option.some Jvm.ClassFile.FieldType.long)) ∈ TT := TT_of 851 (by decide +kernel) (by decide +kernel)
theorem tq_852 : (Jvm.Cond.constantLong "ThumpEarsModel" 150 (1000 : Int64)) ∈ TT := TT_of 852 (by decide +kernel) (by decide +kernel)
theorem tq_853 : (Jvm.Cond.methodLink "ThumpEarsLaw" 91 (⟨"ThumpEarsModel", "stalest", "()I"⟩ : Jvm.MethodName)) ∈ TT := TT_of 853 (by decide +kernel) (by decide +kernel)
theorem tq_854 : (Jvm.Cond.instanceMethod (⟨"ThumpEarsModel", "stalest", "()I"⟩ : Jvm.MethodName)) ∈ TT := TT_of 854 (by decide +kernel) (by decide +kernel)
theorem tq_855 : (Jvm.Cond.selects "ThumpEarsModel" (⟨"ThumpEarsModel", "stalest", "()I"⟩ : Jvm.MethodName) (⟨"ThumpEarsModel", "stalest", "()I"⟩ : Jvm.MethodName)) ∈ TT := TT_of 855 (by decide +kernel) (by decide +kernel)
theorem tq_856 : (Jvm.Cond.code (⟨"ThumpEarsModel", "stalest", "()I"⟩ : Jvm.MethodName) prog_9_method_47_code 5 (Option.some Jvm.ClassFile.FieldType.int)) ∈ TT := TT_of 856 (by decide +kernel) (by decide +kernel)
theorem tq_857 : (Jvm.Cond.methodLink "ThumpEarsLaw" 96 (⟨"ThumpEarsModel", "heard", "(ZII)I"⟩ : Jvm.MethodName)) ∈ TT := TT_of 857 (by decide +kernel) (by decide +kernel)
theorem tq_858 : (Jvm.Cond.instanceMethod (⟨"ThumpEarsModel", "heard", "(ZII)I"⟩ : Jvm.MethodName)) ∈ TT := TT_of 858 (by decide +kernel) (by decide +kernel)
theorem tq_859 : (Jvm.Cond.selects "ThumpEarsModel" (⟨"ThumpEarsModel", "heard", "(ZII)I"⟩ : Jvm.MethodName) (⟨"ThumpEarsModel", "heard", "(ZII)I"⟩ : Jvm.MethodName)) ∈ TT := TT_of 859 (by decide +kernel) (by decide +kernel)
theorem tq_860 : (Jvm.Cond.code (⟨"ThumpEarsModel", "heard", "(ZII)I"⟩ : Jvm.MethodName) prog_9_method_48_code 6 (Option.some Jvm.ClassFile.FieldType.int)) ∈ TT := TT_of 860 (by decide +kernel) (by decide +kernel)
theorem tq_861 : (Jvm.Cond.methodLink "ThumpEarsLaw" 100 (⟨"ThumpEarsModel", "putRight", "(II)J"⟩ : Jvm.MethodName)) ∈ TT := TT_of 861 (by decide +kernel) (by decide +kernel)
theorem tq_862 : (Jvm.Cond.instanceMethod (⟨"ThumpEarsModel", "putRight", "(II)J"⟩ : Jvm.MethodName)) ∈ TT := TT_of 862 (by decide +kernel) (by decide +kernel)
theorem tq_863 : (Jvm.Cond.selects "ThumpEarsModel" (⟨"ThumpEarsModel", "putRight", "(II)J"⟩ : Jvm.MethodName) (⟨"ThumpEarsModel", "putRight", "(II)J"⟩ : Jvm.MethodName)) ∈ TT := TT_of 863 (by decide +kernel) (by decide +kernel)
theorem tq_864 : (Jvm.Cond.code (⟨"ThumpEarsModel", "putRight", "(II)J"⟩ : Jvm.MethodName) prog_9_method_49_code 3 (Option.some Jvm.ClassFile.FieldType.long)) ∈ TT := TT_of 864 (by decide +kernel) (by decide +kernel)
theorem tq_865 : (Jvm.Cond.methodLink "ThumpEarsModel" 166 (⟨"ThumpEarsModel", "rightOf", "(II)J"⟩ : Jvm.MethodName)) ∈ TT := TT_of 865 (by decide +kernel) (by decide +kernel)
theorem tq_867 : (Jvm.Cond.instanceMethod (⟨"ThumpEarsModel", "rightOf", "(II)J"⟩ : Jvm.MethodName)) ∈ TT := TT_of 867 (by decide +kernel) (by decide +kernel)
theorem tq_868 : (Jvm.Cond.code (⟨"ThumpEarsModel", "rightOf", "(II)J"⟩ : Jvm.MethodName) prog_9_method_41_code 4 (Option.some Jvm.ClassFile.FieldType.long)) ∈ TT := TT_of 868 (by decide +kernel) (by decide +kernel)
theorem tq_869 : (Jvm.Cond.methodLink "ThumpEarsLaw" 104 (⟨"ThumpEarsModel", "found", "(II)J"⟩ : Jvm.MethodName)) ∈ TT := TT_of 869 (by decide +kernel) (by decide +kernel)
theorem tq_870 : (Jvm.Cond.instanceMethod (⟨"ThumpEarsModel", "found", "(II)J"⟩ : Jvm.MethodName)) ∈ TT := TT_of 870 (by decide +kernel) (by decide +kernel)
theorem tq_871 : (Jvm.Cond.selects "ThumpEarsModel" (⟨"ThumpEarsModel", "found", "(II)J"⟩ : Jvm.MethodName) (⟨"ThumpEarsModel", "found", "(II)J"⟩ : Jvm.MethodName)) ∈ TT := TT_of 871 (by decide +kernel) (by decide +kernel)
theorem tq_872 : (Jvm.Cond.code (⟨"ThumpEarsModel", "found", "(II)J"⟩ : Jvm.MethodName) prog_9_method_56_code 9 (Option.some Jvm.ClassFile.FieldType.long)) ∈ TT := TT_of 872 (by decide +kernel) (by decide +kernel)
theorem tq_873 : (Jvm.Cond.methodLink "ThumpEarsModel" 188 (⟨"ThumpEarsModel", "hearers", "(I)I"⟩ : Jvm.MethodName)) ∈ TT := TT_of 873 (by decide +kernel) (by decide +kernel)
theorem tq_875 : (Jvm.Cond.instanceMethod (⟨"ThumpEarsModel", "hearers", "(I)I"⟩ : Jvm.MethodName)) ∈ TT := TT_of 875 (by decide +kernel) (by decide +kernel)
theorem tq_876 : (Jvm.Cond.code (⟨"ThumpEarsModel", "hearers", "(I)I"⟩ : Jvm.MethodName) prog_9_method_50_code 4 (Option.some Jvm.ClassFile.FieldType.int)) ∈ TT := TT_of 876 (by decide +kernel) (by decide +kernel)
theorem tq_877 : (Jvm.Cond.methodLink "ThumpEarsModel" 191 (⟨"ThumpEarsModel", "placeOf", "(I)I"⟩ : Jvm.MethodName)) ∈ TT := TT_of 877 (by decide +kernel) (by decide +kernel)
theorem tq_879 : (Jvm.Cond.instanceMethod (⟨"ThumpEarsModel", "placeOf", "(I)I"⟩ : Jvm.MethodName)) ∈ TT := TT_of 879 (by decide +kernel) (by decide +kernel)
theorem tq_880 : (Jvm.Cond.code (⟨"ThumpEarsModel", "placeOf", "(I)I"⟩ : Jvm.MethodName) prog_9_method_54_code 8 (Option.some Jvm.ClassFile.FieldType.int)) ∈ TT := TT_of 880 (by decide +kernel) (by decide +kernel)
theorem tq_881 : (Jvm.Cond.methodLink "ThumpEarsModel" 180 (⟨"ThumpEarsModel", "findRight", "(I)V"⟩ : Jvm.MethodName)) ∈ TT := TT_of 881 (by decide +kernel) (by decide +kernel)
theorem tq_883 : (Jvm.Cond.instanceMethod (⟨"ThumpEarsModel", "findRight", "(I)V"⟩ : Jvm.MethodName)) ∈ TT := TT_of 883 (by decide +kernel) (by decide +kernel)
theorem tq_884 : (Jvm.Cond.code (⟨"ThumpEarsModel", "findRight", "(I)V"⟩ : Jvm.MethodName) prog_9_method_51_code 3 (Option.none : Option Jvm.ClassFile.FieldType)) ∈ TT := TT_of 884 (by decide +kernel) (by decide +kernel)
theorem tq_885 : (Jvm.Cond.methodLink "ThumpEarsModel" 183 (⟨"ThumpEarsModel", "spreadAt", "(II)J"⟩ : Jvm.MethodName)) ∈ TT := TT_of 885 (by decide +kernel) (by decide +kernel)
theorem tq_887 : (Jvm.Cond.instanceMethod (⟨"ThumpEarsModel", "spreadAt", "(II)J"⟩ : Jvm.MethodName)) ∈ TT := TT_of 887 (by decide +kernel) (by decide +kernel)
theorem tq_888 : (Jvm.Cond.code (⟨"ThumpEarsModel", "spreadAt", "(II)J"⟩ : Jvm.MethodName) prog_9_method_53_code 7 (Option.some Jvm.ClassFile.FieldType.long)) ∈ TT := TT_of 888 (by decide +kernel) (by decide +kernel)
theorem tq_889 : (Jvm.Cond.methodLink "ThumpEarsModel" 169 (⟨"ThumpEarsModel", "beginning", "(III)J"⟩ : Jvm.MethodName)) ∈ TT := TT_of 889 (by decide +kernel) (by decide +kernel)
theorem tq_891 : (Jvm.Cond.instanceMethod (⟨"ThumpEarsModel", "beginning", "(III)J"⟩ : Jvm.MethodName)) ∈ TT := TT_of 891 (by decide +kernel) (by decide +kernel)
theorem tq_892 : (Jvm.Cond.code (⟨"ThumpEarsModel", "beginning", "(III)J"⟩ : Jvm.MethodName) prog_9_method_52_code 4 (Option.some Jvm.ClassFile.FieldType.long)) ∈ TT := TT_of 892 (by decide +kernel) (by decide +kernel)
theorem tq_893 : (Jvm.Cond.constantLong "ThumpEarsModel" 194 (2 : Int64)) ∈ TT := TT_of 893 (by decide +kernel) (by decide +kernel)
theorem tq_894 : (Jvm.Cond.methodLink "ThumpEarsModel" 196 (⟨"ThumpEarsModel", "worst", "(IIJ)I"⟩ : Jvm.MethodName)) ∈ TT := TT_of 894 (by decide +kernel) (by decide +kernel)
theorem tq_896 : (Jvm.Cond.instanceMethod (⟨"ThumpEarsModel", "worst", "(IIJ)I"⟩ : Jvm.MethodName)) ∈ TT := TT_of 896 (by decide +kernel) (by decide +kernel)
theorem tq_897 : (Jvm.Cond.code (⟨"ThumpEarsModel", "worst", "(IIJ)I"⟩ : Jvm.MethodName) prog_9_method_55_code 11 (Option.some Jvm.ClassFile.FieldType.int)) ∈ TT := TT_of 897 (by decide +kernel) (by decide +kernel)
theorem tq_898 : (Jvm.Cond.constantLong "ThumpEarsModel" 186 (-1 : Int64)) ∈ TT := TT_of 898 (by decide +kernel) (by decide +kernel)
theorem tq_899 : (Jvm.Cond.methodLink "ThumpEarsLaw" 108 (⟨"ThumpEarsModel", "spread", "(II)J"⟩ : Jvm.MethodName)) ∈ TT := TT_of 899 (by decide +kernel) (by decide +kernel)
theorem tq_900 : (Jvm.Cond.instanceMethod (⟨"ThumpEarsModel", "spread", "(II)J"⟩ : Jvm.MethodName)) ∈ TT := TT_of 900 (by decide +kernel) (by decide +kernel)
theorem tq_901 : (Jvm.Cond.selects "ThumpEarsModel" (⟨"ThumpEarsModel", "spread", "(II)J"⟩ : Jvm.MethodName) (⟨"ThumpEarsModel", "spread", "(II)J"⟩ : Jvm.MethodName)) ∈ TT := TT_of 901 (by decide +kernel) (by decide +kernel)
theorem tq_902 : (Jvm.Cond.code (⟨"ThumpEarsModel", "spread", "(II)J"⟩ : Jvm.MethodName) prog_9_method_57_code 3 (Option.some Jvm.ClassFile.FieldType.long)) ∈ TT := TT_of 902 (by decide +kernel) (by decide +kernel)
theorem tq_903 : (Jvm.Cond.methodLink "ThumpEarsLaw" 112 (⟨"ThumpEarsModel", "truth", "(II)I"⟩ : Jvm.MethodName)) ∈ TT := TT_of 903 (by decide +kernel) (by decide +kernel)
theorem tq_904 : (Jvm.Cond.instanceMethod (⟨"ThumpEarsModel", "truth", "(II)I"⟩ : Jvm.MethodName)) ∈ TT := TT_of 904 (by decide +kernel) (by decide +kernel)
theorem tq_905 : (Jvm.Cond.selects "ThumpEarsModel" (⟨"ThumpEarsModel", "truth", "(II)I"⟩ : Jvm.MethodName) (⟨"ThumpEarsModel", "truth", "(II)I"⟩ : Jvm.MethodName)) ∈ TT := TT_of 905 (by decide +kernel) (by decide +kernel)
theorem tq_906 : (Jvm.Cond.code (⟨"ThumpEarsModel", "truth", "(II)I"⟩ : Jvm.MethodName) prog_9_method_58_code 3 (Option.some Jvm.ClassFile.FieldType.int)) ∈ TT := TT_of 906 (by decide +kernel) (by decide +kernel)
theorem tq_907 : (Jvm.Cond.methodLink "ThumpEarsLaw" 116 (⟨"ThumpEarsModel", "count", "(I)I"⟩ : Jvm.MethodName)) ∈ TT := TT_of 907 (by decide +kernel) (by decide +kernel)
theorem tq_908 : (Jvm.Cond.instanceMethod (⟨"ThumpEarsModel", "count", "(I)I"⟩ : Jvm.MethodName)) ∈ TT := TT_of 908 (by decide +kernel) (by decide +kernel)
theorem tq_909 : (Jvm.Cond.selects "ThumpEarsModel" (⟨"ThumpEarsModel", "count", "(I)I"⟩ : Jvm.MethodName) (⟨"ThumpEarsModel", "count", "(I)I"⟩ : Jvm.MethodName)) ∈ TT := TT_of 909 (by decide +kernel) (by decide +kernel)
theorem tq_910 : (Jvm.Cond.code (⟨"ThumpEarsModel", "count", "(I)I"⟩ : Jvm.MethodName) prog_9_method_60_code 2 (Option.some Jvm.ClassFile.FieldType.int)) ∈ TT := TT_of 910 (by decide +kernel) (by decide +kernel)
theorem tq_911 : (Jvm.Cond.methodLink "ThumpEarsModel" 203 (⟨"ThumpEarsModel", "fitting", "()I"⟩ : Jvm.MethodName)) ∈ TT := TT_of 911 (by decide +kernel) (by decide +kernel)
theorem tq_913 : (Jvm.Cond.instanceMethod (⟨"ThumpEarsModel", "fitting", "()I"⟩ : Jvm.MethodName)) ∈ TT := TT_of 913 (by decide +kernel) (by decide +kernel)
theorem tq_914 : (Jvm.Cond.code (⟨"ThumpEarsModel", "fitting", "()I"⟩ : Jvm.MethodName) prog_9_method_59_code 3 (Option.some Jvm.ClassFile.FieldType.int)) ∈ TT := TT_of 914 (by decide +kernel) (by decide +kernel)
theorem tq_915 : (Jvm.Cond.methodLink "ThumpEarsModel" 200 (⟨"ThumpEarsModel", "found", "(II)J"⟩ : Jvm.MethodName)) ∈ TT := TT_of 915 (by decide +kernel) (by decide +kernel)
theorem goodIn_r {big : List Cond} (ws : List Cond) (ps : List Nat) (hp : ws = ps.filterMap (fun i => big[i]?)) : ∀ w ∈ ws, w ∈ big := by
  intro w hw
  rw [hp] at hw
  obtain ⟨i, -, hi⟩ := List.mem_filterMap.mp hw
  first | exact List.mem_of_getElem? hi | exact List.getElem?_mem hi
theorem inX0 : ∀ w ∈ wsX00, w ∈ TT := fun w h => List.mem_filter.mpr ⟨goodIn_r wsX00 [168, 170] (by decide +kernel) w h, List.all_eq_true.mp (show wsX00.all goodWord = true by decide +kernel) w h⟩
theorem inX1 : ∀ w ∈ wsX10, w ∈ TT := fun w h => List.mem_filter.mpr ⟨goodIn_r wsX10 [229, 231, 233, 235] (by decide +kernel) w h, List.all_eq_true.mp (show wsX10.all goodWord = true by decide +kernel) w h⟩
theorem inX2 : ∀ w ∈ wsX20, w ∈ TT := fun w h => List.mem_filter.mpr ⟨goodIn_r wsX20 [195, 197, 199, 201, 203, 205, 207, 209, 211] (by decide +kernel) w h, List.all_eq_true.mp (show wsX20.all goodWord = true by decide +kernel) w h⟩
theorem inX3 : ∀ w ∈ wsX30, w ∈ TT := fun w h => List.mem_filter.mpr ⟨goodIn_r wsX30 [93, 95, 97, 99, 101] (by decide +kernel) w h, List.all_eq_true.mp (show wsX30.all goodWord = true by decide +kernel) w h⟩
theorem inX4 : ∀ w ∈ wsX40, w ∈ TT := fun w h => List.mem_filter.mpr ⟨goodIn_r wsX40 [254, 256, 258, 260, 262, 264, 266, 268] (by decide +kernel) w h, List.all_eq_true.mp (show wsX40.all goodWord = true by decide +kernel) w h⟩
theorem inX5 : ∀ w ∈ wsX50, w ∈ TT := fun w h => List.mem_filter.mpr ⟨goodIn_r wsX50 [133, 135, 137, 139, 141, 143, 145, 147, 149, 151, 153] (by decide +kernel) w h, List.all_eq_true.mp (show wsX50.all goodWord = true by decide +kernel) w h⟩
theorem inX6 : ∀ w ∈ wsX60, w ∈ TT := fun w h => List.mem_filter.mpr ⟨goodIn_r wsX60 [279, 281, 283, 285, 287, 289, 291] (by decide +kernel) w h, List.all_eq_true.mp (show wsX60.all goodWord = true by decide +kernel) w h⟩
theorem inX7 : ∀ w ∈ wsX70, w ∈ TT := fun w h => List.mem_filter.mpr ⟨goodIn_r wsX70 [640, 642, 644, 646, 648, 650, 652, 654, 656, 658, 660, 662, 664, 666, 668, 670, 672] (by decide +kernel) w h, List.all_eq_true.mp (show wsX70.all goodWord = true by decide +kernel) w h⟩
def decs (b : ByteArray) (l : List (Nat × Instr × Nat)) : Bool := l.all fun q => decide (decode b q.1 = .ok q.2)
theorem dk {b : ByteArray} {l : List (Nat × Instr × Nat)} (h : decs b l = true) (k : Nat) {pc n : Nat} {i : Instr} (hk : l[k]? = some (pc, i, n)) : decode b pc = .ok (i, n) := by
  have h1 := List.all_eq_true.mp h _ (List.mem_of_getElem? hk)
  exact of_decide_eq_true h1
abbrev lX0_init : List (Nat × Instr × Nat) := [(0, .aload_n 0, 1), (1, .invokespecial 3, 3), (4, .aload_n 0, 1), (5, .iconst 4, 1), (6, .anewarray 9, 3), (9, .putfield 11, 3), (12, .aload_n 0, 1), (13, .iconst 0, 1), (14, .putfield 17, 3), (17, .iconst 0, 1), (18, .istore_n 1, 1), (19, .iload_n 1, 1), (20, .iconst 4, 1), (21, .if_icmp .ge 22, 3), (24, .aload_n 0, 1), (25, .getfield 11, 3), (28, .iload_n 1, 1), (29, .new 9, 3), (32, .dup, 1), (33, .invokespecial 21, 3), (36, .aastore, 1), (37, .iinc 1 1, 3), (40, .goto (-21), 3), (43, .return_, 1)]
theorem dX0_init : decs cX0_init lX0_init = true := by decide +kernel
abbrev lX0_push : List (Nat × Instr × Nat) := [(0, .aload_n 0, 1), (1, .getfield 17, 3), (4, .iconst 4, 1), (5, .if_icmp .lt 7, 3), (8, .aload_n 0, 1), (9, .invokevirtual 22, 3), (12, .aload_n 0, 1), (13, .getfield 11, 3), (16, .aload_n 0, 1), (17, .getfield 17, 3), (20, .aaload, 1), (21, .aload_n 1, 1), (22, .invokevirtual 25, 3), (25, .aload_n 0, 1), (26, .dup, 1), (27, .getfield 17, 3), (30, .iconst 1, 1), (31, .iadd, 1), (32, .putfield 17, 3), (35, .return_, 1)]
theorem dX0_push : decs cX0_push lX0_push = true := by decide +kernel
abbrev lX0_dropOldest : List (Nat × Instr × Nat) := [(0, .aload_n 0, 1), (1, .getfield 11, 3), (4, .iconst 0, 1), (5, .aaload, 1), (6, .astore_n 1, 1), (7, .iconst 1, 1), (8, .istore_n 2, 1), (9, .iload_n 2, 1), (10, .iconst 4, 1), (11, .if_icmp .ge 23, 3), (14, .aload_n 0, 1), (15, .getfield 11, 3), (18, .iload_n 2, 1), (19, .iconst 1, 1), (20, .isub, 1), (21, .aload_n 0, 1), (22, .getfield 11, 3), (25, .iload_n 2, 1), (26, .aaload, 1), (27, .aastore, 1), (28, .iinc 2 1, 3), (31, .goto (-22), 3), (34, .aload_n 0, 1), (35, .getfield 11, 3), (38, .iconst 3, 1), (39, .aload_n 1, 1), (40, .aastore, 1), (41, .aload_n 0, 1), (42, .iconst 3, 1), (43, .putfield 17, 3), (46, .return_, 1)]
theorem dX0_dropOldest : decs cX0_dropOldest lX0_dropOldest = true := by decide +kernel
abbrev lX0_popInto : List (Nat × Instr × Nat) := [(0, .aload_n 0, 1), (1, .dup, 1), (2, .getfield 17, 3), (5, .iconst 1, 1), (6, .isub, 1), (7, .putfield 17, 3), (10, .aload_n 1, 1), (11, .aload_n 0, 1), (12, .getfield 11, 3), (15, .aload_n 0, 1), (16, .getfield 17, 3), (19, .aaload, 1), (20, .invokevirtual 25, 3), (23, .return_, 1)]
theorem dX0_popInto : decs cX0_popInto lX0_popInto = true := by decide +kernel
abbrev lX1_init : List (Nat × Instr × Nat) := [(0, .aload_n 0, 1), (1, .invokespecial 3, 3), (4, .aload_n 0, 1), (5, .bipush 10, 2), (7, .newarray .int, 2), (9, .putfield 9, 3), (12, .aload_n 0, 1), (13, .bipush 10, 2), (15, .newarray .int, 2), (17, .putfield 15, 3), (20, .aload_n 0, 1), (21, .bipush 10, 2), (23, .newarray .int, 2), (25, .putfield 18, 3), (28, .aload_n 0, 1), (29, .iconst 0, 1), (30, .putfield 21, 3), (33, .return_, 1)]
theorem dX1_init : decs cX1_init lX1_init = true := by decide +kernel
abbrev lX1_gather : List (Nat × Instr × Nat) := [(0, .aload_n 1, 1), (1, .getfield 25, 3), (4, .astore_n 3, 1), (5, .aload_n 0, 1), (6, .iconst 0, 1), (7, .putfield 21, 3), (10, .iconst 0, 1), (11, .istore 4, 2), (13, .iload 4, 2), (15, .aload_n 3, 1), (16, .getfield 30, 3), (19, .if_icmp .ge 122, 3), (22, .aload_n 3, 1), (23, .getfield 33, 3), (26, .iload 4, 2), (28, .aaload, 1), (29, .iload_n 2, 1), (30, .iaload, 1), (31, .istore 5, 2), (33, .iload 5, 2), (35, .ldc 36, 2), (37, .if_icmp .eq 98, 3), (40, .aload_n 1, 1), (41, .getfield 37, 3), (44, .iload 4, 2), (46, .baload, 1), (47, .ifCond .ne 88, 3), (50, .aload_n 0, 1), (51, .iload 5, 2), (53, .invokevirtual 41, 3), (56, .ifCond .eq 79, 3), (59, .aload_n 1, 1), (60, .iload_n 2, 1), (61, .aload_n 3, 1), (62, .getfield 45, 3), (65, .iload 4, 2), (67, .iaload, 1), (68, .invokevirtual 48, 3), (71, .istore 6, 2), (73, .aload_n 0, 1), (74, .getfield 9, 3), (77, .aload_n 0, 1), (78, .getfield 21, 3), (81, .iload 4, 2), (83, .iastore, 1), (84, .aload_n 0, 1), (85, .getfield 15, 3), (88, .aload_n 0, 1), (89, .getfield 21, 3), (92, .iload 5, 2), (94, .iastore, 1), (95, .aload_n 0, 1), (96, .getfield 18, 3), (99, .aload_n 0, 1), (100, .getfield 21, 3), (103, .iload 5, 2), (105, .aload_n 3, 1), (106, .getfield 52, 3), (109, .iload 4, 2), (111, .iaload, 1), (112, .aload_n 3, 1), (113, .getfield 55, 3), (116, .iload 4, 2), (118, .iaload, 1), (119, .iload 6, 2), (121, .imul, 1), (122, .iadd, 1), (123, .isub, 1), (124, .iastore, 1), (125, .aload_n 0, 1), (126, .dup, 1), (127, .getfield 21, 3), (130, .iconst 1, 1), (131, .iadd, 1), (132, .putfield 21, 3), (135, .iinc 4 1, 3), (138, .goto (-125), 3), (141, .return_, 1)]
theorem dX1_gather : decs cX1_gather lX1_gather = true := by decide +kernel
abbrev lX1_isBehindAll : List (Nat × Instr × Nat) := [(0, .aload_n 0, 1), (1, .getfield 21, 3), (4, .ifCond .eq 18, 3), (7, .iload_n 1, 1), (8, .aload_n 0, 1), (9, .getfield 15, 3), (12, .aload_n 0, 1), (13, .getfield 21, 3), (16, .iconst 1, 1), (17, .isub, 1), (18, .iaload, 1), (19, .if_icmp .le 7, 3), (22, .iconst 1, 1), (23, .goto 4, 3), (26, .iconst 0, 1), (27, .ireturn, 1)]
theorem dX1_isBehindAll : decs cX1_isBehindAll lX1_isBehindAll = true := by decide +kernel
abbrev lX1_latestThump : List (Nat × Instr × Nat) := [(0, .aload_n 0, 1), (1, .getfield 21, 3), (4, .ifCond .ne 7, 3), (7, .iconst (-1), 1), (8, .goto 14, 3), (11, .aload_n 0, 1), (12, .getfield 9, 3), (15, .aload_n 0, 1), (16, .getfield 21, 3), (19, .iconst 1, 1), (20, .isub, 1), (21, .iaload, 1), (22, .ireturn, 1)]
theorem dX1_latestThump : decs cX1_latestThump lX1_latestThump = true := by decide +kernel
abbrev lX1_errorAt : List (Nat × Instr × Nat) := [(0, .aload_n 0, 1), (1, .getfield 21, 3), (4, .ifCond .ne 5, 3), (7, .lconst 0, 1), (8, .lreturn, 1), (9, .aload_n 0, 1), (10, .iload_n 1, 1), (11, .invokevirtual 58, 3), (14, .istore_n 2, 1), (15, .iload_n 2, 1), (16, .iconst 1, 1), (17, .iadd, 1), (18, .aload_n 0, 1), (19, .getfield 21, 3), (22, .iconst 1, 1), (23, .isub, 1), (24, .invokestatic 62, 3), (27, .istore_n 3, 1), (28, .ldc2_w 67, 3), (31, .aload_n 0, 1), (32, .getfield 18, 3), (35, .iload_n 2, 1), (36, .iaload, 1), (37, .i2l, 1), (38, .lmul, 1), (39, .lstore 4, 2), (41, .aload_n 0, 1), (42, .getfield 15, 3), (45, .iload_n 3, 1), (46, .iaload, 1), (47, .aload_n 0, 1), (48, .getfield 15, 3), (51, .iload_n 2, 1), (52, .iaload, 1), (53, .isub, 1), (54, .i2l, 1), (55, .lstore 6, 2), (57, .lload 6, 2), (59, .lconst 0, 1), (60, .lcmp, 1), (61, .ifCond .ne 6, 3), (64, .lload 4, 2), (66, .lreturn, 1), (67, .ldc2_w 67, 3), (70, .aload_n 0, 1), (71, .getfield 18, 3), (74, .iload_n 3, 1), (75, .iaload, 1), (76, .aload_n 0, 1), (77, .getfield 18, 3), (80, .iload_n 2, 1), (81, .iaload, 1), (82, .isub, 1), (83, .i2l, 1), (84, .lmul, 1), (85, .lstore 8, 2), (87, .lload 4, 2), (89, .lload 8, 2), (91, .iload_n 1, 1), (92, .aload_n 0, 1), (93, .getfield 15, 3), (96, .iload_n 2, 1), (97, .iaload, 1), (98, .isub, 1), (99, .i2l, 1), (100, .lmul, 1), (101, .lload 6, 2), (103, .invokestatic 69, 3), (106, .ladd, 1), (107, .lreturn, 1)]
theorem dX1_errorAt : decs cX1_errorAt lX1_errorAt = true := by decide +kernel
abbrev lX1_firstOfPair : List (Nat × Instr × Nat) := [(0, .iconst 0, 1), (1, .istore_n 2, 1), (2, .iconst 1, 1), (3, .istore_n 3, 1), (4, .iload_n 3, 1), (5, .aload_n 0, 1), (6, .getfield 21, 3), (9, .iconst 1, 1), (10, .isub, 1), (11, .if_icmp .ge 21, 3), (14, .aload_n 0, 1), (15, .getfield 15, 3), (18, .iload_n 3, 1), (19, .iaload, 1), (20, .iload_n 1, 1), (21, .if_icmp .gt 5, 3), (24, .iload_n 3, 1), (25, .istore_n 2, 1), (26, .iinc 3 1, 3), (29, .goto (-25), 3), (32, .iload_n 2, 1), (33, .ireturn, 1)]
theorem dX1_firstOfPair : decs cX1_firstOfPair lX1_firstOfPair = true := by decide +kernel
abbrev lX1_rightTime : List (Nat × Instr × Nat) := [(0, .ldc2_w 67, 3), (3, .iload_n 1, 1), (4, .i2l, 1), (5, .lmul, 1), (6, .aload_n 0, 1), (7, .iload_n 1, 1), (8, .invokevirtual 73, 3), (11, .lsub, 1), (12, .lreturn, 1)]
theorem dX1_rightTime : decs cX1_rightTime lX1_rightTime = true := by decide +kernel
abbrev lX2_init : List (Nat × Instr × Nat) := [(0, .aload_n 0, 1), (1, .invokespecial 3, 3), (4, .aload_n 0, 1), (5, .bipush 60, 2), (7, .newarray .char, 2), (9, .putfield 9, 3), (12, .aload_n 0, 1), (13, .iconst 0, 1), (14, .putfield 15, 3), (17, .aload_n 0, 1), (18, .bipush 60, 2), (20, .newarray .boolean, 2), (22, .putfield 19, 3), (25, .aload_n 0, 1), (26, .bipush 60, 2), (28, .newarray .int, 2), (30, .putfield 23, 3), (33, .aload_n 0, 1), (34, .bipush 60, 2), (36, .newarray .int, 2), (38, .putfield 27, 3), (41, .aload_n 0, 1), (42, .bipush 60, 2), (44, .newarray .int, 2), (46, .putfield 30, 3), (49, .aload_n 0, 1), (50, .iconst 0, 1), (51, .putfield 33, 3), (54, .aload_n 0, 1), (55, .iconst 0, 1), (56, .putfield 36, 3), (59, .aload_n 0, 1), (60, .iconst 0, 1), (61, .putfield 39, 3), (64, .return_, 1)]
theorem dX2_init : decs cX2_init lX2_init = true := by decide +kernel
abbrev lX2_read : List (Nat × Instr × Nat) := [(0, .iconst 1, 1), (1, .istore_n 1, 1), (2, .aload_n 0, 1), (3, .iconst 0, 1), (4, .putfield 36, 3), (7, .aload_n 0, 1), (8, .iconst 0, 1), (9, .putfield 33, 3), (12, .iload_n 1, 1), (13, .ifCond .eq 44, 3), (16, .aload_n 0, 1), (17, .getfield 33, 3), (20, .bipush 60, 2), (22, .if_icmp .ge 35, 3), (25, .aload_n 0, 1), (26, .invokevirtual 42, 3), (29, .ifCond .ne 8, 3), (32, .aload_n 0, 1), (33, .getfield 36, 3), (36, .ireturn, 1), (37, .aload_n 0, 1), (38, .dup, 1), (39, .getfield 33, 3), (42, .iconst 1, 1), (43, .iadd, 1), (44, .putfield 33, 3), (47, .aload_n 0, 1), (48, .bipush 59, 2), (50, .invokevirtual 46, 3), (53, .istore_n 1, 1), (54, .goto (-42), 3), (57, .aload_n 0, 1), (58, .getfield 36, 3), (61, .aload_n 0, 1), (62, .getfield 15, 3), (65, .if_icmp .ge 10, 3), (68, .aload_n 0, 1), (69, .getfield 36, 3), (72, .goto 4, 3), (75, .iconst (-1), 1), (76, .ireturn, 1)]
theorem dX2_read : decs cX2_read lX2_read = true := by decide +kernel
abbrev lX2_readOrder : List (Nat × Instr × Nat) := [(0, .aload_n 0, 1), (1, .getfield 19, 3), (4, .aload_n 0, 1), (5, .getfield 33, 3), (8, .aload_n 0, 1), (9, .bipush 116, 2), (11, .invokevirtual 46, 3), (14, .bastore, 1), (15, .aload_n 0, 1), (16, .getfield 19, 3), (19, .aload_n 0, 1), (20, .getfield 33, 3), (23, .baload, 1), (24, .ifCond .ne 14, 3), (27, .aload_n 0, 1), (28, .bipush 107, 2), (30, .invokevirtual 46, 3), (33, .ifCond .ne 5, 3), (36, .iconst 0, 1), (37, .ireturn, 1), (38, .aload_n 0, 1), (39, .invokevirtual 50, 3), (42, .ifCond .ne 5, 3), (45, .iconst 0, 1), (46, .ireturn, 1), (47, .aload_n 0, 1), (48, .getfield 23, 3), (51, .aload_n 0, 1), (52, .getfield 33, 3), (55, .aload_n 0, 1), (56, .getfield 39, 3), (59, .iastore, 1), (60, .aload_n 0, 1), (61, .bipush 64, 2), (63, .invokevirtual 46, 3), (66, .ifCond .eq 10, 3), (69, .aload_n 0, 1), (70, .invokevirtual 50, 3), (73, .ifCond .ne 5, 3), (76, .iconst 0, 1), (77, .ireturn, 1), (78, .aload_n 0, 1), (79, .getfield 27, 3), (82, .aload_n 0, 1), (83, .getfield 33, 3), (86, .aload_n 0, 1), (87, .getfield 39, 3), (90, .iastore, 1), (91, .aload_n 0, 1), (92, .sipush 1000, 3), (95, .putfield 39, 3), (98, .aload_n 0, 1), (99, .bipush 42, 2), (101, .invokevirtual 46, 3), (104, .ifCond .eq 12, 3), (107, .aload_n 0, 1), (108, .invokevirtual 50, 3), (111, .ifCond .ne 5, 3), (114, .iconst 0, 1), (115, .ireturn, 1), (116, .aload_n 0, 1), (117, .getfield 30, 3), (120, .aload_n 0, 1), (121, .getfield 33, 3), (124, .aload_n 0, 1), (125, .getfield 39, 3), (128, .iastore, 1), (129, .iconst 1, 1), (130, .ireturn, 1)]
theorem dX2_readOrder : decs cX2_readOrder lX2_readOrder = true := by decide +kernel
abbrev lX2_skips : List (Nat × Instr × Nat) := [(0, .aload_n 0, 1), (1, .getfield 36, 3), (4, .aload_n 0, 1), (5, .getfield 15, 3), (8, .if_icmp .ge 16, 3), (11, .aload_n 0, 1), (12, .getfield 9, 3), (15, .aload_n 0, 1), (16, .getfield 36, 3), (19, .caload, 1), (20, .iload_n 1, 1), (21, .if_icmp .eq 5, 3), (24, .iconst 0, 1), (25, .ireturn, 1), (26, .aload_n 0, 1), (27, .dup, 1), (28, .getfield 36, 3), (31, .iconst 1, 1), (32, .iadd, 1), (33, .putfield 36, 3), (36, .iconst 1, 1), (37, .ireturn, 1)]
theorem dX2_skips : decs cX2_skips lX2_skips = true := by decide +kernel
abbrev lX2_readNumber : List (Nat × Instr × Nat) := [(0, .iconst 0, 1), (1, .istore_n 1, 1), (2, .aload_n 0, 1), (3, .iconst 0, 1), (4, .putfield 39, 3), (7, .iload_n 1, 1), (8, .bipush 6, 2), (10, .if_icmp .ge 61, 3), (13, .aload_n 0, 1), (14, .invokevirtual 53, 3), (17, .ifCond .eq 54, 3), (20, .iload_n 1, 1), (21, .ifCond .eq 10, 3), (24, .aload_n 0, 1), (25, .getfield 39, 3), (28, .ifCond .le 43, 3), (31, .aload_n 0, 1), (32, .bipush 10, 2), (34, .aload_n 0, 1), (35, .getfield 39, 3), (38, .imul, 1), (39, .aload_n 0, 1), (40, .getfield 9, 3), (43, .aload_n 0, 1), (44, .getfield 36, 3), (47, .caload, 1), (48, .bipush 48, 2), (50, .isub, 1), (51, .iadd, 1), (52, .putfield 39, 3), (55, .aload_n 0, 1), (56, .dup, 1), (57, .getfield 36, 3), (60, .iconst 1, 1), (61, .iadd, 1), (62, .putfield 36, 3), (65, .iinc 1 1, 3), (68, .goto (-61), 3), (71, .iload_n 1, 1), (72, .ifCond .le 7, 3), (75, .iconst 1, 1), (76, .goto 4, 3), (79, .iconst 0, 1), (80, .ireturn, 1)]
theorem dX2_readNumber : decs cX2_readNumber lX2_readNumber = true := by decide +kernel
abbrev lX2_isDigit : List (Nat × Instr × Nat) := [(0, .aload_n 0, 1), (1, .getfield 36, 3), (4, .aload_n 0, 1), (5, .getfield 15, 3), (8, .if_icmp .ge 35, 3), (11, .aload_n 0, 1), (12, .getfield 9, 3), (15, .aload_n 0, 1), (16, .getfield 36, 3), (19, .caload, 1), (20, .bipush 48, 2), (22, .if_icmp .lt 21, 3), (25, .aload_n 0, 1), (26, .getfield 9, 3), (29, .aload_n 0, 1), (30, .getfield 36, 3), (33, .caload, 1), (34, .bipush 57, 2), (36, .if_icmp .gt 7, 3), (39, .iconst 1, 1), (40, .goto 4, 3), (43, .iconst 0, 1), (44, .ireturn, 1)]
theorem dX2_isDigit : decs cX2_isDigit lX2_isDigit = true := by decide +kernel
abbrev lX3_init : List (Nat × Instr × Nat) := [(0, .aload_n 0, 1), (1, .invokespecial 3, 3), (4, .aload_n 0, 1), (5, .bipush 10, 2), (7, .newarray .int, 2), (9, .putfield 9, 3), (12, .aload_n 0, 1), (13, .bipush 10, 2), (15, .newarray .int, 2), (17, .putfield 15, 3), (20, .aload_n 0, 1), (21, .bipush 10, 2), (23, .newarray .int, 2), (25, .putfield 18, 3), (28, .aload_n 0, 1), (29, .bipush 10, 2), (31, .bipush 10, 2), (33, .multianewarray 21 2, 4), (37, .putfield 23, 3), (40, .aload_n 0, 1), (41, .iconst 0, 1), (42, .putfield 26, 3), (45, .return_, 1)]
theorem dX3_init : decs cX3_init lX3_init = true := by decide +kernel
abbrev lX3_copyFrom : List (Nat × Instr × Nat) := [(0, .aload_n 1, 1), (1, .getfield 9, 3), (4, .iconst 0, 1), (5, .aload_n 0, 1), (6, .getfield 9, 3), (9, .iconst 0, 1), (10, .bipush 10, 2), (12, .invokestatic 30, 3), (15, .aload_n 1, 1), (16, .getfield 15, 3), (19, .iconst 0, 1), (20, .aload_n 0, 1), (21, .getfield 15, 3), (24, .iconst 0, 1), (25, .bipush 10, 2), (27, .invokestatic 30, 3), (30, .aload_n 1, 1), (31, .getfield 18, 3), (34, .iconst 0, 1), (35, .aload_n 0, 1), (36, .getfield 18, 3), (39, .iconst 0, 1), (40, .bipush 10, 2), (42, .invokestatic 30, 3), (45, .iconst 0, 1), (46, .istore_n 2, 1), (47, .iload_n 2, 1), (48, .bipush 10, 2), (50, .if_icmp .ge 28, 3), (53, .aload_n 1, 1), (54, .getfield 23, 3), (57, .iload_n 2, 1), (58, .aaload, 1), (59, .iconst 0, 1), (60, .aload_n 0, 1), (61, .getfield 23, 3), (64, .iload_n 2, 1), (65, .aaload, 1), (66, .iconst 0, 1), (67, .bipush 10, 2), (69, .invokestatic 30, 3), (72, .iinc 2 1, 3), (75, .goto (-28), 3), (78, .aload_n 0, 1), (79, .aload_n 1, 1), (80, .getfield 26, 3), (83, .putfield 26, 3), (86, .return_, 1)]
theorem dX3_copyFrom : decs cX3_copyFrom lX3_copyFrom = true := by decide +kernel
abbrev lX3_has : List (Nat × Instr × Nat) := [(0, .iload_n 1, 1), (1, .ifCond .lt 15, 3), (4, .iload_n 1, 1), (5, .aload_n 0, 1), (6, .getfield 26, 3), (9, .if_icmp .ge 7, 3), (12, .iconst 1, 1), (13, .goto 4, 3), (16, .iconst 0, 1), (17, .ireturn, 1)]
theorem dX3_has : decs cX3_has lX3_has = true := by decide +kernel
abbrev lX3_heardBy : List (Nat × Instr × Nat) := [(0, .iconst 0, 1), (1, .istore_n 2, 1), (2, .iconst 0, 1), (3, .istore_n 3, 1), (4, .iload_n 3, 1), (5, .aload_n 0, 1), (6, .getfield 26, 3), (9, .if_icmp .ge 25, 3), (12, .aload_n 0, 1), (13, .getfield 23, 3), (16, .iload_n 3, 1), (17, .aaload, 1), (18, .iload_n 1, 1), (19, .iaload, 1), (20, .ldc 36, 2), (22, .if_icmp .eq 6, 3), (25, .iinc 2 1, 3), (28, .iinc 3 1, 3), (31, .goto (-27), 3), (34, .iload_n 2, 1), (35, .ireturn, 1)]
theorem dX3_heardBy : decs cX3_heardBy lX3_heardBy = true := by decide +kernel
abbrev lX4_init : List (Nat × Instr × Nat) := [(0, .aload_n 0, 1), (1, .invokespecial 3, 3), (4, .aload_n 0, 1), (5, .bipush 10, 2), (7, .newarray .int, 2), (9, .putfield 9, 3), (12, .aload_n 0, 1), (13, .bipush 10, 2), (15, .newarray .int, 2), (17, .putfield 15, 3), (20, .aload_n 0, 1), (21, .bipush 10, 2), (23, .newarray .long, 2), (25, .putfield 18, 3), (28, .aload_n 0, 1), (29, .iconst 0, 1), (30, .putfield 22, 3), (33, .aload_n 0, 1), (34, .lconst 0, 1), (35, .putfield 26, 3), (38, .aload_n 0, 1), (39, .iconst 0, 1), (40, .putfield 30, 3), (43, .aload_n 0, 1), (44, .lconst 0, 1), (45, .putfield 33, 3), (48, .aload_n 0, 1), (49, .lconst 0, 1), (50, .putfield 36, 3), (53, .return_, 1)]
theorem dX4_init : decs cX4_init lX4_init = true := by decide +kernel
abbrev lX4_listen : List (Nat × Instr × Nat) := [(0, .aload_n 0, 1), (1, .iconst 0, 1), (2, .putfield 22, 3), (5, .aload_n 0, 1), (6, .ldc2_w 39, 3), (9, .aload_n 1, 1), (10, .getfield 41, 3), (13, .getfield 47, 3), (16, .iload_n 2, 1), (17, .iaload, 1), (18, .i2l, 1), (19, .lmul, 1), (20, .putfield 26, 3), (23, .iconst 0, 1), (24, .istore 4, 2), (26, .iload 4, 2), (28, .aload_n 1, 1), (29, .getfield 52, 3), (32, .if_icmp .ge 89, 3), (35, .aload_n 1, 1), (36, .getfield 41, 3), (39, .getfield 54, 3), (42, .iload_n 2, 1), (43, .aaload, 1), (44, .iload 4, 2), (46, .iaload, 1), (47, .istore 5, 2), (49, .iload 5, 2), (51, .ldc 58, 2), (53, .if_icmp .eq 62, 3), (56, .aload_n 3, 1), (57, .aload_n 1, 1), (58, .iload 4, 2), (60, .invokevirtual 59, 3), (63, .aload_n 0, 1), (64, .getfield 9, 3), (67, .aload_n 0, 1), (68, .getfield 22, 3), (71, .iload 4, 2), (73, .iastore, 1), (74, .aload_n 0, 1), (75, .getfield 15, 3), (78, .aload_n 0, 1), (79, .getfield 22, 3), (82, .aload_n 1, 1), (83, .getfield 65, 3), (86, .iload 4, 2), (88, .iaload, 1), (89, .iastore, 1), (90, .aload_n 0, 1), (91, .getfield 18, 3), (94, .aload_n 0, 1), (95, .getfield 22, 3), (98, .aload_n 3, 1), (99, .iload 5, 2), (101, .invokevirtual 68, 3), (104, .lastore, 1), (105, .aload_n 0, 1), (106, .dup, 1), (107, .getfield 22, 3), (110, .iconst 1, 1), (111, .iadd, 1), (112, .putfield 22, 3), (115, .iinc 4 1, 3), (118, .goto (-92), 3), (121, .return_, 1)]
theorem dX4_listen : decs cX4_listen lX4_listen = true := by decide +kernel
abbrev lX4_beginning : List (Nat × Instr × Nat) := [(0, .aload_n 0, 1), (1, .getfield 18, 3), (4, .iload_n 1, 1), (5, .laload, 1), (6, .aload_n 0, 1), (7, .getfield 26, 3), (10, .aload_n 0, 1), (11, .getfield 30, 3), (14, .aload_n 0, 1), (15, .getfield 15, 3), (18, .iload_n 1, 1), (19, .iaload, 1), (20, .isub, 1), (21, .invokestatic 72, 3), (24, .i2l, 1), (25, .lmul, 1), (26, .lsub, 1), (27, .lreturn, 1)]
theorem dX4_beginning : decs cX4_beginning lX4_beginning = true := by decide +kernel
abbrev lX4_lookFrom : List (Nat × Instr × Nat) := [(0, .aload_n 0, 1), (1, .iload_n 1, 1), (2, .putfield 30, 3), (5, .aload_n 0, 1), (6, .aload_n 0, 1), (7, .iconst 0, 1), (8, .invokevirtual 78, 3), (11, .putfield 33, 3), (14, .aload_n 0, 1), (15, .aload_n 0, 1), (16, .getfield 33, 3), (19, .putfield 36, 3), (22, .iconst 1, 1), (23, .istore_n 2, 1), (24, .iload_n 2, 1), (25, .aload_n 0, 1), (26, .getfield 22, 3), (29, .if_icmp .ge 39, 3), (32, .aload_n 0, 1), (33, .iload_n 2, 1), (34, .invokevirtual 78, 3), (37, .lstore_n 3, 1), (38, .aload_n 0, 1), (39, .aload_n 0, 1), (40, .getfield 33, 3), (43, .lload_n 3, 1), (44, .invokestatic 81, 3), (47, .putfield 33, 3), (50, .aload_n 0, 1), (51, .aload_n 0, 1), (52, .getfield 36, 3), (55, .lload_n 3, 1), (56, .invokestatic 85, 3), (59, .putfield 36, 3), (62, .iinc 2 1, 3), (65, .goto (-41), 3), (68, .return_, 1)]
theorem dX4_lookFrom : decs cX4_lookFrom lX4_lookFrom = true := by decide +kernel
abbrev lX4_locate : List (Nat × Instr × Nat) := [(0, .aload_n 0, 1), (1, .iconst 0, 1), (2, .invokevirtual 88, 3), (5, .iconst 0, 1), (6, .istore_n 1, 1), (7, .aload_n 0, 1), (8, .invokevirtual 92, 3), (11, .lstore_n 2, 1), (12, .iconst 1, 1), (13, .istore 4, 2), (15, .iload 4, 2), (17, .sipush 1000, 3), (20, .if_icmp .gt 32, 3), (23, .aload_n 0, 1), (24, .iload 4, 2), (26, .invokevirtual 88, 3), (29, .aload_n 0, 1), (30, .invokevirtual 92, 3), (33, .lload_n 2, 1), (34, .lcmp, 1), (35, .ifCond .ge 11, 3), (38, .aload_n 0, 1), (39, .invokevirtual 92, 3), (42, .lstore_n 2, 1), (43, .iload 4, 2), (45, .istore_n 1, 1), (46, .iinc 4 1, 3), (49, .goto (-34), 3), (52, .aload_n 0, 1), (53, .iload_n 1, 1), (54, .invokevirtual 88, 3), (57, .return_, 1)]
theorem dX4_locate : decs cX4_locate lX4_locate = true := by decide +kernel
abbrev lX4_width : List (Nat × Instr × Nat) := [(0, .aload_n 0, 1), (1, .getfield 36, 3), (4, .aload_n 0, 1), (5, .getfield 33, 3), (8, .lsub, 1), (9, .lreturn, 1)]
theorem dX4_width : decs cX4_width lX4_width = true := by decide +kernel
abbrev lX4_fits : List (Nat × Instr × Nat) := [(0, .aload_n 0, 1), (1, .invokevirtual 92, 3), (4, .ldc2_w 39, 3), (7, .iload_n 1, 1), (8, .i2l, 1), (9, .lmul, 1), (10, .lcmp, 1), (11, .ifCond .gt 7, 3), (14, .iconst 1, 1), (15, .goto 4, 3), (18, .iconst 0, 1), (19, .ireturn, 1)]
theorem dX4_fits : decs cX4_fits lX4_fits = true := by decide +kernel
abbrev lX4_time : List (Nat × Instr × Nat) := [(0, .aload_n 0, 1), (1, .getfield 36, 3), (4, .aload_n 0, 1), (5, .getfield 33, 3), (8, .ladd, 1), (9, .ldc2_w 96, 3), (12, .invokestatic 98, 3), (15, .lreturn, 1)]
theorem dX4_time : decs cX4_time lX4_time = true := by decide +kernel
abbrev lX4_worstEar : List (Nat × Instr × Nat) := [(0, .iconst 0, 1), (1, .istore_n 1, 1), (2, .aload_n 0, 1), (3, .iconst 0, 1), (4, .invokevirtual 78, 3), (7, .aload_n 0, 1), (8, .invokevirtual 101, 3), (11, .lsub, 1), (12, .invokestatic 104, 3), (15, .lstore_n 2, 1), (16, .iconst 1, 1), (17, .istore 4, 2), (19, .iload 4, 2), (21, .aload_n 0, 1), (22, .getfield 22, 3), (25, .if_icmp .ge 38, 3), (28, .aload_n 0, 1), (29, .iload 4, 2), (31, .invokevirtual 78, 3), (34, .aload_n 0, 1), (35, .invokevirtual 101, 3), (38, .lsub, 1), (39, .invokestatic 104, 3), (42, .lstore 5, 2), (44, .lload 5, 2), (46, .lload_n 2, 1), (47, .lcmp, 1), (48, .ifCond .le 9, 3), (51, .lload 5, 2), (53, .lstore_n 2, 1), (54, .iload 4, 2), (56, .istore_n 1, 1), (57, .iinc 4 1, 3), (60, .goto (-41), 3), (63, .aload_n 0, 1), (64, .getfield 9, 3), (67, .iload_n 1, 1), (68, .iaload, 1), (69, .ireturn, 1)]
theorem dX4_worstEar : decs cX4_worstEar lX4_worstEar = true := by decide +kernel
abbrev lX5_init : List (Nat × Instr × Nat) := [(0, .aload_n 0, 1), (1, .invokespecial 3, 3), (4, .aload_n 0, 1), (5, .bipush 10, 2), (7, .newarray .int, 2), (9, .putfield 9, 3), (12, .aload_n 0, 1), (13, .bipush 10, 2), (15, .newarray .int, 2), (17, .putfield 15, 3), (20, .aload_n 0, 1), (21, .bipush 10, 2), (23, .newarray .int, 2), (25, .putfield 18, 3), (28, .aload_n 0, 1), (29, .bipush 10, 2), (31, .newarray .boolean, 2), (33, .putfield 21, 3), (36, .aload_n 0, 1), (37, .bipush 10, 2), (39, .newarray .boolean, 2), (41, .putfield 25, 3), (44, .aload_n 0, 1), (45, .new 28, 3), (48, .dup, 1), (49, .invokespecial 30, 3), (52, .putfield 31, 3), (55, .aload_n 0, 1), (56, .new 28, 3), (59, .dup, 1), (60, .invokespecial 30, 3), (63, .putfield 35, 3), (66, .aload_n 0, 1), (67, .iconst 0, 1), (68, .putfield 38, 3), (71, .aload_n 0, 1), (72, .iconst 3, 1), (73, .putfield 42, 3), (76, .aload_n 0, 1), (77, .iconst 5, 1), (78, .putfield 45, 3), (81, .aload_n 0, 1), (82, .iconst 0, 1), (83, .putfield 48, 3), (86, .return_, 1)]
theorem dX5_init : decs cX5_init lX5_init = true := by decide +kernel
abbrev lX5_copyFrom : List (Nat × Instr × Nat) := [(0, .aload_n 1, 1), (1, .getfield 9, 3), (4, .iconst 0, 1), (5, .aload_n 0, 1), (6, .getfield 9, 3), (9, .iconst 0, 1), (10, .bipush 10, 2), (12, .invokestatic 51, 3), (15, .aload_n 1, 1), (16, .getfield 15, 3), (19, .iconst 0, 1), (20, .aload_n 0, 1), (21, .getfield 15, 3), (24, .iconst 0, 1), (25, .bipush 10, 2), (27, .invokestatic 51, 3), (30, .aload_n 1, 1), (31, .getfield 18, 3), (34, .iconst 0, 1), (35, .aload_n 0, 1), (36, .getfield 18, 3), (39, .iconst 0, 1), (40, .bipush 10, 2), (42, .invokestatic 51, 3), (45, .aload_n 1, 1), (46, .getfield 21, 3), (49, .iconst 0, 1), (50, .aload_n 0, 1), (51, .getfield 21, 3), (54, .iconst 0, 1), (55, .bipush 10, 2), (57, .invokestatic 51, 3), (60, .aload_n 1, 1), (61, .getfield 25, 3), (64, .iconst 0, 1), (65, .aload_n 0, 1), (66, .getfield 25, 3), (69, .iconst 0, 1), (70, .bipush 10, 2), (72, .invokestatic 51, 3), (75, .aload_n 0, 1), (76, .getfield 31, 3), (79, .aload_n 1, 1), (80, .getfield 31, 3), (83, .invokevirtual 57, 3), (86, .aload_n 0, 1), (87, .getfield 35, 3), (90, .aload_n 1, 1), (91, .getfield 35, 3), (94, .invokevirtual 57, 3), (97, .aload_n 0, 1), (98, .aload_n 1, 1), (99, .getfield 38, 3), (102, .putfield 38, 3), (105, .aload_n 0, 1), (106, .aload_n 1, 1), (107, .getfield 42, 3), (110, .putfield 42, 3), (113, .aload_n 0, 1), (114, .aload_n 1, 1), (115, .getfield 45, 3), (118, .putfield 45, 3), (121, .aload_n 0, 1), (122, .aload_n 1, 1), (123, .getfield 48, 3), (126, .putfield 48, 3), (129, .return_, 1)]
theorem dX5_copyFrom : decs cX5_copyFrom lX5_copyFrom = true := by decide +kernel
abbrev lX5_hasEar : List (Nat × Instr × Nat) := [(0, .iload_n 1, 1), (1, .ifCond .lt 15, 3), (4, .iload_n 1, 1), (5, .aload_n 0, 1), (6, .getfield 38, 3), (9, .if_icmp .ge 7, 3), (12, .iconst 1, 1), (13, .goto 4, 3), (16, .iconst 0, 1), (17, .ireturn, 1)]
theorem dX5_hasEar : decs cX5_hasEar lX5_hasEar = true := by decide +kernel
abbrev lX5_addEar : List (Nat × Instr × Nat) := [(0, .aload_n 0, 1), (1, .getfield 9, 3), (4, .aload_n 0, 1), (5, .getfield 38, 3), (8, .iload_n 1, 1), (9, .iastore, 1), (10, .aload_n 0, 1), (11, .dup, 1), (12, .getfield 38, 3), (15, .iconst 1, 1), (16, .iadd, 1), (17, .putfield 38, 3), (20, .aload_n 0, 1), (21, .getfield 38, 3), (24, .iconst 1, 1), (25, .isub, 1), (26, .ireturn, 1)]
theorem dX5_addEar : decs cX5_addEar lX5_addEar = true := by decide +kernel
abbrev lX5_reading : List (Nat × Instr × Nat) := [(0, .iload_n 2, 1), (1, .aload_n 0, 1), (2, .getfield 15, 3), (5, .iload_n 1, 1), (6, .iaload, 1), (7, .iadd, 1), (8, .aload_n 0, 1), (9, .getfield 18, 3), (12, .iload_n 1, 1), (13, .iaload, 1), (14, .iload_n 2, 1), (15, .imul, 1), (16, .sipush 10000, 3), (19, .invokestatic 61, 3), (22, .iadd, 1), (23, .ireturn, 1)]
theorem dX5_reading : decs cX5_reading lX5_reading = true := by decide +kernel
abbrev lX5_wayTo : List (Nat × Instr × Nat) := [(0, .iload_n 2, 1), (1, .aload_n 0, 1), (2, .getfield 9, 3), (5, .iload_n 1, 1), (6, .iaload, 1), (7, .isub, 1), (8, .invokestatic 67, 3), (11, .ireturn, 1)]
theorem dX5_wayTo : decs cX5_wayTo lX5_wayTo = true := by decide +kernel
abbrev lX5_canHear : List (Nat × Instr × Nat) := [(0, .aload_n 0, 1), (1, .iload_n 1, 1), (2, .invokevirtual 71, 3), (5, .ifCond .eq 26, 3), (8, .aload_n 0, 1), (9, .getfield 21, 3), (12, .iload_n 1, 1), (13, .baload, 1), (14, .ifCond .ne 17, 3), (17, .aload_n 0, 1), (18, .iload_n 1, 1), (19, .iload_n 2, 1), (20, .invokevirtual 75, 3), (23, .iload_n 3, 1), (24, .if_icmp .gt 7, 3), (27, .iconst 1, 1), (28, .goto 4, 3), (31, .iconst 0, 1), (32, .ireturn, 1)]
theorem dX5_canHear : decs cX5_canHear lX5_canHear = true := by decide +kernel
abbrev lX5_addSound : List (Nat × Instr × Nat) := [(0, .aload_n 1, 1), (1, .getfield 78, 3), (4, .istore 5, 2), (6, .iconst 0, 1), (7, .istore 6, 2), (9, .iconst 0, 1), (10, .istore 7, 2), (12, .iload 7, 2), (14, .bipush 10, 2), (16, .if_icmp .ge 62, 3), (19, .ldc 81, 2), (21, .istore 8, 2), (23, .aload_n 0, 1), (24, .iload 7, 2), (26, .iload_n 2, 1), (27, .iload 4, 2), (29, .invokevirtual 82, 3), (32, .ifCond .eq 28, 3), (35, .aload_n 0, 1), (36, .iload 7, 2), (38, .iload_n 3, 1), (39, .aload_n 0, 1), (40, .getfield 42, 3), (43, .aload_n 0, 1), (44, .iload 7, 2), (46, .iload_n 2, 1), (47, .invokevirtual 75, 3), (50, .imul, 1), (51, .iadd, 1), (52, .invokevirtual 86, 3), (55, .istore 8, 2), (57, .iinc 6 1, 3), (60, .aload_n 1, 1), (61, .getfield 89, 3), (64, .iload 5, 2), (66, .aaload, 1), (67, .iload 7, 2), (69, .iload 8, 2), (71, .iastore, 1), (72, .iinc 7 1, 3), (75, .goto (-63), 3), (78, .aload_n 1, 1), (79, .getfield 93, 3), (82, .iload 5, 2), (84, .iload_n 2, 1), (85, .iastore, 1), (86, .aload_n 1, 1), (87, .getfield 94, 3), (90, .iload 5, 2), (92, .iload_n 3, 1), (93, .iastore, 1), (94, .aload_n 1, 1), (95, .getfield 97, 3), (98, .iload 5, 2), (100, .aload_n 0, 1), (101, .getfield 42, 3), (104, .iastore, 1), (105, .aload_n 1, 1), (106, .dup, 1), (107, .getfield 78, 3), (110, .iconst 1, 1), (111, .iadd, 1), (112, .putfield 78, 3), (115, .aload_n 0, 1), (116, .iload_n 3, 1), (117, .putfield 48, 3), (120, .iload 6, 2), (122, .ireturn, 1)]
theorem dX5_addSound : decs cX5_addSound lX5_addSound = true := by decide +kernel
abbrev lX5_soundsTogether : List (Nat × Instr × Nat) := [(0, .aload_n 0, 1), (1, .getfield 31, 3), (4, .getfield 78, 3), (7, .aload_n 0, 1), (8, .getfield 35, 3), (11, .getfield 78, 3), (14, .iadd, 1), (15, .ireturn, 1)]
theorem dX5_soundsTogether : decs cX5_soundsTogether lX5_soundsTogether = true := by decide +kernel
abbrev lX6_init : List (Nat × Instr × Nat) := [(0, .aload_n 0, 1), (1, .invokespecial 1, 3), (4, .aload_n 0, 1), (5, .new 7, 3), (8, .dup, 1), (9, .invokespecial 9, 3), (12, .putfield 10, 3), (15, .aload_n 0, 1), (16, .new 7, 3), (19, .dup, 1), (20, .invokespecial 9, 3), (23, .putfield 16, 3), (26, .aload_n 0, 1), (27, .iconst 0, 1), (28, .putfield 19, 3), (31, .aload_n 0, 1), (32, .new 23, 3), (35, .dup, 1), (36, .invokespecial 25, 3), (39, .putfield 26, 3), (42, .aload_n 0, 1), (43, .new 30, 3), (46, .dup, 1), (47, .invokespecial 32, 3), (50, .putfield 33, 3), (53, .aload_n 0, 1), (54, .new 37, 3), (57, .dup, 1), (58, .invokespecial 39, 3), (61, .putfield 40, 3), (64, .aload_n 0, 1), (65, .new 44, 3), (68, .dup, 1), (69, .invokespecial 46, 3), (72, .putfield 47, 3), (75, .return_, 1)]
theorem dX6_init : decs cX6_init lX6_init = true := by decide +kernel
abbrev lX6_bury : List (Nat × Instr × Nat) := [(0, .iload_n 1, 1), (1, .iconst 0, 1), (2, .sipush 1000, 3), (5, .invokestatic 51, 3), (8, .ifCond .ne 6, 3), (11, .bipush (-2), 2), (13, .ireturn, 1), (14, .aload_n 0, 1), (15, .getfield 10, 3), (18, .getfield 55, 3), (21, .bipush 10, 2), (23, .if_icmp .lt 6, 3), (26, .bipush (-3), 2), (28, .ireturn, 1), (29, .aload_n 0, 1), (30, .getfield 26, 3), (33, .aload_n 0, 1), (34, .getfield 10, 3), (37, .invokevirtual 59, 3), (40, .aload_n 0, 1), (41, .getfield 10, 3), (44, .iload_n 1, 1), (45, .invokevirtual 63, 3), (48, .ireturn, 1)]
theorem dX6_bury : decs cX6_bury lX6_bury = true := by decide +kernel
abbrev lX6_setClock : List (Nat × Instr × Nat) := [(0, .aload_n 0, 1), (1, .getfield 10, 3), (4, .iload_n 1, 1), (5, .invokevirtual 67, 3), (8, .ifCond .ne 5, 3), (11, .iconst (-1), 1), (12, .ireturn, 1), (13, .iload_n 2, 1), (14, .sipush (-500), 3), (17, .sipush 500, 3), (20, .invokestatic 51, 3), (23, .ifCond .eq 14, 3), (26, .iload_n 3, 1), (27, .bipush (-50), 2), (29, .bipush 50, 2), (31, .invokestatic 51, 3), (34, .ifCond .ne 6, 3), (37, .bipush (-2), 2), (39, .ireturn, 1), (40, .aload_n 0, 1), (41, .getfield 10, 3), (44, .getfield 71, 3), (47, .iload_n 1, 1), (48, .iaload, 1), (49, .iload_n 2, 1), (50, .if_icmp .ne 19, 3), (53, .aload_n 0, 1), (54, .getfield 10, 3), (57, .getfield 75, 3), (60, .iload_n 1, 1), (61, .iaload, 1), (62, .iload_n 3, 1), (63, .if_icmp .ne 6, 3), (66, .bipush (-5), 2), (68, .ireturn, 1), (69, .aload_n 0, 1), (70, .getfield 26, 3), (73, .aload_n 0, 1), (74, .getfield 10, 3), (77, .invokevirtual 59, 3), (80, .aload_n 0, 1), (81, .getfield 10, 3), (84, .getfield 71, 3), (87, .iload_n 1, 1), (88, .iload_n 2, 1), (89, .iastore, 1), (90, .aload_n 0, 1), (91, .getfield 10, 3), (94, .getfield 75, 3), (97, .iload_n 1, 1), (98, .iload_n 3, 1), (99, .iastore, 1), (100, .iconst 1, 1), (101, .ireturn, 1)]
theorem dX6_setClock : decs cX6_setClock lX6_setClock = true := by decide +kernel
abbrev lX6_mute : List (Nat × Instr × Nat) := [(0, .aload_n 0, 1), (1, .getfield 10, 3), (4, .iload_n 1, 1), (5, .invokevirtual 67, 3), (8, .ifCond .ne 5, 3), (11, .iconst (-1), 1), (12, .ireturn, 1), (13, .aload_n 0, 1), (14, .aload_n 0, 1), (15, .getfield 10, 3), (18, .getfield 78, 3), (21, .aload_n 0, 1), (22, .getfield 10, 3), (25, .getfield 55, 3), (28, .iload_n 1, 1), (29, .iload_n 2, 1), (30, .invokevirtual 82, 3), (33, .ireturn, 1)]
theorem dX6_mute : decs cX6_mute lX6_mute = true := by decide +kernel
abbrev lX6_set : List (Nat × Instr × Nat) := [(0, .iload_n 1, 1), (1, .ifCond .ne 9, 3), (4, .aload_n 0, 1), (5, .iload_n 2, 1), (6, .invokevirtual 86, 3), (9, .ireturn, 1), (10, .iload_n 1, 1), (11, .iconst 1, 1), (12, .if_icmp .ne 11, 3), (15, .aload_n 0, 1), (16, .iload_n 2, 1), (17, .invokevirtual 89, 3), (20, .goto 5, 3), (23, .bipush (-2), 2), (25, .ireturn, 1)]
theorem dX6_set : decs cX6_set lX6_set = true := by decide +kernel
abbrev lX6_thump : List (Nat × Instr × Nat) := [(0, .aload_n 0, 1), (1, .aload_n 0, 1), (2, .getfield 10, 3), (5, .getfield 92, 3), (8, .iload_n 1, 1), (9, .iload_n 2, 1), (10, .iload_n 3, 1), (11, .invokevirtual 96, 3), (14, .ireturn, 1)]
theorem dX6_thump : decs cX6_thump lX6_thump = true := by decide +kernel
abbrev lX6_knock : List (Nat × Instr × Nat) := [(0, .aload_n 0, 1), (1, .aload_n 0, 1), (2, .getfield 10, 3), (5, .getfield 100, 3), (8, .iload_n 1, 1), (9, .iload_n 2, 1), (10, .iload_n 3, 1), (11, .invokevirtual 96, 3), (14, .ireturn, 1)]
theorem dX6_knock : decs cX6_knock lX6_knock = true := by decide +kernel
abbrev lX6_leaveOut : List (Nat × Instr × Nat) := [(0, .aload_n 0, 1), (1, .getfield 10, 3), (4, .getfield 92, 3), (7, .iload_n 1, 1), (8, .invokevirtual 103, 3), (11, .ifCond .ne 5, 3), (14, .iconst (-1), 1), (15, .ireturn, 1), (16, .aload_n 0, 1), (17, .aload_n 0, 1), (18, .getfield 10, 3), (21, .getfield 108, 3), (24, .aload_n 0, 1), (25, .getfield 10, 3), (28, .getfield 92, 3), (31, .getfield 111, 3), (34, .iload_n 1, 1), (35, .iload_n 2, 1), (36, .invokevirtual 82, 3), (39, .ireturn, 1)]
theorem dX6_leaveOut : decs cX6_leaveOut lX6_leaveOut = true := by decide +kernel
abbrev lX6_readOrders : List (Nat × Instr × Nat) := [(0, .aload_n 0, 1), (1, .getfield 33, 3), (4, .invokevirtual 114, 3), (7, .istore_n 1, 1), (8, .iload_n 1, 1), (9, .iconst (-1), 1), (10, .if_icmp .eq 8, 3), (13, .bipush (-100), 2), (15, .iload_n 1, 1), (16, .isub, 1), (17, .ireturn, 1), (18, .aload_n 0, 1), (19, .invokevirtual 118, 3), (22, .istore_n 2, 1), (23, .iload_n 2, 1), (24, .ifCond .eq 5, 3), (27, .iload_n 2, 1), (28, .ireturn, 1), (29, .aload_n 0, 1), (30, .getfield 26, 3), (33, .aload_n 0, 1), (34, .getfield 10, 3), (37, .invokevirtual 59, 3), (40, .iconst 0, 1), (41, .istore_n 3, 1), (42, .iload_n 3, 1), (43, .aload_n 0, 1), (44, .getfield 33, 3), (47, .getfield 121, 3), (50, .if_icmp .ge 77, 3), (53, .aload_n 0, 1), (54, .getfield 33, 3), (57, .getfield 124, 3), (60, .iload_n 3, 1), (61, .baload, 1), (62, .ifCond .eq 13, 3), (65, .aload_n 0, 1), (66, .getfield 10, 3), (69, .getfield 92, 3), (72, .goto 10, 3), (75, .aload_n 0, 1), (76, .getfield 10, 3), (79, .getfield 100, 3), (82, .astore 4, 2), (84, .aload_n 0, 1), (85, .getfield 10, 3), (88, .aload 4, 2), (90, .aload_n 0, 1), (91, .getfield 33, 3), (94, .getfield 127, 3), (97, .iload_n 3, 1), (98, .iaload, 1), (99, .aload_n 0, 1), (100, .getfield 33, 3), (103, .getfield 130, 3), (106, .iload_n 3, 1), (107, .iaload, 1), (108, .aload_n 0, 1), (109, .getfield 33, 3), (112, .getfield 133, 3), (115, .iload_n 3, 1), (116, .iaload, 1), (117, .invokevirtual 136, 3), (120, .pop, 1), (121, .iinc 3 1, 3), (124, .goto (-82), 3), (127, .aload_n 0, 1), (128, .getfield 33, 3), (131, .getfield 121, 3), (134, .ireturn, 1)]
theorem dX6_readOrders : decs cX6_readOrders lX6_readOrders = true := by decide +kernel
abbrev lX6_type : List (Nat × Instr × Nat) := [(0, .aload_n 0, 1), (1, .getfield 33, 3), (4, .getfield 139, 3), (7, .bipush 60, 2), (9, .if_icmp .lt 6, 3), (12, .bipush (-3), 2), (14, .ireturn, 1), (15, .aload_n 0, 1), (16, .getfield 33, 3), (19, .getfield 142, 3), (22, .aload_n 0, 1), (23, .getfield 33, 3), (26, .getfield 139, 3), (29, .iload_n 1, 1), (30, .castore, 1), (31, .aload_n 0, 1), (32, .getfield 33, 3), (35, .dup, 1), (36, .getfield 139, 3), (39, .iconst 1, 1), (40, .iadd, 1), (41, .putfield 139, 3), (44, .aload_n 0, 1), (45, .getfield 33, 3), (48, .getfield 139, 3), (51, .ireturn, 1)]
theorem dX6_type : decs cX6_type lX6_type = true := by decide +kernel
abbrev lX6_clearText : List (Nat × Instr × Nat) := [(0, .aload_n 0, 1), (1, .getfield 33, 3), (4, .getfield 139, 3), (7, .istore_n 1, 1), (8, .aload_n 0, 1), (9, .getfield 33, 3), (12, .iconst 0, 1), (13, .putfield 139, 3), (16, .iload_n 1, 1), (17, .ireturn, 1)]
theorem dX6_clearText : decs cX6_clearText lX6_clearText = true := by decide +kernel
abbrev lX6_undo : List (Nat × Instr × Nat) := [(0, .aload_n 0, 1), (1, .getfield 26, 3), (4, .getfield 146, 3), (7, .ifCond .gt 6, 3), (10, .bipush (-5), 2), (12, .ireturn, 1), (13, .aload_n 0, 1), (14, .getfield 26, 3), (17, .aload_n 0, 1), (18, .getfield 10, 3), (21, .invokevirtual 147, 3), (24, .aload_n 0, 1), (25, .getfield 26, 3), (28, .getfield 146, 3), (31, .ireturn, 1)]
theorem dX6_undo : decs cX6_undo lX6_undo = true := by decide +kernel
abbrev lX6_keep : List (Nat × Instr × Nat) := [(0, .aload_n 0, 1), (1, .getfield 16, 3), (4, .aload_n 0, 1), (5, .getfield 10, 3), (8, .invokevirtual 150, 3), (11, .aload_n 0, 1), (12, .iconst 1, 1), (13, .putfield 19, 3), (16, .aload_n 0, 1), (17, .getfield 10, 3), (20, .invokevirtual 153, 3), (23, .ireturn, 1)]
theorem dX6_keep : decs cX6_keep lX6_keep = true := by decide +kernel
abbrev lX6_restore : List (Nat × Instr × Nat) := [(0, .aload_n 0, 1), (1, .getfield 19, 3), (4, .ifCond .ne 6, 3), (7, .bipush (-5), 2), (9, .ireturn, 1), (10, .aload_n 0, 1), (11, .getfield 26, 3), (14, .aload_n 0, 1), (15, .getfield 10, 3), (18, .invokevirtual 59, 3), (21, .aload_n 0, 1), (22, .getfield 10, 3), (25, .aload_n 0, 1), (26, .getfield 16, 3), (29, .invokevirtual 150, 3), (32, .aload_n 0, 1), (33, .getfield 10, 3), (36, .invokevirtual 153, 3), (39, .ireturn, 1)]
theorem dX6_restore : decs cX6_restore lX6_restore = true := by decide +kernel
abbrev lX6_ear : List (Nat × Instr × Nat) := [(0, .aload_n 0, 1), (1, .getfield 10, 3), (4, .iload_n 1, 1), (5, .invokevirtual 67, 3), (8, .ifCond .ne 5, 3), (11, .iconst (-1), 1), (12, .ireturn, 1), (13, .iload_n 2, 1), (14, .tableswitch 136 0 6 #[42, 52, 70, 84, 98, 118, 124], 42), (56, .aload_n 0, 1), (57, .getfield 10, 3), (60, .getfield 156, 3), (63, .iload_n 1, 1), (64, .iaload, 1), (65, .ireturn, 1), (66, .aload_n 0, 1), (67, .getfield 10, 3), (70, .getfield 78, 3), (73, .iload_n 1, 1), (74, .baload, 1), (75, .ifCond .eq 7, 3), (78, .iconst 1, 1), (79, .goto 4, 3), (82, .iconst 0, 1), (83, .ireturn, 1), (84, .aload_n 0, 1), (85, .getfield 10, 3), (88, .getfield 71, 3), (91, .iload_n 1, 1), (92, .iaload, 1), (93, .sipush 1000, 3), (96, .iadd, 1), (97, .ireturn, 1), (98, .aload_n 0, 1), (99, .getfield 10, 3), (102, .getfield 75, 3), (105, .iload_n 1, 1), (106, .iaload, 1), (107, .sipush 1000, 3), (110, .iadd, 1), (111, .ireturn, 1), (112, .aload_n 0, 1), (113, .getfield 40, 3), (116, .aload_n 0, 1), (117, .getfield 10, 3), (120, .iload_n 1, 1), (121, .invokevirtual 157, 3), (124, .aload_n 0, 1), (125, .getfield 40, 3), (128, .getfield 161, 3), (131, .ireturn, 1), (132, .aload_n 0, 1), (133, .iload_n 1, 1), (134, .invokevirtual 162, 3), (137, .ireturn, 1), (138, .aload_n 0, 1), (139, .getfield 10, 3), (142, .getfield 100, 3), (145, .iload_n 1, 1), (146, .invokevirtual 165, 3), (149, .ireturn, 1), (150, .bipush (-2), 2), (152, .ireturn, 1)]
theorem dX6_ear : decs cX6_ear lX6_ear = true := by decide +kernel
abbrev lX6_clock : List (Nat × Instr × Nat) := [(0, .aload_n 0, 1), (1, .getfield 10, 3), (4, .iload_n 1, 1), (5, .invokevirtual 67, 3), (8, .ifCond .ne 5, 3), (11, .iconst (-1), 1), (12, .ireturn, 1), (13, .iload_n 2, 1), (14, .iconst 0, 1), (15, .ldc 168, 2), (17, .invokestatic 51, 3), (20, .ifCond .ne 6, 3), (23, .bipush (-2), 2), (25, .ireturn, 1), (26, .aload_n 0, 1), (27, .getfield 10, 3), (30, .iload_n 1, 1), (31, .iload_n 2, 1), (32, .invokevirtual 169, 3), (35, .sipush 10000, 3), (38, .iadd, 1), (39, .ireturn, 1)]
theorem dX6_clock : decs cX6_clock lX6_clock = true := by decide +kernel
abbrev lX6_mark : List (Nat × Instr × Nat) := [(0, .aload_n 0, 1), (1, .getfield 10, 3), (4, .iload_n 1, 1), (5, .invokevirtual 67, 3), (8, .ifCond .ne 5, 3), (11, .iconst (-1), 1), (12, .ireturn, 1), (13, .iload_n 2, 1), (14, .ifCond .lt 12, 3), (17, .iload_n 3, 1), (18, .iconst 0, 1), (19, .iconst 2, 1), (20, .invokestatic 51, 3), (23, .ifCond .ne 6, 3), (26, .bipush (-2), 2), (28, .ireturn, 1), (29, .aload_n 0, 1), (30, .getfield 40, 3), (33, .aload_n 0, 1), (34, .getfield 10, 3), (37, .iload_n 1, 1), (38, .invokevirtual 157, 3), (41, .iload_n 2, 1), (42, .aload_n 0, 1), (43, .getfield 40, 3), (46, .getfield 161, 3), (49, .if_icmp .lt 6, 3), (52, .bipush (-5), 2), (54, .ireturn, 1), (55, .iload_n 3, 1), (56, .ifCond .ne 17, 3), (59, .aload_n 0, 1), (60, .getfield 40, 3), (63, .getfield 173, 3), (66, .iload_n 2, 1), (67, .iaload, 1), (68, .sipush 10000, 3), (71, .iadd, 1), (72, .ireturn, 1), (73, .iload_n 3, 1), (74, .iconst 1, 1), (75, .if_icmp .ne 19, 3), (78, .aload_n 0, 1), (79, .getfield 40, 3), (82, .getfield 176, 3), (85, .iload_n 2, 1), (86, .iaload, 1), (87, .sipush 10000, 3), (90, .iadd, 1), (91, .goto 12, 3), (94, .aload_n 0, 1), (95, .getfield 40, 3), (98, .getfield 179, 3), (101, .iload_n 2, 1), (102, .iaload, 1), (103, .ireturn, 1)]
theorem dX6_mark : decs cX6_mark lX6_mark = true := by decide +kernel
abbrev lX6_error : List (Nat × Instr × Nat) := [(0, .aload_n 0, 1), (1, .getfield 10, 3), (4, .iload_n 1, 1), (5, .invokevirtual 67, 3), (8, .ifCond .ne 8, 3), (11, .iconst (-1), 1), (12, .invokestatic 181, 3), (15, .lreturn, 1), (16, .iload_n 2, 1), (17, .sipush (-10000), 3), (20, .ldc 185, 2), (22, .invokestatic 51, 3), (25, .ifCond .ne 9, 3), (28, .bipush (-2), 2), (30, .invokestatic 181, 3), (33, .lreturn, 1), (34, .aload_n 0, 1), (35, .getfield 40, 3), (38, .aload_n 0, 1), (39, .getfield 10, 3), (42, .iload_n 1, 1), (43, .invokevirtual 157, 3), (46, .aload_n 0, 1), (47, .getfield 40, 3), (50, .iload_n 2, 1), (51, .invokevirtual 186, 3), (54, .lreturn, 1)]
theorem dX6_error : decs cX6_error lX6_error = true := by decide +kernel
abbrev lX6_stalest : List (Nat × Instr × Nat) := [(0, .bipush (-5), 2), (2, .istore_n 1, 1), (3, .bipush 10, 2), (5, .istore_n 2, 1), (6, .iconst 0, 1), (7, .istore_n 3, 1), (8, .iload_n 3, 1), (9, .aload_n 0, 1), (10, .getfield 10, 3), (13, .getfield 55, 3), (16, .if_icmp .ge 41, 3), (19, .aload_n 0, 1), (20, .getfield 40, 3), (23, .aload_n 0, 1), (24, .getfield 10, 3), (27, .iload_n 3, 1), (28, .invokevirtual 157, 3), (31, .aload_n 0, 1), (32, .getfield 40, 3), (35, .invokevirtual 189, 3), (38, .istore 4, 2), (40, .iload 4, 2), (42, .iload_n 2, 1), (43, .if_icmp .ge 8, 3), (46, .iload 4, 2), (48, .istore_n 2, 1), (49, .iload_n 3, 1), (50, .istore_n 1, 1), (51, .iinc 3 1, 3), (54, .goto (-46), 3), (57, .iload_n 1, 1), (58, .ireturn, 1)]
theorem dX6_stalest : decs cX6_stalest lX6_stalest = true := by decide +kernel
abbrev lX6_heard : List (Nat × Instr × Nat) := [(0, .iload_n 1, 1), (1, .ifCond .eq 13, 3), (4, .aload_n 0, 1), (5, .getfield 10, 3), (8, .getfield 100, 3), (11, .goto 10, 3), (14, .aload_n 0, 1), (15, .getfield 10, 3), (18, .getfield 92, 3), (21, .astore 4, 2), (23, .aload 4, 2), (25, .iload_n 2, 1), (26, .invokevirtual 103, 3), (29, .ifCond .eq 14, 3), (32, .aload_n 0, 1), (33, .getfield 10, 3), (36, .iload_n 3, 1), (37, .invokevirtual 67, 3), (40, .ifCond .ne 5, 3), (43, .iconst (-1), 1), (44, .ireturn, 1), (45, .aload 4, 2), (47, .getfield 192, 3), (50, .iload_n 2, 1), (51, .aaload, 1), (52, .iload_n 3, 1), (53, .iaload, 1), (54, .istore 5, 2), (56, .iload 5, 2), (58, .ldc 195, 2), (60, .if_icmp .ne 8, 3), (63, .bipush (-5), 2), (65, .goto 9, 3), (68, .iload 5, 2), (70, .sipush 10000, 3), (73, .iadd, 1), (74, .ireturn, 1)]
theorem dX6_heard : decs cX6_heard lX6_heard = true := by decide +kernel
abbrev lX6_putRight : List (Nat × Instr × Nat) := [(0, .aload_n 0, 1), (1, .getfield 10, 3), (4, .getfield 100, 3), (7, .iload_n 1, 1), (8, .invokevirtual 103, 3), (11, .ifCond .eq 14, 3), (14, .aload_n 0, 1), (15, .getfield 10, 3), (18, .iload_n 2, 1), (19, .invokevirtual 67, 3), (22, .ifCond .ne 8, 3), (25, .iconst (-1), 1), (26, .invokestatic 181, 3), (29, .lreturn, 1), (30, .aload_n 0, 1), (31, .getfield 10, 3), (34, .getfield 100, 3), (37, .getfield 192, 3), (40, .iload_n 1, 1), (41, .aaload, 1), (42, .iload_n 2, 1), (43, .iaload, 1), (44, .istore_n 3, 1), (45, .iload_n 3, 1), (46, .ldc 195, 2), (48, .if_icmp .ne 9, 3), (51, .bipush (-5), 2), (53, .invokestatic 181, 3), (56, .lreturn, 1), (57, .aload_n 0, 1), (58, .getfield 40, 3), (61, .aload_n 0, 1), (62, .getfield 10, 3), (65, .iload_n 2, 1), (66, .invokevirtual 157, 3), (69, .aload_n 0, 1), (70, .getfield 40, 3), (73, .iload_n 3, 1), (74, .invokevirtual 196, 3), (77, .lreturn, 1)]
theorem dX6_putRight : decs cX6_putRight lX6_putRight = true := by decide +kernel
abbrev lX6_found : List (Nat × Instr × Nat) := [(0, .aload_n 0, 1), (1, .getfield 10, 3), (4, .getfield 100, 3), (7, .iload_n 1, 1), (8, .invokevirtual 103, 3), (11, .ifCond .ne 8, 3), (14, .iconst (-1), 1), (15, .invokestatic 181, 3), (18, .lreturn, 1), (19, .iload_n 2, 1), (20, .iconst 0, 1), (21, .iconst 5, 1), (22, .invokestatic 51, 3), (25, .ifCond .ne 9, 3), (28, .bipush (-2), 2), (30, .invokestatic 181, 3), (33, .lreturn, 1), (34, .aload_n 0, 1), (35, .getfield 47, 3), (38, .aload_n 0, 1), (39, .getfield 10, 3), (42, .iload_n 1, 1), (43, .aload_n 0, 1), (44, .getfield 40, 3), (47, .invokevirtual 199, 3), (50, .iload_n 2, 1), (51, .iconst 3, 1), (52, .if_icmp .ne 12, 3), (55, .aload_n 0, 1), (56, .getfield 47, 3), (59, .getfield 203, 3), (62, .i2l, 1), (63, .lreturn, 1), (64, .aload_n 0, 1), (65, .getfield 47, 3), (68, .getfield 203, 3), (71, .iconst 2, 1), (72, .if_icmp .ge 9, 3), (75, .bipush (-4), 2), (77, .invokestatic 181, 3), (80, .lreturn, 1), (81, .aload_n 0, 1), (82, .getfield 47, 3), (85, .invokevirtual 204, 3), (88, .iload_n 2, 1), (89, .tableswitch 83 0 4 #[35, 44, 52, 83, 60], 35), (124, .aload_n 0, 1), (125, .getfield 47, 3), (128, .getfield 207, 3), (131, .i2l, 1), (132, .lreturn, 1), (133, .aload_n 0, 1), (134, .getfield 47, 3), (137, .invokevirtual 210, 3), (140, .lreturn, 1), (141, .aload_n 0, 1), (142, .getfield 47, 3), (145, .invokevirtual 214, 3), (148, .lreturn, 1), (149, .aload_n 0, 1), (150, .getfield 47, 3), (153, .aload_n 0, 1), (154, .getfield 10, 3), (157, .getfield 217, 3), (160, .invokevirtual 220, 3), (163, .ifCond .eq 7, 3), (166, .lconst 1, 1), (167, .goto 4, 3), (170, .lconst 0, 1), (171, .lreturn, 1), (172, .aload_n 0, 1), (173, .getfield 47, 3), (176, .invokevirtual 223, 3), (179, .i2l, 1), (180, .lreturn, 1)]
theorem dX6_found : decs cX6_found lX6_found = true := by decide +kernel
abbrev lX6_spread : List (Nat × Instr × Nat) := [(0, .aload_n 0, 1), (1, .getfield 10, 3), (4, .getfield 100, 3), (7, .iload_n 1, 1), (8, .invokevirtual 103, 3), (11, .ifCond .ne 8, 3), (14, .iconst (-1), 1), (15, .invokestatic 181, 3), (18, .lreturn, 1), (19, .iload_n 2, 1), (20, .iconst 0, 1), (21, .sipush 1000, 3), (24, .invokestatic 51, 3), (27, .ifCond .ne 9, 3), (30, .bipush (-2), 2), (32, .invokestatic 181, 3), (35, .lreturn, 1), (36, .aload_n 0, 1), (37, .getfield 47, 3), (40, .aload_n 0, 1), (41, .getfield 10, 3), (44, .iload_n 1, 1), (45, .aload_n 0, 1), (46, .getfield 40, 3), (49, .invokevirtual 199, 3), (52, .aload_n 0, 1), (53, .getfield 47, 3), (56, .getfield 203, 3), (59, .iconst 2, 1), (60, .if_icmp .ge 9, 3), (63, .bipush (-4), 2), (65, .invokestatic 181, 3), (68, .lreturn, 1), (69, .aload_n 0, 1), (70, .getfield 47, 3), (73, .iload_n 2, 1), (74, .invokevirtual 226, 3), (77, .aload_n 0, 1), (78, .getfield 47, 3), (81, .invokevirtual 214, 3), (84, .lreturn, 1)]
theorem dX6_spread : decs cX6_spread lX6_spread = true := by decide +kernel
abbrev lX6_truth : List (Nat × Instr × Nat) := [(0, .aload_n 0, 1), (1, .getfield 10, 3), (4, .getfield 100, 3), (7, .iload_n 1, 1), (8, .invokevirtual 103, 3), (11, .ifCond .ne 5, 3), (14, .iconst (-1), 1), (15, .ireturn, 1), (16, .iload_n 2, 1), (17, .tableswitch 59 0 2 #[27, 40, 53], 27), (44, .aload_n 0, 1), (45, .getfield 10, 3), (48, .getfield 100, 3), (51, .getfield 230, 3), (54, .iload_n 1, 1), (55, .iaload, 1), (56, .ireturn, 1), (57, .aload_n 0, 1), (58, .getfield 10, 3), (61, .getfield 100, 3), (64, .getfield 231, 3), (67, .iload_n 1, 1), (68, .iaload, 1), (69, .ireturn, 1), (70, .aload_n 0, 1), (71, .iload_n 1, 1), (72, .invokevirtual 232, 3), (75, .ireturn, 1), (76, .bipush (-2), 2), (78, .ireturn, 1)]
theorem dX6_truth : decs cX6_truth lX6_truth = true := by decide +kernel
abbrev lX6_count : List (Nat × Instr × Nat) := [(0, .iload_n 1, 1), (1, .tableswitch 173 0 10 #[59, 67, 78, 89, 97, 105, 113, 131, 152, 157, 165], 59), (60, .aload_n 0, 1), (61, .getfield 10, 3), (64, .getfield 55, 3), (67, .ireturn, 1), (68, .aload_n 0, 1), (69, .getfield 10, 3), (72, .getfield 92, 3), (75, .getfield 111, 3), (78, .ireturn, 1), (79, .aload_n 0, 1), (80, .getfield 10, 3), (83, .getfield 100, 3), (86, .getfield 111, 3), (89, .ireturn, 1), (90, .aload_n 0, 1), (91, .getfield 10, 3), (94, .getfield 235, 3), (97, .ireturn, 1), (98, .aload_n 0, 1), (99, .getfield 10, 3), (102, .getfield 217, 3), (105, .ireturn, 1), (106, .aload_n 0, 1), (107, .getfield 10, 3), (110, .getfield 238, 3), (113, .ireturn, 1), (114, .aload_n 0, 1), (115, .getfield 10, 3), (118, .getfield 78, 3), (121, .aload_n 0, 1), (122, .getfield 10, 3), (125, .getfield 55, 3), (128, .invokestatic 241, 3), (131, .ireturn, 1), (132, .aload_n 0, 1), (133, .getfield 10, 3), (136, .getfield 108, 3), (139, .aload_n 0, 1), (140, .getfield 10, 3), (143, .getfield 92, 3), (146, .getfield 111, 3), (149, .invokestatic 241, 3), (152, .ireturn, 1), (153, .aload_n 0, 1), (154, .invokevirtual 245, 3), (157, .ireturn, 1), (158, .aload_n 0, 1), (159, .getfield 26, 3), (162, .getfield 146, 3), (165, .ireturn, 1), (166, .aload_n 0, 1), (167, .getfield 33, 3), (170, .getfield 139, 3), (173, .ireturn, 1), (174, .bipush (-2), 2), (176, .ireturn, 1)]
theorem dX6_count : decs cX6_count lX6_count = true := by decide +kernel
abbrev lX6_isWithin : List (Nat × Instr × Nat) := [(0, .iload_n 0, 1), (1, .iload_n 1, 1), (2, .if_icmp .lt 12, 3), (5, .iload_n 0, 1), (6, .iload_n 2, 1), (7, .if_icmp .gt 7, 3), (10, .iconst 1, 1), (11, .goto 4, 3), (14, .iconst 0, 1), (15, .ireturn, 1)]
theorem dX6_isWithin : decs cX6_isWithin lX6_isWithin = true := by decide +kernel
abbrev lX6_longError : List (Nat × Instr × Nat) := [(0, .ldc2_w 248, 3), (3, .iload_n 0, 1), (4, .i2l, 1), (5, .lsub, 1), (6, .lreturn, 1)]
theorem dX6_longError : decs cX6_longError lX6_longError = true := by decide +kernel
abbrev lX6_countFlags : List (Nat × Instr × Nat) := [(0, .iconst 0, 1), (1, .istore_n 2, 1), (2, .iconst 0, 1), (3, .istore_n 3, 1), (4, .iload_n 3, 1), (5, .iload_n 1, 1), (6, .if_icmp .ge 18, 3), (9, .aload_n 0, 1), (10, .iload_n 3, 1), (11, .baload, 1), (12, .ifCond .eq 6, 3), (15, .iinc 2 1, 3), (18, .iinc 3 1, 3), (21, .goto (-17), 3), (24, .iload_n 2, 1), (25, .ireturn, 1)]
theorem dX6_countFlags : decs cX6_countFlags lX6_countFlags = true := by decide +kernel
abbrev lX6_flag : List (Nat × Instr × Nat) := [(0, .aload_n 1, 1), (1, .iload_n 3, 1), (2, .baload, 1), (3, .iload 4, 2), (5, .if_icmp .ne 6, 3), (8, .bipush (-5), 2), (10, .ireturn, 1), (11, .aload_n 0, 1), (12, .getfield 26, 3), (15, .aload_n 0, 1), (16, .getfield 10, 3), (19, .invokevirtual 59, 3), (22, .aload_n 1, 1), (23, .iload_n 3, 1), (24, .iload 4, 2), (26, .bastore, 1), (27, .aload_n 1, 1), (28, .iload_n 2, 1), (29, .invokestatic 241, 3), (32, .ireturn, 1)]
theorem dX6_flag : decs cX6_flag lX6_flag = true := by decide +kernel
abbrev lX6_setPace : List (Nat × Instr × Nat) := [(0, .iload_n 1, 1), (1, .iconst 1, 1), (2, .bipush 20, 2), (4, .invokestatic 51, 3), (7, .ifCond .ne 6, 3), (10, .bipush (-2), 2), (12, .ireturn, 1), (13, .aload_n 0, 1), (14, .getfield 10, 3), (17, .getfield 235, 3), (20, .istore_n 2, 1), (21, .iload_n 1, 1), (22, .iload_n 2, 1), (23, .if_icmp .ne 6, 3), (26, .bipush (-5), 2), (28, .ireturn, 1), (29, .aload_n 0, 1), (30, .getfield 26, 3), (33, .aload_n 0, 1), (34, .getfield 10, 3), (37, .invokevirtual 59, 3), (40, .aload_n 0, 1), (41, .getfield 10, 3), (44, .iload_n 1, 1), (45, .putfield 235, 3), (48, .iload_n 2, 1), (49, .ireturn, 1)]
theorem dX6_setPace : decs cX6_setPace lX6_setPace = true := by decide +kernel
abbrev lX6_setTolerance : List (Nat × Instr × Nat) := [(0, .iload_n 1, 1), (1, .iconst 0, 1), (2, .sipush 500, 3), (5, .invokestatic 51, 3), (8, .ifCond .ne 6, 3), (11, .bipush (-2), 2), (13, .ireturn, 1), (14, .aload_n 0, 1), (15, .getfield 10, 3), (18, .getfield 217, 3), (21, .istore_n 2, 1), (22, .iload_n 1, 1), (23, .iload_n 2, 1), (24, .if_icmp .ne 6, 3), (27, .bipush (-5), 2), (29, .ireturn, 1), (30, .aload_n 0, 1), (31, .getfield 26, 3), (34, .aload_n 0, 1), (35, .getfield 10, 3), (38, .invokevirtual 59, 3), (41, .aload_n 0, 1), (42, .getfield 10, 3), (45, .iload_n 1, 1), (46, .putfield 217, 3), (49, .iload_n 2, 1), (50, .ireturn, 1)]
theorem dX6_setTolerance : decs cX6_setTolerance lX6_setTolerance = true := by decide +kernel
abbrev lX6_makeSound : List (Nat × Instr × Nat) := [(0, .iload_n 2, 1), (1, .iload_n 3, 1), (2, .iload 4, 2), (4, .aload_n 0, 1), (5, .getfield 10, 3), (8, .getfield 238, 3), (11, .aload_n 1, 1), (12, .getfield 111, 3), (15, .invokestatic 250, 3), (18, .istore 5, 2), (20, .iload 5, 2), (22, .ifCond .eq 6, 3), (25, .iload 5, 2), (27, .ireturn, 1), (28, .aload_n 0, 1), (29, .getfield 26, 3), (32, .aload_n 0, 1), (33, .getfield 10, 3), (36, .invokevirtual 59, 3), (39, .aload_n 0, 1), (40, .getfield 10, 3), (43, .aload_n 1, 1), (44, .iload_n 2, 1), (45, .iload_n 3, 1), (46, .iload 4, 2), (48, .invokevirtual 136, 3), (51, .ireturn, 1)]
theorem dX6_makeSound : decs cX6_makeSound lX6_makeSound = true := by decide +kernel
abbrev lX6_refusal : List (Nat × Instr × Nat) := [(0, .iload_n 0, 1), (1, .iconst 0, 1), (2, .sipush 1000, 3), (5, .invokestatic 51, 3), (8, .ifCond .eq 24, 3), (11, .iload_n 1, 1), (12, .iconst 0, 1), (13, .ldc 254, 2), (15, .invokestatic 51, 3), (18, .ifCond .eq 14, 3), (21, .iload_n 2, 1), (22, .iconst 1, 1), (23, .sipush 1000, 3), (26, .invokestatic 51, 3), (29, .ifCond .ne 6, 3), (32, .bipush (-2), 2), (34, .ireturn, 1), (35, .iload_n 1, 1), (36, .iload_n 3, 1), (37, .if_icmp .ge 6, 3), (40, .bipush (-4), 2), (42, .ireturn, 1), (43, .iload 4, 2), (45, .bipush 10, 2), (47, .if_icmp .lt 8, 3), (50, .bipush (-3), 2), (52, .goto 4, 3), (55, .iconst 0, 1), (56, .ireturn, 1)]
theorem dX6_refusal : decs cX6_refusal lX6_refusal = true := by decide +kernel
abbrev lX6_refusalOfOrders : List (Nat × Instr × Nat) := [(0, .aload_n 0, 1), (1, .getfield 10, 3), (4, .getfield 92, 3), (7, .getfield 111, 3), (10, .istore_n 1, 1), (11, .aload_n 0, 1), (12, .getfield 10, 3), (15, .getfield 100, 3), (18, .getfield 111, 3), (21, .istore_n 2, 1), (22, .aload_n 0, 1), (23, .getfield 10, 3), (26, .getfield 238, 3), (29, .istore_n 3, 1), (30, .iconst 0, 1), (31, .istore 4, 2), (33, .iload 4, 2), (35, .aload_n 0, 1), (36, .getfield 33, 3), (39, .getfield 121, 3), (42, .if_icmp .ge 108, 3), (45, .aload_n 0, 1), (46, .getfield 33, 3), (49, .getfield 124, 3), (52, .iload 4, 2), (54, .baload, 1), (55, .ifCond .eq 7, 3), (58, .iload_n 1, 1), (59, .goto 4, 3), (62, .iload_n 2, 1), (63, .istore 5, 2), (65, .aload_n 0, 1), (66, .getfield 33, 3), (69, .getfield 127, 3), (72, .iload 4, 2), (74, .iaload, 1), (75, .aload_n 0, 1), (76, .getfield 33, 3), (79, .getfield 130, 3), (82, .iload 4, 2), (84, .iaload, 1), (85, .aload_n 0, 1), (86, .getfield 33, 3), (89, .getfield 133, 3), (92, .iload 4, 2), (94, .iaload, 1), (95, .iload_n 3, 1), (96, .iload 5, 2), (98, .invokestatic 250, 3), (101, .istore 6, 2), (103, .iload 6, 2), (105, .ifCond .eq 6, 3), (108, .iload 6, 2), (110, .ireturn, 1), (111, .aload_n 0, 1), (112, .getfield 33, 3), (115, .getfield 124, 3), (118, .iload 4, 2), (120, .baload, 1), (121, .ifCond .eq 9, 3), (124, .iinc 1 1, 3), (127, .goto 6, 3), (130, .iinc 2 1, 3), (133, .aload_n 0, 1), (134, .getfield 33, 3), (137, .getfield 130, 3), (140, .iload 4, 2), (142, .iaload, 1), (143, .istore_n 3, 1), (144, .iinc 4 1, 3), (147, .goto (-114), 3), (150, .iconst 0, 1), (151, .ireturn, 1)]
theorem dX6_refusalOfOrders : decs cX6_refusalOfOrders lX6_refusalOfOrders = true := by decide +kernel
abbrev lX6_latestReading : List (Nat × Instr × Nat) := [(0, .aload_n 0, 1), (1, .getfield 40, 3), (4, .aload_n 0, 1), (5, .getfield 10, 3), (8, .iload_n 1, 1), (9, .invokevirtual 157, 3), (12, .aload_n 0, 1), (13, .getfield 40, 3), (16, .getfield 161, 3), (19, .ifCond .ne 8, 3), (22, .bipush (-5), 2), (24, .goto 24, 3), (27, .aload_n 0, 1), (28, .getfield 40, 3), (31, .getfield 173, 3), (34, .aload_n 0, 1), (35, .getfield 40, 3), (38, .getfield 161, 3), (41, .iconst 1, 1), (42, .isub, 1), (43, .iaload, 1), (44, .sipush 10000, 3), (47, .iadd, 1), (48, .ireturn, 1)]
theorem dX6_latestReading : decs cX6_latestReading lX6_latestReading = true := by decide +kernel
abbrev lX6_missOf : List (Nat × Instr × Nat) := [(0, .aload_n 0, 1), (1, .getfield 47, 3), (4, .aload_n 0, 1), (5, .getfield 10, 3), (8, .iload_n 1, 1), (9, .aload_n 0, 1), (10, .getfield 40, 3), (13, .invokevirtual 199, 3), (16, .aload_n 0, 1), (17, .getfield 47, 3), (20, .getfield 203, 3), (23, .iconst 2, 1), (24, .if_icmp .ge 6, 3), (27, .bipush (-4), 2), (29, .ireturn, 1), (30, .aload_n 0, 1), (31, .getfield 47, 3), (34, .invokevirtual 204, 3), (37, .aload_n 0, 1), (38, .getfield 47, 3), (41, .getfield 207, 3), (44, .aload_n 0, 1), (45, .getfield 10, 3), (48, .getfield 100, 3), (51, .getfield 230, 3), (54, .iload_n 1, 1), (55, .iaload, 1), (56, .isub, 1), (57, .invokestatic 255, 3), (60, .ireturn, 1)]
theorem dX6_missOf : decs cX6_missOf lX6_missOf = true := by decide +kernel
abbrev lX6_countFitting : List (Nat × Instr × Nat) := [(0, .iconst 0, 1), (1, .istore_n 1, 1), (2, .iconst 0, 1), (3, .istore_n 2, 1), (4, .iload_n 2, 1), (5, .aload_n 0, 1), (6, .getfield 10, 3), (9, .getfield 100, 3), (12, .getfield 111, 3), (15, .if_icmp .ge 63, 3), (18, .aload_n 0, 1), (19, .getfield 47, 3), (22, .aload_n 0, 1), (23, .getfield 10, 3), (26, .iload_n 2, 1), (27, .aload_n 0, 1), (28, .getfield 40, 3), (31, .invokevirtual 199, 3), (34, .aload_n 0, 1), (35, .getfield 47, 3), (38, .getfield 203, 3), (41, .iconst 2, 1), (42, .if_icmp .lt 30, 3), (45, .aload_n 0, 1), (46, .getfield 47, 3), (49, .invokevirtual 204, 3), (52, .aload_n 0, 1), (53, .getfield 47, 3), (56, .aload_n 0, 1), (57, .getfield 10, 3), (60, .getfield 217, 3), (63, .invokevirtual 220, 3), (66, .ifCond .eq 6, 3), (69, .iinc 1 1, 3), (72, .iinc 2 1, 3), (75, .goto (-71), 3), (78, .iload_n 1, 1), (79, .ireturn, 1)]
theorem dX6_countFitting : decs cX6_countFitting lX6_countFitting = true := by decide +kernel
abbrev lX7_init : List (Nat × Instr × Nat) := [(0, .aload_n 0, 1), (1, .invokespecial 1, 3), (4, .aload_n 0, 1), (5, .sipush 346, 3), (8, .newarray .int, 2), (10, .putfield 7, 3), (13, .aload_n 0, 1), (14, .sipush 1384, 3), (17, .newarray .int, 2), (19, .putfield 13, 3), (22, .aload_n 0, 1), (23, .sipush 346, 3), (26, .newarray .int, 2), (28, .putfield 16, 3), (31, .aload_n 0, 1), (32, .sipush 346, 3), (35, .newarray .int, 2), (37, .putfield 19, 3), (40, .aload_n 0, 1), (41, .bipush 60, 2), (43, .newarray .char, 2), (45, .putfield 22, 3), (48, .aload_n 0, 1), (49, .bipush 10, 2), (51, .newarray .int, 2), (53, .putfield 26, 3), (56, .aload_n 0, 1), (57, .bipush 10, 2), (59, .newarray .int, 2), (61, .putfield 29, 3), (64, .aload_n 0, 1), (65, .bipush 10, 2), (67, .newarray .int, 2), (69, .putfield 32, 3), (72, .aload_n 0, 1), (73, .bipush 10, 2), (75, .newarray .long, 2), (77, .putfield 35, 3), (80, .aload_n 0, 1), (81, .getfield 7, 3), (84, .iconst 3, 1), (85, .iconst 3, 1), (86, .iastore, 1), (87, .aload_n 0, 1), (88, .getfield 7, 3), (91, .iconst 4, 1), (92, .iconst 5, 1), (93, .iastore, 1), (94, .sipush 146, 3), (97, .istore_n 1, 1), (98, .iload_n 1, 1), (99, .sipush 346, 3), (102, .if_icmp .ge 17, 3), (105, .aload_n 0, 1), (106, .getfield 7, 3), (109, .iload_n 1, 1), (110, .ldc 39, 2), (112, .iastore, 1), (113, .iinc 1 1, 3), (116, .goto (-18), 3), (119, .return_, 1)]
theorem dX7_init : decs cX7_init lX7_init = true := by decide +kernel
abbrev lX7_in : List (Nat × Instr × Nat) := [(0, .iload_n 0, 1), (1, .iload_n 1, 1), (2, .if_icmp .lt 12, 3), (5, .iload_n 0, 1), (6, .iload_n 2, 1), (7, .if_icmp .gt 7, 3), (10, .iconst 1, 1), (11, .goto 4, 3), (14, .iconst 0, 1), (15, .ireturn, 1)]
theorem dX7_in : decs cX7_in lX7_in = true := by decide +kernel
abbrev lX7_far : List (Nat × Instr × Nat) := [(0, .iload_n 0, 1), (1, .iload_n 1, 1), (2, .if_icmp .ge 9, 3), (5, .iload_n 1, 1), (6, .iload_n 0, 1), (7, .isub, 1), (8, .goto 6, 3), (11, .iload_n 0, 1), (12, .iload_n 1, 1), (13, .isub, 1), (14, .ireturn, 1)]
theorem dX7_far : decs cX7_far lX7_far = true := by decide +kernel
abbrev lX7_down : List (Nat × Instr × Nat) := [(0, .lload_n 0, 1), (1, .lload_n 2, 1), (2, .ldiv, 1), (3, .lstore 4, 2), (5, .lload 4, 2), (7, .lload_n 2, 1), (8, .lmul, 1), (9, .lload_n 0, 1), (10, .lcmp, 1), (11, .ifCond .le 10, 3), (14, .lload 4, 2), (16, .lconst 1, 1), (17, .lsub, 1), (18, .goto 5, 3), (21, .lload 4, 2), (23, .lreturn, 1)]
theorem dX7_down : decs cX7_down lX7_down = true := by decide +kernel
abbrev lX7_toldAs : List (Nat × Instr × Nat) := [(0, .ldc2_w 40, 3), (3, .iload_n 0, 1), (4, .i2l, 1), (5, .lsub, 1), (6, .lreturn, 1)]
theorem dX7_toldAs : decs cX7_toldAs lX7_toldAs = true := by decide +kernel
abbrev lX7_remember : List (Nat × Instr × Nat) := [(0, .iconst 0, 1), (1, .istore_n 1, 1), (2, .iload_n 1, 1), (3, .sipush 346, 3), (6, .if_icmp .ge 21, 3), (9, .aload_n 0, 1), (10, .getfield 19, 3), (13, .iload_n 1, 1), (14, .aload_n 0, 1), (15, .getfield 7, 3), (18, .iload_n 1, 1), (19, .iaload, 1), (20, .iastore, 1), (21, .iinc 1 1, 3), (24, .goto (-22), 3), (27, .return_, 1)]
theorem dX7_remember : decs cX7_remember lX7_remember = true := by decide +kernel
abbrev lX7_goBack : List (Nat × Instr × Nat) := [(0, .iconst 0, 1), (1, .istore_n 1, 1), (2, .iload_n 1, 1), (3, .sipush 346, 3), (6, .if_icmp .ge 21, 3), (9, .aload_n 0, 1), (10, .getfield 7, 3), (13, .iload_n 1, 1), (14, .aload_n 0, 1), (15, .getfield 19, 3), (18, .iload_n 1, 1), (19, .iaload, 1), (20, .iastore, 1), (21, .iinc 1 1, 3), (24, .goto (-22), 3), (27, .return_, 1)]
theorem dX7_goBack : decs cX7_goBack lX7_goBack = true := by decide +kernel
abbrev lX7_record : List (Nat × Instr × Nat) := [(0, .aload_n 0, 1), (1, .getfield 42, 3), (4, .iconst 4, 1), (5, .if_icmp .ne 44, 3), (8, .iconst 0, 1), (9, .istore_n 1, 1), (10, .iload_n 1, 1), (11, .sipush 1038, 3), (14, .if_icmp .ge 25, 3), (17, .aload_n 0, 1), (18, .getfield 13, 3), (21, .iload_n 1, 1), (22, .aload_n 0, 1), (23, .getfield 13, 3), (26, .sipush 346, 3), (29, .iload_n 1, 1), (30, .iadd, 1), (31, .iaload, 1), (32, .iastore, 1), (33, .iinc 1 1, 3), (36, .goto (-26), 3), (39, .aload_n 0, 1), (40, .dup, 1), (41, .getfield 42, 3), (44, .iconst 1, 1), (45, .isub, 1), (46, .putfield 42, 3), (49, .iconst 0, 1), (50, .istore_n 1, 1), (51, .iload_n 1, 1), (52, .sipush 346, 3), (55, .if_icmp .ge 30, 3), (58, .aload_n 0, 1), (59, .getfield 13, 3), (62, .sipush 346, 3), (65, .aload_n 0, 1), (66, .getfield 42, 3), (69, .imul, 1), (70, .iload_n 1, 1), (71, .iadd, 1), (72, .aload_n 0, 1), (73, .getfield 19, 3), (76, .iload_n 1, 1), (77, .iaload, 1), (78, .iastore, 1), (79, .iinc 1 1, 3), (82, .goto (-31), 3), (85, .aload_n 0, 1), (86, .dup, 1), (87, .getfield 42, 3), (90, .iconst 1, 1), (91, .iadd, 1), (92, .putfield 42, 3), (95, .return_, 1)]
theorem dX7_record : decs cX7_record lX7_record = true := by decide +kernel
abbrev lX7_open : List (Nat × Instr × Nat) := [(0, .aload_n 0, 1), (1, .invokevirtual 46, 3), (4, .aload_n 0, 1), (5, .invokevirtual 49, 3), (8, .return_, 1)]
theorem dX7_open : decs cX7_open lX7_open = true := by decide +kernel
abbrev lX7_undo : List (Nat × Instr × Nat) := [(0, .aload_n 0, 1), (1, .getfield 42, 3), (4, .ifCond .ne 6, 3), (7, .bipush (-5), 2), (9, .ireturn, 1), (10, .aload_n 0, 1), (11, .dup, 1), (12, .getfield 42, 3), (15, .iconst 1, 1), (16, .isub, 1), (17, .putfield 42, 3), (20, .iconst 0, 1), (21, .istore_n 1, 1), (22, .iload_n 1, 1), (23, .sipush 346, 3), (26, .if_icmp .ge 30, 3), (29, .aload_n 0, 1), (30, .getfield 7, 3), (33, .iload_n 1, 1), (34, .aload_n 0, 1), (35, .getfield 13, 3), (38, .sipush 346, 3), (41, .aload_n 0, 1), (42, .getfield 42, 3), (45, .imul, 1), (46, .iload_n 1, 1), (47, .iadd, 1), (48, .iaload, 1), (49, .iastore, 1), (50, .iinc 1 1, 3), (53, .goto (-31), 3), (56, .aload_n 0, 1), (57, .getfield 42, 3), (60, .ireturn, 1)]
theorem dX7_undo : decs cX7_undo lX7_undo = true := by decide +kernel
abbrev lX7_came : List (Nat × Instr × Nat) := [(0, .aload_n 0, 1), (1, .getfield 7, 3), (4, .iconst 1, 1), (5, .iaload, 1), (6, .aload_n 0, 1), (7, .getfield 7, 3), (10, .iconst 2, 1), (11, .iaload, 1), (12, .iadd, 1), (13, .ireturn, 1)]
theorem dX7_came : decs cX7_came lX7_came = true := by decide +kernel
abbrev lX7_keep : List (Nat × Instr × Nat) := [(0, .iconst 0, 1), (1, .istore_n 1, 1), (2, .iload_n 1, 1), (3, .sipush 346, 3), (6, .if_icmp .ge 21, 3), (9, .aload_n 0, 1), (10, .getfield 16, 3), (13, .iload_n 1, 1), (14, .aload_n 0, 1), (15, .getfield 7, 3), (18, .iload_n 1, 1), (19, .iaload, 1), (20, .iastore, 1), (21, .iinc 1 1, 3), (24, .goto (-22), 3), (27, .aload_n 0, 1), (28, .iconst 1, 1), (29, .putfield 52, 3), (32, .aload_n 0, 1), (33, .invokevirtual 56, 3), (36, .ireturn, 1)]
theorem dX7_keep : decs cX7_keep lX7_keep = true := by decide +kernel
abbrev lX7_restore : List (Nat × Instr × Nat) := [(0, .aload_n 0, 1), (1, .getfield 52, 3), (4, .ifCond .ne 6, 3), (7, .bipush (-5), 2), (9, .ireturn, 1), (10, .aload_n 0, 1), (11, .invokevirtual 60, 3), (14, .iconst 0, 1), (15, .istore_n 1, 1), (16, .iload_n 1, 1), (17, .sipush 346, 3), (20, .if_icmp .ge 21, 3), (23, .aload_n 0, 1), (24, .getfield 7, 3), (27, .iload_n 1, 1), (28, .aload_n 0, 1), (29, .getfield 16, 3), (32, .iload_n 1, 1), (33, .iaload, 1), (34, .iastore, 1), (35, .iinc 1 1, 3), (38, .goto (-22), 3), (41, .aload_n 0, 1), (42, .invokevirtual 56, 3), (45, .ireturn, 1)]
theorem dX7_restore : decs cX7_restore lX7_restore = true := by decide +kernel
abbrev lX7_noEar : List (Nat × Instr × Nat) := [(0, .iload_n 1, 1), (1, .iconst 0, 1), (2, .aload_n 0, 1), (3, .getfield 7, 3), (6, .iconst 0, 1), (7, .iaload, 1), (8, .iconst 1, 1), (9, .isub, 1), (10, .invokestatic 63, 3), (13, .ifCond .ne 7, 3), (16, .iconst 1, 1), (17, .goto 4, 3), (20, .iconst 0, 1), (21, .ireturn, 1)]
theorem dX7_noEar : decs cX7_noEar lX7_noEar = true := by decide +kernel
abbrev lX7_of : List (Nat × Instr × Nat) := [(0, .aload_n 0, 1), (1, .getfield 7, 3), (4, .bipush 6, 2), (6, .iconst 4, 1), (7, .iload_n 1, 1), (8, .imul, 1), (9, .iadd, 1), (10, .iload_n 2, 1), (11, .iadd, 1), (12, .iaload, 1), (13, .ireturn, 1)]
theorem dX7_of : decs cX7_of lX7_of = true := by decide +kernel
abbrev lX7_bury : List (Nat × Instr × Nat) := [(0, .iload_n 1, 1), (1, .iconst 0, 1), (2, .sipush 1000, 3), (5, .invokestatic 63, 3), (8, .ifCond .ne 6, 3), (11, .bipush (-2), 2), (13, .ireturn, 1), (14, .aload_n 0, 1), (15, .getfield 7, 3), (18, .iconst 0, 1), (19, .iaload, 1), (20, .istore_n 2, 1), (21, .iload_n 2, 1), (22, .bipush 10, 2), (24, .if_icmp .ne 6, 3), (27, .bipush (-3), 2), (29, .ireturn, 1), (30, .aload_n 0, 1), (31, .invokevirtual 60, 3), (34, .aload_n 0, 1), (35, .getfield 7, 3), (38, .bipush 6, 2), (40, .iconst 4, 1), (41, .iload_n 2, 1), (42, .imul, 1), (43, .iadd, 1), (44, .iload_n 1, 1), (45, .iastore, 1), (46, .iconst 1, 1), (47, .istore_n 3, 1), (48, .iload_n 3, 1), (49, .iconst 4, 1), (50, .if_icmp .ge 23, 3), (53, .aload_n 0, 1), (54, .getfield 7, 3), (57, .bipush 6, 2), (59, .iconst 4, 1), (60, .iload_n 2, 1), (61, .imul, 1), (62, .iadd, 1), (63, .iload_n 3, 1), (64, .iadd, 1), (65, .iconst 0, 1), (66, .iastore, 1), (67, .iinc 3 1, 3), (70, .goto (-22), 3), (73, .aload_n 0, 1), (74, .getfield 7, 3), (77, .iconst 0, 1), (78, .dup2, 1), (79, .iaload, 1), (80, .iconst 1, 1), (81, .iadd, 1), (82, .iastore, 1), (83, .iload_n 2, 1), (84, .ireturn, 1)]
theorem dX7_bury : decs cX7_bury lX7_bury = true := by decide +kernel
abbrev lX7_setClock : List (Nat × Instr × Nat) := [(0, .aload_n 0, 1), (1, .iload_n 1, 1), (2, .invokevirtual 67, 3), (5, .ifCond .eq 5, 3), (8, .iconst (-1), 1), (9, .ireturn, 1), (10, .iload_n 2, 1), (11, .sipush (-500), 3), (14, .sipush 500, 3), (17, .invokestatic 63, 3), (20, .ifCond .eq 14, 3), (23, .iload_n 3, 1), (24, .bipush (-50), 2), (26, .bipush 50, 2), (28, .invokestatic 63, 3), (31, .ifCond .ne 6, 3), (34, .bipush (-2), 2), (36, .ireturn, 1), (37, .aload_n 0, 1), (38, .iload_n 1, 1), (39, .iconst 2, 1), (40, .invokevirtual 71, 3), (43, .iload_n 2, 1), (44, .if_icmp .ne 16, 3), (47, .aload_n 0, 1), (48, .iload_n 1, 1), (49, .iconst 3, 1), (50, .invokevirtual 71, 3), (53, .iload_n 3, 1), (54, .if_icmp .ne 6, 3), (57, .bipush (-5), 2), (59, .ireturn, 1), (60, .aload_n 0, 1), (61, .invokevirtual 60, 3), (64, .aload_n 0, 1), (65, .getfield 7, 3), (68, .bipush 6, 2), (70, .iconst 4, 1), (71, .iload_n 1, 1), (72, .imul, 1), (73, .iadd, 1), (74, .iconst 2, 1), (75, .iadd, 1), (76, .iload_n 2, 1), (77, .iastore, 1), (78, .aload_n 0, 1), (79, .getfield 7, 3), (82, .bipush 6, 2), (84, .iconst 4, 1), (85, .iload_n 1, 1), (86, .imul, 1), (87, .iadd, 1), (88, .iconst 3, 1), (89, .iadd, 1), (90, .iload_n 3, 1), (91, .iastore, 1), (92, .iconst 1, 1), (93, .ireturn, 1)]
theorem dX7_setClock : decs cX7_setClock lX7_setClock = true := by decide +kernel
abbrev lX7_mutes : List (Nat × Instr × Nat) := [(0, .iconst 0, 1), (1, .istore_n 1, 1), (2, .iconst 0, 1), (3, .istore_n 2, 1), (4, .iload_n 2, 1), (5, .aload_n 0, 1), (6, .getfield 7, 3), (9, .iconst 0, 1), (10, .iaload, 1), (11, .if_icmp .ge 18, 3), (14, .iload_n 1, 1), (15, .aload_n 0, 1), (16, .iload_n 2, 1), (17, .iconst 1, 1), (18, .invokevirtual 71, 3), (21, .iadd, 1), (22, .istore_n 1, 1), (23, .iinc 2 1, 3), (26, .goto (-22), 3), (29, .iload_n 1, 1), (30, .ireturn, 1)]
theorem dX7_mutes : decs cX7_mutes lX7_mutes = true := by decide +kernel
abbrev lX7_mute : List (Nat × Instr × Nat) := [(0, .aload_n 0, 1), (1, .iload_n 1, 1), (2, .invokevirtual 67, 3), (5, .ifCond .eq 5, 3), (8, .iconst (-1), 1), (9, .ireturn, 1), (10, .iload_n 2, 1), (11, .ifCond .eq 7, 3), (14, .iconst 1, 1), (15, .goto 4, 3), (18, .iconst 0, 1), (19, .istore_n 3, 1), (20, .aload_n 0, 1), (21, .iload_n 1, 1), (22, .iconst 1, 1), (23, .invokevirtual 71, 3), (26, .iload_n 3, 1), (27, .if_icmp .ne 6, 3), (30, .bipush (-5), 2), (32, .ireturn, 1), (33, .aload_n 0, 1), (34, .invokevirtual 60, 3), (37, .aload_n 0, 1), (38, .getfield 7, 3), (41, .bipush 6, 2), (43, .iconst 4, 1), (44, .iload_n 1, 1), (45, .imul, 1), (46, .iadd, 1), (47, .iconst 1, 1), (48, .iadd, 1), (49, .iload_n 3, 1), (50, .iastore, 1), (51, .aload_n 0, 1), (52, .invokevirtual 75, 3), (55, .ireturn, 1)]
theorem dX7_mute : decs cX7_mute lX7_mute = true := by decide +kernel
abbrev lX7_set : List (Nat × Instr × Nat) := [(0, .iload_n 1, 1), (1, .iconst 0, 1), (2, .iconst 1, 1), (3, .invokestatic 63, 3), (6, .ifCond .eq 31, 3), (9, .iload_n 2, 1), (10, .iload_n 1, 1), (11, .ifCond .ne 7, 3), (14, .iconst 1, 1), (15, .goto 4, 3), (18, .iconst 0, 1), (19, .iload_n 1, 1), (20, .ifCond .ne 8, 3), (23, .bipush 20, 2), (25, .goto 6, 3), (28, .sipush 500, 3), (31, .invokestatic 63, 3), (34, .ifCond .ne 6, 3), (37, .bipush (-2), 2), (39, .ireturn, 1), (40, .aload_n 0, 1), (41, .getfield 7, 3), (44, .iconst 3, 1), (45, .iload_n 1, 1), (46, .iadd, 1), (47, .iaload, 1), (48, .istore_n 3, 1), (49, .iload_n 3, 1), (50, .iload_n 2, 1), (51, .if_icmp .ne 6, 3), (54, .bipush (-5), 2), (56, .ireturn, 1), (57, .aload_n 0, 1), (58, .invokevirtual 60, 3), (61, .aload_n 0, 1), (62, .getfield 7, 3), (65, .iconst 3, 1), (66, .iload_n 1, 1), (67, .iadd, 1), (68, .iload_n 2, 1), (69, .iastore, 1), (70, .iload_n 3, 1), (71, .ireturn, 1)]
theorem dX7_set : decs cX7_set lX7_set = true := by decide +kernel
abbrev lX7_come : List (Nat × Instr × Nat) := [(0, .aload_n 0, 1), (1, .getfield 7, 3), (4, .bipush 46, 2), (6, .bipush 50, 2), (8, .iload_n 1, 1), (9, .imul, 1), (10, .iadd, 1), (11, .iconst 5, 1), (12, .iload_n 2, 1), (13, .imul, 1), (14, .iadd, 1), (15, .iload_n 3, 1), (16, .iadd, 1), (17, .iaload, 1), (18, .ireturn, 1)]
theorem dX7_come : decs cX7_come lX7_come = true := by decide +kernel
abbrev lX7_heardOf : List (Nat × Instr × Nat) := [(0, .aload_n 0, 1), (1, .getfield 7, 3), (4, .sipush 146, 3), (7, .bipush 100, 2), (9, .iload_n 1, 1), (10, .imul, 1), (11, .iadd, 1), (12, .bipush 10, 2), (14, .iload_n 2, 1), (15, .imul, 1), (16, .iadd, 1), (17, .iload_n 3, 1), (18, .iadd, 1), (19, .iaload, 1), (20, .ireturn, 1)]
theorem dX7_heardOf : decs cX7_heardOf lX7_heardOf = true := by decide +kernel
abbrev lX7_none : List (Nat × Instr × Nat) := [(0, .iload_n 2, 1), (1, .iconst 0, 1), (2, .aload_n 0, 1), (3, .getfield 7, 3), (6, .iconst 1, 1), (7, .iload_n 1, 1), (8, .iadd, 1), (9, .iaload, 1), (10, .iconst 1, 1), (11, .isub, 1), (12, .invokestatic 63, 3), (15, .ifCond .ne 7, 3), (18, .iconst 1, 1), (19, .goto 4, 3), (22, .iconst 0, 1), (23, .ireturn, 1)]
theorem dX7_none : decs cX7_none lX7_none = true := by decide +kernel
abbrev lX7_reads : List (Nat × Instr × Nat) := [(0, .iload_n 2, 1), (1, .aload_n 0, 1), (2, .iload_n 1, 1), (3, .iconst 2, 1), (4, .invokevirtual 71, 3), (7, .iadd, 1), (8, .aload_n 0, 1), (9, .iload_n 1, 1), (10, .iconst 3, 1), (11, .invokevirtual 71, 3), (14, .i2l, 1), (15, .iload_n 2, 1), (16, .i2l, 1), (17, .lmul, 1), (18, .ldc2_w 78, 3), (21, .invokestatic 80, 3), (24, .l2i, 1), (25, .iadd, 1), (26, .ireturn, 1)]
theorem dX7_reads : decs cX7_reads lX7_reads = true := by decide +kernel
abbrev lX7_make_0 : List (Nat × Instr × Nat) := [(0, .iload_n 2, 1), (1, .iconst 0, 1), (2, .sipush 1000, 3), (5, .invokestatic 63, 3), (8, .ifCond .eq 25, 3), (11, .iload_n 3, 1), (12, .iconst 0, 1), (13, .ldc 84, 2), (15, .invokestatic 63, 3), (18, .ifCond .eq 15, 3), (21, .iload 4, 2), (23, .iconst 1, 1), (24, .sipush 1000, 3), (27, .invokestatic 63, 3), (30, .ifCond .ne 6, 3), (33, .bipush (-2), 2), (35, .ireturn, 1), (36, .iload_n 3, 1), (37, .aload_n 0, 1), (38, .getfield 7, 3), (41, .iconst 5, 1), (42, .iaload, 1), (43, .if_icmp .ge 6, 3), (46, .bipush (-4), 2), (48, .ireturn, 1), (49, .aload_n 0, 1), (50, .getfield 7, 3), (53, .iconst 1, 1), (54, .iload_n 1, 1), (55, .iadd, 1), (56, .iaload, 1), (57, .istore 5, 2), (59, .iload 5, 2), (61, .bipush 10, 2), (63, .if_icmp .ne 6, 3), (66, .bipush (-3), 2), (68, .ireturn, 1), (69, .bipush 46, 2), (71, .bipush 50, 2), (73, .iload_n 1, 1)]
theorem dX7_make_0 : decs cX7_make lX7_make_0 = true := by decide +kernel
abbrev lX7_make_1 : List (Nat × Instr × Nat) := [(74, .imul, 1), (75, .iadd, 1), (76, .iconst 5, 1), (77, .iload 5, 2), (79, .imul, 1), (80, .iadd, 1), (81, .istore 6, 2), (83, .aload_n 0, 1), (84, .getfield 7, 3), (87, .iload 6, 2), (89, .iload_n 2, 1), (90, .iastore, 1), (91, .aload_n 0, 1), (92, .getfield 7, 3), (95, .iload 6, 2), (97, .iconst 1, 1), (98, .iadd, 1), (99, .iload_n 3, 1), (100, .iastore, 1), (101, .aload_n 0, 1), (102, .getfield 7, 3), (105, .iload 6, 2), (107, .iconst 2, 1), (108, .iadd, 1), (109, .iload 4, 2), (111, .iastore, 1), (112, .aload_n 0, 1), (113, .getfield 7, 3), (116, .iload 6, 2), (118, .iconst 3, 1), (119, .iadd, 1), (120, .aload_n 0, 1), (121, .getfield 7, 3), (124, .iconst 3, 1), (125, .iaload, 1), (126, .iastore, 1), (127, .aload_n 0, 1), (128, .getfield 7, 3), (131, .iload 6, 2), (133, .iconst 4, 1)]
theorem dX7_make_1 : decs cX7_make lX7_make_1 = true := by decide +kernel
abbrev lX7_make_2 : List (Nat × Instr × Nat) := [(134, .iadd, 1), (135, .iconst 0, 1), (136, .iastore, 1), (137, .iconst 0, 1), (138, .istore 7, 2), (140, .iconst 0, 1), (141, .istore 8, 2), (143, .iload 8, 2), (145, .bipush 10, 2), (147, .if_icmp .ge 121, 3), (150, .iload_n 2, 1), (151, .aload_n 0, 1), (152, .iload 8, 2), (154, .iconst 0, 1), (155, .invokevirtual 71, 3), (158, .invokestatic 85, 3), (161, .istore 9, 2), (163, .iload 8, 2), (165, .aload_n 0, 1), (166, .getfield 7, 3), (169, .iconst 0, 1), (170, .iaload, 1), (171, .if_icmp .ge 24, 3), (174, .aload_n 0, 1), (175, .iload 8, 2), (177, .iconst 1, 1), (178, .invokevirtual 71, 3), (181, .ifCond .ne 14, 3), (184, .iload 9, 2), (186, .iload 4, 2), (188, .if_icmp .gt 7, 3), (191, .iconst 1, 1), (192, .goto 4, 3), (195, .iconst 0, 1), (196, .istore 10, 2), (198, .aload_n 0, 1), (199, .getfield 7, 3), (202, .sipush 146, 3), (205, .bipush 100, 2), (207, .iload_n 1, 1)]
theorem dX7_make_2 : decs cX7_make lX7_make_2 = true := by decide +kernel
abbrev lX7_make_3 : List (Nat × Instr × Nat) := [(208, .imul, 1), (209, .iadd, 1), (210, .bipush 10, 2), (212, .iload 5, 2), (214, .imul, 1), (215, .iadd, 1), (216, .iload 8, 2), (218, .iadd, 1), (219, .iload 10, 2), (221, .ifCond .eq 23, 3), (224, .aload_n 0, 1), (225, .iload 8, 2), (227, .iload_n 3, 1), (228, .aload_n 0, 1), (229, .getfield 7, 3), (232, .iconst 3, 1), (233, .iaload, 1), (234, .iload 9, 2), (236, .imul, 1), (237, .iadd, 1), (238, .invokevirtual 88, 3), (241, .goto 5, 3), (244, .ldc 39, 2), (246, .iastore, 1), (247, .iload 7, 2), (249, .iload 10, 2), (251, .ifCond .eq 7, 3), (254, .iconst 1, 1), (255, .goto 4, 3), (258, .iconst 0, 1), (259, .iadd, 1), (260, .istore 7, 2), (262, .iinc 8 1, 3), (265, .goto (-122), 3), (268, .aload_n 0, 1), (269, .getfield 7, 3), (272, .iconst 1, 1), (273, .iload_n 1, 1), (274, .iadd, 1), (275, .dup2, 1)]
theorem dX7_make_3 : decs cX7_make lX7_make_3 = true := by decide +kernel
abbrev lX7_make_4 : List (Nat × Instr × Nat) := [(276, .iaload, 1), (277, .iconst 1, 1), (278, .iadd, 1), (279, .iastore, 1), (280, .aload_n 0, 1), (281, .getfield 7, 3), (284, .iconst 5, 1), (285, .iload_n 3, 1), (286, .iastore, 1), (287, .iload 7, 2), (289, .ireturn, 1)]
theorem dX7_make_4 : decs cX7_make lX7_make_4 = true := by decide +kernel
abbrev lX7_act : List (Nat × Instr × Nat) := [(0, .aload_n 0, 1), (1, .invokevirtual 46, 3), (4, .aload_n 0, 1), (5, .iload_n 1, 1), (6, .iload_n 2, 1), (7, .iload_n 3, 1), (8, .iload 4, 2), (10, .invokevirtual 91, 3), (13, .istore 5, 2), (15, .iload 5, 2), (17, .ifCond .lt 7, 3), (20, .aload_n 0, 1), (21, .invokevirtual 49, 3), (24, .iload 5, 2), (26, .ireturn, 1)]
theorem dX7_act : decs cX7_act lX7_act = true := by decide +kernel
abbrev lX7_thump : List (Nat × Instr × Nat) := [(0, .aload_n 0, 1), (1, .iconst 0, 1), (2, .iload_n 1, 1), (3, .iload_n 2, 1), (4, .iload_n 3, 1), (5, .invokevirtual 95, 3), (8, .ireturn, 1)]
theorem dX7_thump : decs cX7_thump lX7_thump = true := by decide +kernel
abbrev lX7_knock : List (Nat × Instr × Nat) := [(0, .aload_n 0, 1), (1, .iconst 1, 1), (2, .iload_n 1, 1), (3, .iload_n 2, 1), (4, .iload_n 3, 1), (5, .invokevirtual 95, 3), (8, .ireturn, 1)]
theorem dX7_knock : decs cX7_knock lX7_knock = true := by decide +kernel
abbrev lX7_outs : List (Nat × Instr × Nat) := [(0, .iconst 0, 1), (1, .istore_n 1, 1), (2, .iconst 0, 1), (3, .istore_n 2, 1), (4, .iload_n 2, 1), (5, .aload_n 0, 1), (6, .getfield 7, 3), (9, .iconst 1, 1), (10, .iaload, 1), (11, .if_icmp .ge 19, 3), (14, .iload_n 1, 1), (15, .aload_n 0, 1), (16, .iconst 0, 1), (17, .iload_n 2, 1), (18, .iconst 4, 1), (19, .invokevirtual 98, 3), (22, .iadd, 1), (23, .istore_n 1, 1), (24, .iinc 2 1, 3), (27, .goto (-23), 3), (30, .iload_n 1, 1), (31, .ireturn, 1)]
theorem dX7_outs : decs cX7_outs lX7_outs = true := by decide +kernel
abbrev lX7_leaveOut : List (Nat × Instr × Nat) := [(0, .aload_n 0, 1), (1, .iconst 0, 1), (2, .iload_n 1, 1), (3, .invokevirtual 102, 3), (6, .ifCond .eq 5, 3), (9, .iconst (-1), 1), (10, .ireturn, 1), (11, .iload_n 2, 1), (12, .ifCond .eq 7, 3), (15, .iconst 1, 1), (16, .goto 4, 3), (19, .iconst 0, 1), (20, .istore_n 3, 1), (21, .aload_n 0, 1), (22, .iconst 0, 1), (23, .iload_n 1, 1), (24, .iconst 4, 1), (25, .invokevirtual 98, 3), (28, .iload_n 3, 1), (29, .if_icmp .ne 6, 3), (32, .bipush (-5), 2), (34, .ireturn, 1), (35, .aload_n 0, 1), (36, .invokevirtual 60, 3), (39, .aload_n 0, 1), (40, .getfield 7, 3), (43, .bipush 46, 2), (45, .iconst 5, 1), (46, .iload_n 1, 1), (47, .imul, 1), (48, .iadd, 1), (49, .iconst 4, 1), (50, .iadd, 1), (51, .iload_n 3, 1), (52, .iastore, 1), (53, .aload_n 0, 1), (54, .invokevirtual 106, 3), (57, .ireturn, 1)]
theorem dX7_leaveOut : decs cX7_leaveOut lX7_leaveOut = true := by decide +kernel
abbrev lX7_type : List (Nat × Instr × Nat) := [(0, .aload_n 0, 1), (1, .getfield 109, 3), (4, .bipush 60, 2), (6, .if_icmp .ne 6, 3), (9, .bipush (-3), 2), (11, .ireturn, 1), (12, .aload_n 0, 1), (13, .getfield 22, 3), (16, .aload_n 0, 1), (17, .getfield 109, 3), (20, .iload_n 1, 1), (21, .castore, 1), (22, .aload_n 0, 1), (23, .dup, 1), (24, .getfield 109, 3), (27, .iconst 1, 1), (28, .iadd, 1), (29, .putfield 109, 3), (32, .aload_n 0, 1), (33, .getfield 109, 3), (36, .ireturn, 1)]
theorem dX7_type : decs cX7_type lX7_type = true := by decide +kernel
abbrev lX7_clearText : List (Nat × Instr × Nat) := [(0, .aload_n 0, 1), (1, .getfield 109, 3), (4, .istore_n 1, 1), (5, .aload_n 0, 1), (6, .iconst 0, 1), (7, .putfield 109, 3), (10, .iload_n 1, 1), (11, .ireturn, 1)]
theorem dX7_clearText : decs cX7_clearText lX7_clearText = true := by decide +kernel
abbrev lX7_sees : List (Nat × Instr × Nat) := [(0, .aload_n 0, 1), (1, .getfield 112, 3), (4, .aload_n 0, 1), (5, .getfield 109, 3), (8, .if_icmp .ge 24, 3), (11, .aload_n 0, 1), (12, .getfield 22, 3), (15, .aload_n 0, 1), (16, .getfield 112, 3), (19, .caload, 1), (20, .iload_n 1, 1), (21, .iload_n 2, 1), (22, .invokestatic 63, 3), (25, .ifCond .eq 7, 3), (28, .iconst 1, 1), (29, .goto 4, 3), (32, .iconst 0, 1), (33, .ireturn, 1)]
theorem dX7_sees : decs cX7_sees lX7_sees = true := by decide +kernel
abbrev lX7_number : List (Nat × Instr × Nat) := [(0, .aload_n 0, 1), (1, .bipush 48, 2), (3, .bipush 57, 2), (5, .invokevirtual 115, 3), (8, .ifCond .ne 6, 3), (11, .bipush (-5), 2), (13, .ireturn, 1), (14, .aload_n 0, 1), (15, .getfield 22, 3), (18, .aload_n 0, 1), (19, .getfield 112, 3), (22, .caload, 1), (23, .bipush 48, 2), (25, .isub, 1), (26, .istore_n 1, 1), (27, .aload_n 0, 1), (28, .dup, 1), (29, .getfield 112, 3), (32, .iconst 1, 1), (33, .iadd, 1), (34, .putfield 112, 3), (37, .iconst 1, 1), (38, .istore_n 2, 1), (39, .iload_n 2, 1), (40, .bipush 6, 2), (42, .if_icmp .ge 52, 3), (45, .iload_n 1, 1), (46, .ifCond .le 48, 3), (49, .aload_n 0, 1), (50, .bipush 48, 2), (52, .bipush 57, 2), (54, .invokevirtual 115, 3), (57, .ifCond .eq 37, 3), (60, .bipush 10, 2), (62, .iload_n 1, 1), (63, .imul, 1), (64, .aload_n 0, 1), (65, .getfield 22, 3), (68, .aload_n 0, 1), (69, .getfield 112, 3), (72, .caload, 1), (73, .iadd, 1), (74, .bipush 48, 2), (76, .isub, 1), (77, .istore_n 1, 1), (78, .aload_n 0, 1), (79, .dup, 1), (80, .getfield 112, 3), (83, .iconst 1, 1), (84, .iadd, 1), (85, .putfield 112, 3), (88, .iinc 2 1, 3), (91, .goto (-52), 3), (94, .iload_n 1, 1), (95, .ireturn, 1)]
theorem dX7_number : decs cX7_number lX7_number = true := by decide +kernel
abbrev lX7_takes : List (Nat × Instr × Nat) := [(0, .aload_n 0, 1), (1, .iload_n 1, 1), (2, .iload_n 1, 1), (3, .invokevirtual 115, 3), (6, .istore_n 2, 1), (7, .aload_n 0, 1), (8, .dup, 1), (9, .getfield 112, 3), (12, .iload_n 2, 1), (13, .ifCond .eq 7, 3), (16, .iconst 1, 1), (17, .goto 4, 3), (20, .iconst 0, 1), (21, .iadd, 1), (22, .putfield 112, 3), (25, .iload_n 2, 1), (26, .ireturn, 1)]
theorem dX7_takes : decs cX7_takes lX7_takes = true := by decide +kernel
abbrev lX7_order : List (Nat × Instr × Nat) := [(0, .aload_n 0, 1), (1, .bipush 116, 2), (3, .bipush 116, 2), (5, .invokevirtual 115, 3), (8, .ifCond .eq 7, 3), (11, .iconst 0, 1), (12, .goto 19, 3), (15, .aload_n 0, 1), (16, .bipush 107, 2), (18, .bipush 107, 2), (20, .invokevirtual 115, 3), (23, .ifCond .eq 7, 3), (26, .iconst 1, 1), (27, .goto 4, 3), (30, .iconst (-1), 1), (31, .istore_n 2, 1), (32, .iload_n 2, 1), (33, .ifCond .ge 5, 3), (36, .iconst 0, 1), (37, .ireturn, 1), (38, .aload_n 0, 1), (39, .dup, 1), (40, .getfield 112, 3), (43, .iconst 1, 1), (44, .iadd, 1), (45, .putfield 112, 3), (48, .aload_n 0, 1), (49, .invokevirtual 119, 3), (52, .istore_n 3, 1), (53, .iload_n 3, 1), (54, .ifCond .lt 12, 3), (57, .aload_n 0, 1), (58, .bipush 64, 2), (60, .invokevirtual 122, 3), (63, .ifCond .ne 5, 3), (66, .iconst 0, 1), (67, .ireturn, 1), (68, .aload_n 0, 1), (69, .invokevirtual 119, 3), (72, .istore 4, 2), (74, .iload 4, 2), (76, .ifCond .ge 5, 3), (79, .iconst 0, 1), (80, .ireturn, 1), (81, .sipush 1000, 3), (84, .istore 5, 2), (86, .aload_n 0, 1), (87, .bipush 42, 2), (89, .invokevirtual 122, 3), (92, .ifCond .eq 16, 3), (95, .aload_n 0, 1), (96, .invokevirtual 119, 3), (99, .istore 5, 2), (101, .iload 5, 2), (103, .ifCond .ge 5, 3), (106, .iconst 0, 1), (107, .ireturn, 1), (108, .aload_n 0, 1), (109, .iload_n 1, 1), (110, .ifCond .eq 16, 3), (113, .aload_n 0, 1), (114, .iload_n 2, 1), (115, .iload_n 3, 1), (116, .iload 4, 2), (118, .iload 5, 2), (120, .invokevirtual 91, 3), (123, .goto 4, 3), (126, .iconst 0, 1), (127, .putfield 126, 3), (130, .iconst 1, 1), (131, .ireturn, 1)]
theorem dX7_order : decs cX7_order lX7_order = true := by decide +kernel
abbrev lX7_orders : List (Nat × Instr × Nat) := [(0, .aload_n 0, 1), (1, .iconst 0, 1), (2, .putfield 112, 3), (5, .iconst 0, 1), (6, .istore_n 2, 1), (7, .iconst 1, 1), (8, .istore_n 3, 1), (9, .iload_n 3, 1), (10, .ifCond .eq 39, 3), (13, .aload_n 0, 1), (14, .iload_n 1, 1), (15, .invokevirtual 129, 3), (18, .ifCond .ne 6, 3), (21, .bipush (-5), 2), (23, .ireturn, 1), (24, .aload_n 0, 1), (25, .getfield 126, 3), (28, .ifCond .ge 8, 3), (31, .aload_n 0, 1), (32, .getfield 126, 3), (35, .ireturn, 1), (36, .iinc 2 1, 3), (39, .aload_n 0, 1), (40, .bipush 59, 2), (42, .invokevirtual 122, 3), (45, .istore_n 3, 1), (46, .goto (-37), 3), (49, .aload_n 0, 1), (50, .getfield 112, 3), (53, .aload_n 0, 1), (54, .getfield 109, 3), (57, .if_icmp .ge 8, 3), (60, .bipush (-5), 2), (62, .goto 4, 3), (65, .iload_n 2, 1), (66, .ireturn, 1)]
theorem dX7_orders : decs cX7_orders lX7_orders = true := by decide +kernel
abbrev lX7_readOrders : List (Nat × Instr × Nat) := [(0, .aload_n 0, 1), (1, .iconst 0, 1), (2, .invokevirtual 133, 3), (5, .ifCond .ge 11, 3), (8, .bipush (-100), 2), (10, .aload_n 0, 1), (11, .getfield 112, 3), (14, .isub, 1), (15, .ireturn, 1), (16, .aload_n 0, 1), (17, .invokevirtual 46, 3), (20, .aload_n 0, 1), (21, .iconst 1, 1), (22, .invokevirtual 133, 3), (25, .istore_n 1, 1), (26, .iload_n 1, 1), (27, .ifCond .ge 9, 3), (30, .aload_n 0, 1), (31, .invokevirtual 137, 3), (34, .iload_n 1, 1), (35, .ireturn, 1), (36, .aload_n 0, 1), (37, .invokevirtual 49, 3), (40, .iload_n 1, 1), (41, .ireturn, 1)]
theorem dX7_readOrders : decs cX7_readOrders lX7_readOrders = true := by decide +kernel
abbrev lX7_findMarks : List (Nat × Instr × Nat) := [(0, .aload_n 0, 1), (1, .iconst 0, 1), (2, .putfield 140, 3), (5, .iconst 0, 1), (6, .istore_n 2, 1), (7, .iload_n 2, 1), (8, .aload_n 0, 1), (9, .getfield 7, 3), (12, .iconst 1, 1), (13, .iaload, 1), (14, .if_icmp .ge 128, 3), (17, .aload_n 0, 1), (18, .iconst 0, 1), (19, .iload_n 2, 1), (20, .iload_n 1, 1), (21, .invokevirtual 143, 3), (24, .istore_n 3, 1), (25, .iload_n 3, 1), (26, .ldc 39, 2), (28, .if_icmp .eq 108, 3), (31, .aload_n 0, 1), (32, .iconst 0, 1), (33, .iload_n 2, 1), (34, .iconst 4, 1), (35, .invokevirtual 98, 3), (38, .ifCond .ne 98, 3), (41, .aload_n 0, 1), (42, .getfield 140, 3), (45, .ifCond .eq 18, 3), (48, .iload_n 3, 1), (49, .aload_n 0, 1), (50, .getfield 26, 3), (53, .aload_n 0, 1), (54, .getfield 140, 3), (57, .iconst 1, 1), (58, .isub, 1), (59, .iaload, 1), (60, .if_icmp .le 76, 3), (63, .aload_n 0, 1), (64, .getfield 26, 3), (67, .aload_n 0, 1), (68, .getfield 140, 3), (71, .iload_n 3, 1), (72, .iastore, 1), (73, .aload_n 0, 1), (74, .getfield 29, 3), (77, .aload_n 0, 1), (78, .getfield 140, 3), (81, .iload_n 3, 1), (82, .aload_n 0, 1), (83, .iconst 0, 1), (84, .iload_n 2, 1), (85, .iconst 1, 1), (86, .invokevirtual 98, 3), (89, .aload_n 0, 1), (90, .iconst 0, 1), (91, .iload_n 2, 1), (92, .iconst 3, 1), (93, .invokevirtual 98, 3), (96, .aload_n 0, 1), (97, .iconst 0, 1), (98, .iload_n 2, 1), (99, .iconst 0, 1), (100, .invokevirtual 98, 3), (103, .aload_n 0, 1), (104, .iload_n 1, 1), (105, .iconst 0, 1), (106, .invokevirtual 71, 3), (109, .invokestatic 85, 3), (112, .imul, 1), (113, .iadd, 1), (114, .isub, 1), (115, .iastore, 1), (116, .aload_n 0, 1), (117, .getfield 32, 3), (120, .aload_n 0, 1), (121, .getfield 140, 3), (124, .iload_n 2, 1), (125, .iastore, 1), (126, .aload_n 0, 1), (127, .dup, 1), (128, .getfield 140, 3), (131, .iconst 1, 1), (132, .iadd, 1), (133, .putfield 140, 3), (136, .iinc 2 1, 3), (139, .goto (-132), 3), (142, .return_, 1)]
theorem dX7_findMarks : decs cX7_findMarks lX7_findMarks = true := by decide +kernel
abbrev lX7_errorAt : List (Nat × Instr × Nat) := [(0, .aload_n 0, 1), (1, .iload_n 1, 1), (2, .invokevirtual 146, 3), (5, .aload_n 0, 1), (6, .getfield 140, 3), (9, .iconst 2, 1), (10, .if_icmp .ge 26, 3), (13, .aload_n 0, 1), (14, .getfield 140, 3), (17, .ifCond .ne 7, 3), (20, .lconst 0, 1), (21, .goto 14, 3), (24, .ldc2_w 150, 3), (27, .aload_n 0, 1), (28, .getfield 29, 3), (31, .iconst 0, 1), (32, .iaload, 1), (33, .i2l, 1), (34, .lmul, 1), (35, .lreturn, 1), (36, .iconst 0, 1), (37, .istore_n 3, 1), (38, .iload_n 3, 1), (39, .aload_n 0, 1), (40, .getfield 140, 3), (43, .iconst 2, 1), (44, .isub, 1), (45, .if_icmp .ge 21, 3), (48, .aload_n 0, 1), (49, .getfield 26, 3), (52, .iload_n 3, 1), (53, .iconst 1, 1), (54, .iadd, 1), (55, .iaload, 1), (56, .iload_n 2, 1), (57, .if_icmp .gt 9, 3), (60, .iinc 3 1, 3), (63, .goto (-25), 3), (66, .ldc2_w 150, 3), (69, .aload_n 0, 1), (70, .getfield 29, 3), (73, .iload_n 3, 1), (74, .iconst 1, 1), (75, .iadd, 1), (76, .iaload, 1), (77, .aload_n 0, 1), (78, .getfield 29, 3), (81, .iload_n 3, 1), (82, .iaload, 1), (83, .isub, 1), (84, .i2l, 1), (85, .lmul, 1), (86, .iload_n 2, 1), (87, .aload_n 0, 1), (88, .getfield 26, 3), (91, .iload_n 3, 1), (92, .iaload, 1), (93, .isub, 1), (94, .i2l, 1), (95, .lmul, 1), (96, .lstore 4, 2), (98, .ldc2_w 150, 3), (101, .aload_n 0, 1), (102, .getfield 29, 3), (105, .iload_n 3, 1), (106, .iaload, 1), (107, .i2l, 1), (108, .lmul, 1), (109, .lload 4, 2), (111, .aload_n 0, 1), (112, .getfield 26, 3), (115, .iload_n 3, 1), (116, .iconst 1, 1), (117, .iadd, 1), (118, .iaload, 1), (119, .aload_n 0, 1), (120, .getfield 26, 3), (123, .iload_n 3, 1), (124, .iaload, 1), (125, .isub, 1), (126, .i2l, 1), (127, .invokestatic 80, 3), (130, .ladd, 1), (131, .lreturn, 1)]
theorem dX7_errorAt : decs cX7_errorAt lX7_errorAt = true := by decide +kernel
abbrev lX7_rightOf : List (Nat × Instr × Nat) := [(0, .aload_n 0, 1), (1, .iconst 1, 1), (2, .iload_n 1, 1), (3, .iload_n 2, 1), (4, .invokevirtual 143, 3), (7, .istore_n 3, 1), (8, .ldc2_w 150, 3), (11, .iload_n 3, 1), (12, .i2l, 1), (13, .lmul, 1), (14, .aload_n 0, 1), (15, .iload_n 2, 1), (16, .iload_n 3, 1), (17, .invokevirtual 152, 3), (20, .lsub, 1), (21, .lreturn, 1)]
theorem dX7_rightOf : decs cX7_rightOf lX7_rightOf = true := by decide +kernel
abbrev lX7_knocksHeard : List (Nat × Instr × Nat) := [(0, .iconst 0, 1), (1, .istore_n 2, 1), (2, .iconst 0, 1), (3, .istore_n 3, 1), (4, .iload_n 3, 1), (5, .aload_n 0, 1), (6, .getfield 7, 3), (9, .iconst 2, 1), (10, .iaload, 1), (11, .if_icmp .ge 29, 3), (14, .iload_n 2, 1), (15, .aload_n 0, 1), (16, .iconst 1, 1), (17, .iload_n 3, 1), (18, .iload_n 1, 1), (19, .invokevirtual 143, 3), (22, .ldc 39, 2), (24, .if_icmp .ne 7, 3), (27, .iconst 0, 1), (28, .goto 4, 3), (31, .iconst 1, 1), (32, .iadd, 1), (33, .istore_n 2, 1), (34, .iinc 3 1, 3), (37, .goto (-33), 3), (40, .iload_n 2, 1), (41, .ireturn, 1)]
theorem dX7_knocksHeard : decs cX7_knocksHeard lX7_knocksHeard = true := by decide +kernel
abbrev lX7_ear : List (Nat × Instr × Nat) := [(0, .aload_n 0, 1), (1, .iload_n 1, 1), (2, .invokevirtual 67, 3), (5, .ifCond .eq 5, 3), (8, .iconst (-1), 1), (9, .ireturn, 1), (10, .aload_n 0, 1), (11, .iload_n 1, 1), (12, .invokevirtual 146, 3), (15, .iload_n 2, 1), (16, .tableswitch 119 0 6 #[44, 51, 58, 69, 80, 85, 113], 44), (60, .aload_n 0, 1), (61, .iload_n 1, 1), (62, .iconst 0, 1), (63, .invokevirtual 71, 3), (66, .ireturn, 1), (67, .aload_n 0, 1), (68, .iload_n 1, 1), (69, .iconst 1, 1), (70, .invokevirtual 71, 3), (73, .ireturn, 1), (74, .aload_n 0, 1), (75, .iload_n 1, 1), (76, .iconst 2, 1), (77, .invokevirtual 71, 3), (80, .sipush 1000, 3), (83, .iadd, 1), (84, .ireturn, 1), (85, .aload_n 0, 1), (86, .iload_n 1, 1), (87, .iconst 3, 1), (88, .invokevirtual 71, 3), (91, .sipush 1000, 3), (94, .iadd, 1), (95, .ireturn, 1), (96, .aload_n 0, 1), (97, .getfield 140, 3), (100, .ireturn, 1), (101, .aload_n 0, 1), (102, .getfield 140, 3), (105, .ifCond .ne 8, 3), (108, .bipush (-5), 2), (110, .goto 18, 3), (113, .aload_n 0, 1), (114, .getfield 26, 3), (117, .aload_n 0, 1), (118, .getfield 140, 3), (121, .iconst 1, 1), (122, .isub, 1), (123, .iaload, 1), (124, .sipush 10000, 3), (127, .iadd, 1), (128, .ireturn, 1), (129, .aload_n 0, 1), (130, .iload_n 1, 1), (131, .invokevirtual 156, 3), (134, .ireturn, 1), (135, .bipush (-2), 2), (137, .ireturn, 1)]
theorem dX7_ear : decs cX7_ear lX7_ear = true := by decide +kernel
abbrev lX7_clock : List (Nat × Instr × Nat) := [(0, .aload_n 0, 1), (1, .iload_n 1, 1), (2, .invokevirtual 67, 3), (5, .ifCond .eq 5, 3), (8, .iconst (-1), 1), (9, .ireturn, 1), (10, .iload_n 2, 1), (11, .iconst 0, 1), (12, .ldc 160, 2), (14, .invokestatic 63, 3), (17, .ifCond .eq 16, 3), (20, .aload_n 0, 1), (21, .iload_n 1, 1), (22, .iload_n 2, 1), (23, .invokevirtual 88, 3), (26, .sipush 10000, 3), (29, .iadd, 1), (30, .goto 5, 3), (33, .bipush (-2), 2), (35, .ireturn, 1)]
theorem dX7_clock : decs cX7_clock lX7_clock = true := by decide +kernel
abbrev lX7_mark : List (Nat × Instr × Nat) := [(0, .aload_n 0, 1), (1, .iload_n 1, 1), (2, .invokevirtual 67, 3), (5, .ifCond .eq 5, 3), (8, .iconst (-1), 1), (9, .ireturn, 1), (10, .iload_n 2, 1), (11, .ifCond .lt 12, 3), (14, .iload_n 3, 1), (15, .iconst 0, 1), (16, .iconst 2, 1), (17, .invokestatic 63, 3), (20, .ifCond .ne 6, 3), (23, .bipush (-2), 2), (25, .ireturn, 1), (26, .aload_n 0, 1), (27, .iload_n 1, 1), (28, .invokevirtual 146, 3), (31, .iload_n 2, 1), (32, .aload_n 0, 1), (33, .getfield 140, 3), (36, .if_icmp .lt 6, 3), (39, .bipush (-5), 2), (41, .ireturn, 1), (42, .iload_n 3, 1), (43, .ifCond .ne 16, 3), (46, .aload_n 0, 1), (47, .getfield 26, 3), (50, .iload_n 2, 1), (51, .iaload, 1), (52, .sipush 10000, 3), (55, .iadd, 1), (56, .goto 27, 3), (59, .iload_n 3, 1), (60, .iconst 1, 1), (61, .if_icmp .ne 16, 3), (64, .aload_n 0, 1), (65, .getfield 29, 3), (68, .iload_n 2, 1), (69, .iaload, 1), (70, .sipush 10000, 3), (73, .iadd, 1), (74, .goto 9, 3), (77, .aload_n 0, 1), (78, .getfield 32, 3), (81, .iload_n 2, 1), (82, .iaload, 1), (83, .ireturn, 1)]
theorem dX7_mark : decs cX7_mark lX7_mark = true := by decide +kernel
abbrev lX7_error : List (Nat × Instr × Nat) := [(0, .aload_n 0, 1), (1, .iload_n 1, 1), (2, .invokevirtual 67, 3), (5, .ifCond .eq 8, 3), (8, .iconst (-1), 1), (9, .invokestatic 161, 3), (12, .lreturn, 1), (13, .iload_n 2, 1), (14, .sipush (-10000), 3), (17, .ldc 165, 2), (19, .invokestatic 63, 3), (22, .ifCond .eq 12, 3), (25, .aload_n 0, 1), (26, .iload_n 1, 1), (27, .iload_n 2, 1), (28, .invokevirtual 152, 3), (31, .goto 8, 3), (34, .bipush (-2), 2), (36, .invokestatic 161, 3), (39, .lreturn, 1)]
theorem dX7_error : decs cX7_error lX7_error = true := by decide +kernel
abbrev lX7_stalest : List (Nat × Instr × Nat) := [(0, .bipush (-5), 2), (2, .istore_n 1, 1), (3, .bipush 10, 2), (5, .istore_n 2, 1), (6, .iconst 0, 1), (7, .istore_n 3, 1), (8, .iload_n 3, 1), (9, .aload_n 0, 1), (10, .getfield 7, 3), (13, .iconst 0, 1), (14, .iaload, 1), (15, .if_icmp .ge 49, 3), (18, .aload_n 0, 1), (19, .iload_n 3, 1), (20, .invokevirtual 146, 3), (23, .aload_n 0, 1), (24, .getfield 140, 3), (27, .ifCond .ne 7, 3), (30, .iconst (-1), 1), (31, .goto 14, 3), (34, .aload_n 0, 1), (35, .getfield 32, 3), (38, .aload_n 0, 1), (39, .getfield 140, 3), (42, .iconst 1, 1), (43, .isub, 1), (44, .iaload, 1), (45, .istore 4, 2), (47, .iload 4, 2), (49, .iload_n 2, 1), (50, .if_icmp .ge 8, 3), (53, .iload_n 3, 1), (54, .istore_n 1, 1), (55, .iload 4, 2), (57, .istore_n 2, 1), (58, .iinc 3 1, 3), (61, .goto (-53), 3), (64, .iload_n 1, 1), (65, .ireturn, 1)]
theorem dX7_stalest : decs cX7_stalest lX7_stalest = true := by decide +kernel
abbrev lX7_heard : List (Nat × Instr × Nat) := [(0, .iload_n 1, 1), (1, .ifCond .eq 7, 3), (4, .iconst 1, 1), (5, .goto 4, 3), (8, .iconst 0, 1), (9, .istore 4, 2), (11, .aload_n 0, 1), (12, .iload 4, 2), (14, .iload_n 2, 1), (15, .invokevirtual 102, 3), (18, .ifCond .ne 11, 3), (21, .aload_n 0, 1), (22, .iload_n 3, 1), (23, .invokevirtual 67, 3), (26, .ifCond .eq 5, 3), (29, .iconst (-1), 1), (30, .ireturn, 1), (31, .aload_n 0, 1), (32, .iload 4, 2), (34, .iload_n 2, 1), (35, .iload_n 3, 1), (36, .invokevirtual 143, 3), (39, .istore 5, 2), (41, .iload 5, 2), (43, .ldc 39, 2), (45, .if_icmp .ne 8, 3), (48, .bipush (-5), 2), (50, .goto 9, 3), (53, .iload 5, 2), (55, .sipush 10000, 3), (58, .iadd, 1), (59, .ireturn, 1)]
theorem dX7_heard : decs cX7_heard lX7_heard = true := by decide +kernel
abbrev lX7_putRight : List (Nat × Instr × Nat) := [(0, .aload_n 0, 1), (1, .iconst 1, 1), (2, .iload_n 1, 1), (3, .invokevirtual 102, 3), (6, .ifCond .ne 11, 3), (9, .aload_n 0, 1), (10, .iload_n 2, 1), (11, .invokevirtual 67, 3), (14, .ifCond .eq 8, 3), (17, .iconst (-1), 1), (18, .invokestatic 161, 3), (21, .lreturn, 1), (22, .aload_n 0, 1), (23, .iconst 1, 1), (24, .iload_n 1, 1), (25, .iload_n 2, 1), (26, .invokevirtual 143, 3), (29, .ldc 39, 2), (31, .if_icmp .ne 11, 3), (34, .bipush (-5), 2), (36, .invokestatic 161, 3), (39, .goto 9, 3), (42, .aload_n 0, 1), (43, .iload_n 1, 1), (44, .iload_n 2, 1), (45, .invokevirtual 166, 3), (48, .lreturn, 1)]
theorem dX7_putRight : decs cX7_putRight lX7_putRight = true := by decide +kernel
abbrev lX7_hearers : List (Nat × Instr × Nat) := [(0, .iconst 0, 1), (1, .istore_n 2, 1), (2, .iconst 0, 1), (3, .istore_n 3, 1), (4, .iload_n 3, 1), (5, .aload_n 0, 1), (6, .getfield 7, 3), (9, .iconst 0, 1), (10, .iaload, 1), (11, .if_icmp .ge 29, 3), (14, .iload_n 2, 1), (15, .aload_n 0, 1), (16, .iconst 1, 1), (17, .iload_n 1, 1), (18, .iload_n 3, 1), (19, .invokevirtual 143, 3), (22, .ldc 39, 2), (24, .if_icmp .ne 7, 3), (27, .iconst 0, 1), (28, .goto 4, 3), (31, .iconst 1, 1), (32, .iadd, 1), (33, .istore_n 2, 1), (34, .iinc 3 1, 3), (37, .goto (-33), 3), (40, .iload_n 2, 1), (41, .ireturn, 1)]
theorem dX7_hearers : decs cX7_hearers lX7_hearers = true := by decide +kernel
abbrev lX7_findRight : List (Nat × Instr × Nat) := [(0, .iconst 0, 1), (1, .istore_n 2, 1), (2, .iload_n 2, 1), (3, .aload_n 0, 1), (4, .getfield 7, 3), (7, .iconst 0, 1), (8, .iaload, 1), (9, .if_icmp .ge 37, 3), (12, .aload_n 0, 1), (13, .getfield 35, 3), (16, .iload_n 2, 1), (17, .aload_n 0, 1), (18, .iconst 1, 1), (19, .iload_n 1, 1), (20, .iload_n 2, 1), (21, .invokevirtual 143, 3), (24, .ldc 39, 2), (26, .if_icmp .ne 7, 3), (29, .lconst 0, 1), (30, .goto 9, 3), (33, .aload_n 0, 1), (34, .iload_n 1, 1), (35, .iload_n 2, 1), (36, .invokevirtual 166, 3), (39, .lastore, 1), (40, .iinc 2 1, 3), (43, .goto (-41), 3), (46, .return_, 1)]
theorem dX7_findRight : decs cX7_findRight lX7_findRight = true := by decide +kernel
abbrev lX7_beginning : List (Nat × Instr × Nat) := [(0, .aload_n 0, 1), (1, .getfield 35, 3), (4, .iload_n 2, 1), (5, .laload, 1), (6, .ldc2_w 150, 3), (9, .aload_n 0, 1), (10, .iconst 1, 1), (11, .iload_n 1, 1), (12, .iconst 3, 1), (13, .invokevirtual 98, 3), (16, .i2l, 1), (17, .lmul, 1), (18, .iload_n 3, 1), (19, .aload_n 0, 1), (20, .iload_n 2, 1), (21, .iconst 0, 1), (22, .invokevirtual 71, 3), (25, .invokestatic 85, 3), (28, .i2l, 1), (29, .lmul, 1), (30, .lsub, 1), (31, .lreturn, 1)]
theorem dX7_beginning : decs cX7_beginning lX7_beginning = true := by decide +kernel
abbrev lX7_spreadAt : List (Nat × Instr × Nat) := [(0, .iconst 0, 1), (1, .istore_n 3, 1), (2, .iconst 0, 1), (3, .istore 4, 2), (5, .iload 4, 2), (7, .aload_n 0, 1), (8, .getfield 7, 3), (11, .iconst 0, 1), (12, .iaload, 1), (13, .if_icmp .ge 88, 3), (16, .aload_n 0, 1), (17, .iconst 1, 1), (18, .iload_n 1, 1), (19, .iload 4, 2), (21, .invokevirtual 143, 3), (24, .ldc 39, 2), (26, .if_icmp .eq 69, 3), (29, .aload_n 0, 1), (30, .iload_n 1, 1), (31, .iload 4, 2), (33, .iload_n 2, 1), (34, .invokevirtual 169, 3), (37, .lstore 5, 2), (39, .aload_n 0, 1), (40, .iload_n 3, 1), (41, .ifCond .eq 13, 3), (44, .lload 5, 2), (46, .aload_n 0, 1), (47, .getfield 173, 3), (50, .lcmp, 1), (51, .ifCond .ge 8, 3), (54, .lload 5, 2), (56, .goto 7, 3), (59, .aload_n 0, 1), (60, .getfield 173, 3), (63, .putfield 173, 3), (66, .aload_n 0, 1), (67, .iload_n 3, 1), (68, .ifCond .eq 13, 3), (71, .lload 5, 2), (73, .aload_n 0, 1), (74, .getfield 177, 3), (77, .lcmp, 1), (78, .ifCond .le 8, 3), (81, .lload 5, 2), (83, .goto 7, 3), (86, .aload_n 0, 1), (87, .getfield 177, 3), (90, .putfield 177, 3), (93, .iconst 1, 1), (94, .istore_n 3, 1), (95, .iinc 4 1, 3), (98, .goto (-93), 3), (101, .aload_n 0, 1), (102, .getfield 177, 3), (105, .aload_n 0, 1), (106, .getfield 173, 3), (109, .lsub, 1), (110, .lreturn, 1)]
theorem dX7_spreadAt : decs cX7_spreadAt lX7_spreadAt = true := by decide +kernel
abbrev lX7_placeOf : List (Nat × Instr × Nat) := [(0, .aload_n 0, 1), (1, .iload_n 1, 1), (2, .invokevirtual 180, 3), (5, .iconst 0, 1), (6, .istore_n 2, 1), (7, .lconst 0, 1), (8, .lstore_n 3, 1), (9, .iconst 0, 1), (10, .istore 5, 2), (12, .iload 5, 2), (14, .sipush 1000, 3), (17, .if_icmp .gt 36, 3), (20, .aload_n 0, 1), (21, .iload_n 1, 1), (22, .iload 5, 2), (24, .invokevirtual 183, 3), (27, .lstore 6, 2), (29, .iload 5, 2), (31, .ifCond .eq 10, 3), (34, .lload 6, 2), (36, .lload_n 3, 1), (37, .lcmp, 1), (38, .ifCond .ge 9, 3), (41, .iload 5, 2), (43, .istore_n 2, 1), (44, .lload 6, 2), (46, .lstore_n 3, 1), (47, .iinc 5 1, 3), (50, .goto (-38), 3), (53, .iload_n 2, 1), (54, .ireturn, 1)]
theorem dX7_placeOf : decs cX7_placeOf lX7_placeOf = true := by decide +kernel
abbrev lX7_worst : List (Nat × Instr × Nat) := [(0, .bipush (-5), 2), (2, .istore 5, 2), (4, .ldc2_w 186, 3), (7, .lstore 6, 2), (9, .iconst 0, 1), (10, .istore 8, 2), (12, .iload 8, 2), (14, .aload_n 0, 1), (15, .getfield 7, 3), (18, .iconst 0, 1), (19, .iaload, 1), (20, .if_icmp .ge 85, 3), (23, .aload_n 0, 1), (24, .iconst 1, 1), (25, .iload_n 1, 1), (26, .iload 8, 2), (28, .invokevirtual 143, 3), (31, .ldc 39, 2), (33, .if_icmp .eq 66, 3), (36, .aload_n 0, 1), (37, .iload_n 1, 1), (38, .iload 8, 2), (40, .iload_n 2, 1), (41, .invokevirtual 169, 3), (44, .lload_n 3, 1), (45, .lsub, 1), (46, .lstore 9, 2), (48, .lload 9, 2), (50, .lconst 0, 1), (51, .lcmp, 1), (52, .ifCond .ge 9, 3), (55, .lload 9, 2), (57, .lneg, 1), (58, .goto 5, 3), (61, .lload 9, 2), (63, .lstore 9, 2), (65, .lload 9, 2), (67, .lload 6, 2), (69, .lcmp, 1), (70, .ifCond .le 8, 3), (73, .iload 8, 2), (75, .goto 5, 3), (78, .iload 5, 2), (80, .istore 5, 2), (82, .lload 9, 2), (84, .lload 6, 2), (86, .lcmp, 1), (87, .ifCond .le 8, 3), (90, .lload 9, 2), (92, .goto 5, 3), (95, .lload 6, 2), (97, .lstore 6, 2), (99, .iinc 8 1, 3), (102, .goto (-90), 3), (105, .iload 5, 2), (107, .ireturn, 1)]
theorem dX7_worst : decs cX7_worst lX7_worst = true := by decide +kernel
abbrev lX7_found : List (Nat × Instr × Nat) := [(0, .aload_n 0, 1), (1, .iconst 1, 1), (2, .iload_n 1, 1), (3, .invokevirtual 102, 3), (6, .ifCond .eq 8, 3), (9, .iconst (-1), 1), (10, .invokestatic 161, 3), (13, .lreturn, 1), (14, .iload_n 2, 1), (15, .iconst 0, 1), (16, .iconst 5, 1), (17, .invokestatic 63, 3), (20, .ifCond .ne 9, 3), (23, .bipush (-2), 2), (25, .invokestatic 161, 3), (28, .lreturn, 1), (29, .aload_n 0, 1), (30, .iload_n 1, 1), (31, .invokevirtual 188, 3), (34, .istore_n 3, 1), (35, .iload_n 2, 1), (36, .iconst 3, 1), (37, .if_icmp .ne 6, 3), (40, .iload_n 3, 1), (41, .i2l, 1), (42, .lreturn, 1), (43, .iload_n 3, 1), (44, .iconst 2, 1), (45, .if_icmp .ge 9, 3), (48, .bipush (-4), 2), (50, .invokestatic 161, 3), (53, .lreturn, 1), (54, .aload_n 0, 1), (55, .iload_n 1, 1), (56, .invokevirtual 191, 3), (59, .istore 4, 2), (61, .aload_n 0, 1), (62, .iload_n 1, 1), (63, .iload 4, 2), (65, .invokevirtual 183, 3), (68, .lstore 5, 2), (70, .aload_n 0, 1), (71, .getfield 173, 3), (74, .aload_n 0, 1), (75, .getfield 177, 3), (78, .ladd, 1), (79, .ldc2_w 194, 3), (82, .invokestatic 80, 3), (85, .lstore 7, 2), (87, .iload_n 2, 1), (88, .tableswitch 69 0 4 #[36, 40, 43, 69, 46], 36), (124, .iload 4, 2), (126, .i2l, 1), (127, .lreturn, 1), (128, .lload 7, 2), (130, .lreturn, 1), (131, .lload 5, 2), (133, .lreturn, 1), (134, .lload 5, 2), (136, .ldc2_w 150, 3), (139, .aload_n 0, 1), (140, .getfield 7, 3), (143, .iconst 4, 1), (144, .iaload, 1), (145, .i2l, 1), (146, .lmul, 1), (147, .lcmp, 1), (148, .ifCond .gt 7, 3), (151, .lconst 1, 1), (152, .goto 4, 3), (155, .lconst 0, 1), (156, .lreturn, 1), (157, .aload_n 0, 1), (158, .iload_n 1, 1), (159, .iload 4, 2), (161, .lload 7, 2), (163, .invokevirtual 196, 3), (166, .i2l, 1), (167, .lreturn, 1)]
theorem dX7_found : decs cX7_found lX7_found = true := by decide +kernel
abbrev lX7_spread : List (Nat × Instr × Nat) := [(0, .aload_n 0, 1), (1, .iconst 1, 1), (2, .iload_n 1, 1), (3, .invokevirtual 102, 3), (6, .ifCond .eq 8, 3), (9, .iconst (-1), 1), (10, .invokestatic 161, 3), (13, .lreturn, 1), (14, .iload_n 2, 1), (15, .iconst 0, 1), (16, .sipush 1000, 3), (19, .invokestatic 63, 3), (22, .ifCond .ne 9, 3), (25, .bipush (-2), 2), (27, .invokestatic 161, 3), (30, .lreturn, 1), (31, .aload_n 0, 1), (32, .iload_n 1, 1), (33, .invokevirtual 188, 3), (36, .iconst 2, 1), (37, .if_icmp .ge 9, 3), (40, .bipush (-4), 2), (42, .invokestatic 161, 3), (45, .lreturn, 1), (46, .aload_n 0, 1), (47, .iload_n 1, 1), (48, .invokevirtual 180, 3), (51, .aload_n 0, 1), (52, .iload_n 1, 1), (53, .iload_n 2, 1), (54, .invokevirtual 183, 3), (57, .lreturn, 1)]
theorem dX7_spread : decs cX7_spread lX7_spread = true := by decide +kernel
abbrev lX7_truth : List (Nat × Instr × Nat) := [(0, .aload_n 0, 1), (1, .iconst 1, 1), (2, .iload_n 1, 1), (3, .invokevirtual 102, 3), (6, .ifCond .eq 5, 3), (9, .iconst (-1), 1), (10, .ireturn, 1), (11, .iload_n 2, 1), (12, .iconst 0, 1), (13, .iconst 2, 1), (14, .invokestatic 63, 3), (17, .ifCond .ne 6, 3), (20, .bipush (-2), 2), (22, .ireturn, 1), (23, .iload_n 2, 1), (24, .iconst 2, 1), (25, .if_icmp .ge 11, 3), (28, .aload_n 0, 1), (29, .iconst 1, 1), (30, .iload_n 1, 1), (31, .iload_n 2, 1), (32, .invokevirtual 98, 3), (35, .ireturn, 1), (36, .aload_n 0, 1), (37, .iload_n 1, 1), (38, .invokevirtual 188, 3), (41, .iconst 2, 1), (42, .if_icmp .ge 8, 3), (45, .bipush (-4), 2), (47, .goto 18, 3), (50, .aload_n 0, 1), (51, .iload_n 1, 1), (52, .invokevirtual 191, 3), (55, .aload_n 0, 1), (56, .iconst 1, 1), (57, .iload_n 1, 1), (58, .iconst 0, 1), (59, .invokevirtual 98, 3), (62, .invokestatic 85, 3), (65, .ireturn, 1)]
theorem dX7_truth : decs cX7_truth lX7_truth = true := by decide +kernel
abbrev lX7_fitting : List (Nat × Instr × Nat) := [(0, .iconst 0, 1), (1, .istore_n 1, 1), (2, .iconst 0, 1), (3, .istore_n 2, 1), (4, .iload_n 2, 1), (5, .aload_n 0, 1), (6, .getfield 7, 3), (9, .iconst 2, 1), (10, .iaload, 1), (11, .if_icmp .ge 37, 3), (14, .iload_n 1, 1), (15, .aload_n 0, 1), (16, .iload_n 2, 1), (17, .invokevirtual 188, 3), (20, .iconst 1, 1), (21, .if_icmp .le 18, 3), (24, .aload_n 0, 1), (25, .iload_n 2, 1), (26, .iconst 4, 1), (27, .invokevirtual 200, 3), (30, .lconst 1, 1), (31, .lcmp, 1), (32, .ifCond .ne 7, 3), (35, .iconst 1, 1), (36, .goto 4, 3), (39, .iconst 0, 1), (40, .iadd, 1), (41, .istore_n 1, 1), (42, .iinc 2 1, 3), (45, .goto (-41), 3), (48, .iload_n 1, 1), (49, .ireturn, 1)]
theorem dX7_fitting : decs cX7_fitting lX7_fitting = true := by decide +kernel
abbrev lX7_count : List (Nat × Instr × Nat) := [(0, .iload_n 1, 1), (1, .tableswitch 91 0 10 #[59, 59, 59, 59, 59, 59, 66, 71, 76, 81, 86], 59), (60, .aload_n 0, 1), (61, .getfield 7, 3), (64, .iload_n 1, 1), (65, .iaload, 1), (66, .ireturn, 1), (67, .aload_n 0, 1), (68, .invokevirtual 75, 3), (71, .ireturn, 1), (72, .aload_n 0, 1), (73, .invokevirtual 106, 3), (76, .ireturn, 1), (77, .aload_n 0, 1), (78, .invokevirtual 203, 3), (81, .ireturn, 1), (82, .aload_n 0, 1), (83, .getfield 42, 3), (86, .ireturn, 1), (87, .aload_n 0, 1), (88, .getfield 109, 3), (91, .ireturn, 1), (92, .bipush (-2), 2), (94, .ireturn, 1)]
theorem dX7_count : decs cX7_count lX7_count = true := by decide +kernel
abbrev lJ9_floorDiv_7cf53 : List (Nat × Instr × Nat) := [(0, .iload_n 0, 1), (1, .iload_n 1, 1), (2, .idiv, 1), (3, .istore_n 2, 1), (4, .iload_n 0, 1), (5, .iload_n 1, 1), (6, .ixor, 1), (7, .ifCond .ge 14, 3), (10, .iload_n 2, 1), (11, .iload_n 1, 1), (12, .imul, 1), (13, .iload_n 0, 1), (14, .if_icmp .eq 7, 3), (17, .iload_n 2, 1), (18, .iconst 1, 1), (19, .isub, 1), (20, .ireturn, 1), (21, .iload_n 2, 1), (22, .ireturn, 1)]
theorem dJ9_floorDiv_7cf53 : decs cJ9_floorDiv_7cf53 lJ9_floorDiv_7cf53 = true := by decide +kernel
abbrev lJ9_floorDiv_f86c9 : List (Nat × Instr × Nat) := [(0, .lload_n 0, 1), (1, .lload_n 2, 1), (2, .ldiv, 1), (3, .lstore 4, 2), (5, .lload_n 0, 1), (6, .lload_n 2, 1), (7, .lxor, 1), (8, .lconst 0, 1), (9, .lcmp, 1), (10, .ifCond .ge 17, 3), (13, .lload 4, 2), (15, .lload_n 2, 1), (16, .lmul, 1), (17, .lload_n 0, 1), (18, .lcmp, 1), (19, .ifCond .eq 8, 3), (22, .lload 4, 2), (24, .lconst 1, 1), (25, .lsub, 1), (26, .lreturn, 1), (27, .lload 4, 2), (29, .lreturn, 1)]
theorem dJ9_floorDiv_f86c9 : decs cJ9_floorDiv_f86c9 lJ9_floorDiv_f86c9 = true := by decide +kernel
abbrev lJ9_abs_0f7a4 : List (Nat × Instr × Nat) := [(0, .iload_n 0, 1), (1, .ifCond .ge 8, 3), (4, .iload_n 0, 1), (5, .ineg, 1), (6, .goto 4, 3), (9, .iload_n 0, 1), (10, .ireturn, 1)]
theorem dJ9_abs_0f7a4 : decs cJ9_abs_0f7a4 lJ9_abs_0f7a4 = true := by decide +kernel
abbrev lJ9_abs_067f4 : List (Nat × Instr × Nat) := [(0, .lload_n 0, 1), (1, .lconst 0, 1), (2, .lcmp, 1), (3, .ifCond .ge 8, 3), (6, .lload_n 0, 1), (7, .lneg, 1), (8, .goto 4, 3), (11, .lload_n 0, 1), (12, .lreturn, 1)]
theorem dJ9_abs_067f4 : decs cJ9_abs_067f4 lJ9_abs_067f4 = true := by decide +kernel
abbrev lJ9_max_f86c9 : List (Nat × Instr × Nat) := [(0, .lload_n 0, 1), (1, .lload_n 2, 1), (2, .lcmp, 1), (3, .ifCond .lt 7, 3), (6, .lload_n 0, 1), (7, .goto 4, 3), (10, .lload_n 2, 1), (11, .lreturn, 1)]
theorem dJ9_max_f86c9 : decs cJ9_max_f86c9 lJ9_max_f86c9 = true := by decide +kernel
abbrev lJ9_min_7cf53 : List (Nat × Instr × Nat) := [(0, .iload_n 0, 1), (1, .iload_n 1, 1), (2, .if_icmp .gt 7, 3), (5, .iload_n 0, 1), (6, .goto 4, 3), (9, .iload_n 1, 1), (10, .ireturn, 1)]
theorem dJ9_min_7cf53 : decs cJ9_min_7cf53 lJ9_min_7cf53 = true := by decide +kernel
abbrev lJ9_min_f86c9 : List (Nat × Instr × Nat) := [(0, .lload_n 0, 1), (1, .lload_n 2, 1), (2, .lcmp, 1), (3, .ifCond .gt 7, 3), (6, .lload_n 0, 1), (7, .goto 4, 3), (10, .lload_n 2, 1), (11, .lreturn, 1)]
theorem dJ9_min_f86c9 : decs cJ9_min_f86c9 lJ9_min_f86c9 = true := by decide +kernel
abbrev lL_law_0 : List (Nat × Instr × Nat) := [(0, .new 7, 3), (3, .dup, 1), (4, .invokespecial 9, 3), (7, .astore_n 1, 1), (8, .new 10, 3), (11, .dup, 1), (12, .invokespecial 12, 3), (15, .astore_n 2, 1), (16, .iconst 0, 1), (17, .istore_n 3, 1), (18, .iload_n 3, 1), (19, .aload_n 0, 1), (20, .arraylength, 1), (21, .iconst 4, 1), (22, .isub, 1), (23, .if_icmp .gt 873, 3), (26, .aload_n 0, 1), (27, .iload_n 3, 1), (28, .iaload, 1), (29, .bipush 31, 2), (31, .iand, 1), (32, .tableswitch 858 0 23 #[112, 135, 178, 227, 260, 303, 346, 395, 408, 433, 446, 459, 472, 485, 518, 551, 594, 628, 641, 700, 734, 768, 802, 835], 112), (144, .aload_n 1, 1), (145, .aload_n 0, 1), (146, .iload_n 3, 1), (147, .iconst 1, 1), (148, .iadd, 1), (149, .iaload, 1), (150, .invokevirtual 13, 3), (153, .aload_n 2, 1), (154, .aload_n 0, 1), (155, .iload_n 3, 1), (156, .iconst 1, 1), (157, .iadd, 1), (158, .iaload, 1), (159, .invokevirtual 17, 3), (162, .if_icmp .eq 728, 3), (165, .iconst 0, 1), (166, .ireturn, 1), (167, .aload_n 1, 1)]
theorem dL_law_0 : decs cL_law lL_law_0 = true := by decide +kernel
abbrev lL_law_1 : List (Nat × Instr × Nat) := [(168, .aload_n 0, 1), (169, .iload_n 3, 1), (170, .iconst 1, 1), (171, .iadd, 1), (172, .iaload, 1), (173, .aload_n 0, 1), (174, .iload_n 3, 1), (175, .iconst 2, 1), (176, .iadd, 1), (177, .iaload, 1), (178, .aload_n 0, 1), (179, .iload_n 3, 1), (180, .iconst 3, 1), (181, .iadd, 1), (182, .iaload, 1), (183, .invokevirtual 18, 3), (186, .aload_n 2, 1), (187, .aload_n 0, 1), (188, .iload_n 3, 1), (189, .iconst 1, 1), (190, .iadd, 1), (191, .iaload, 1), (192, .aload_n 0, 1), (193, .iload_n 3, 1), (194, .iconst 2, 1), (195, .iadd, 1), (196, .iaload, 1), (197, .aload_n 0, 1), (198, .iload_n 3, 1), (199, .iconst 3, 1), (200, .iadd, 1), (201, .iaload, 1), (202, .invokevirtual 22, 3), (205, .if_icmp .eq 685, 3), (208, .iconst 0, 1), (209, .ireturn, 1), (210, .aload_n 1, 1), (211, .aload_n 0, 1), (212, .iload_n 3, 1), (213, .iconst 1, 1)]
theorem dL_law_1 : decs cL_law lL_law_1 = true := by decide +kernel
abbrev lL_law_2 : List (Nat × Instr × Nat) := [(214, .iadd, 1), (215, .iaload, 1), (216, .aload_n 0, 1), (217, .iload_n 3, 1), (218, .iconst 2, 1), (219, .iadd, 1), (220, .iaload, 1), (221, .ifCond .eq 7, 3), (224, .iconst 1, 1), (225, .goto 4, 3), (228, .iconst 0, 1), (229, .invokevirtual 23, 3), (232, .aload_n 2, 1), (233, .aload_n 0, 1), (234, .iload_n 3, 1), (235, .iconst 1, 1), (236, .iadd, 1), (237, .iaload, 1), (238, .aload_n 0, 1), (239, .iload_n 3, 1), (240, .iconst 2, 1), (241, .iadd, 1), (242, .iaload, 1), (243, .ifCond .eq 7, 3), (246, .iconst 1, 1), (247, .goto 4, 3), (250, .iconst 0, 1), (251, .invokevirtual 27, 3), (254, .if_icmp .eq 636, 3), (257, .iconst 0, 1), (258, .ireturn, 1), (259, .aload_n 1, 1), (260, .aload_n 0, 1), (261, .iload_n 3, 1), (262, .iconst 1, 1), (263, .iadd, 1), (264, .iaload, 1), (265, .aload_n 0, 1), (266, .iload_n 3, 1), (267, .iconst 2, 1)]
theorem dL_law_2 : decs cL_law lL_law_2 = true := by decide +kernel
abbrev lL_law_3 : List (Nat × Instr × Nat) := [(268, .iadd, 1), (269, .iaload, 1), (270, .invokevirtual 28, 3), (273, .aload_n 2, 1), (274, .aload_n 0, 1), (275, .iload_n 3, 1), (276, .iconst 1, 1), (277, .iadd, 1), (278, .iaload, 1), (279, .aload_n 0, 1), (280, .iload_n 3, 1), (281, .iconst 2, 1), (282, .iadd, 1), (283, .iaload, 1), (284, .invokevirtual 32, 3), (287, .if_icmp .eq 603, 3), (290, .iconst 0, 1), (291, .ireturn, 1), (292, .aload_n 1, 1), (293, .aload_n 0, 1), (294, .iload_n 3, 1), (295, .iconst 1, 1), (296, .iadd, 1), (297, .iaload, 1), (298, .aload_n 0, 1), (299, .iload_n 3, 1), (300, .iconst 2, 1), (301, .iadd, 1), (302, .iaload, 1), (303, .aload_n 0, 1), (304, .iload_n 3, 1), (305, .iconst 3, 1), (306, .iadd, 1), (307, .iaload, 1), (308, .invokevirtual 33, 3), (311, .aload_n 2, 1), (312, .aload_n 0, 1), (313, .iload_n 3, 1), (314, .iconst 1, 1), (315, .iadd, 1)]
theorem dL_law_3 : decs cL_law lL_law_3 = true := by decide +kernel
abbrev lL_law_4 : List (Nat × Instr × Nat) := [(316, .iaload, 1), (317, .aload_n 0, 1), (318, .iload_n 3, 1), (319, .iconst 2, 1), (320, .iadd, 1), (321, .iaload, 1), (322, .aload_n 0, 1), (323, .iload_n 3, 1), (324, .iconst 3, 1), (325, .iadd, 1), (326, .iaload, 1), (327, .invokevirtual 36, 3), (330, .if_icmp .eq 560, 3), (333, .iconst 0, 1), (334, .ireturn, 1), (335, .aload_n 1, 1), (336, .aload_n 0, 1), (337, .iload_n 3, 1), (338, .iconst 1, 1), (339, .iadd, 1), (340, .iaload, 1), (341, .aload_n 0, 1), (342, .iload_n 3, 1), (343, .iconst 2, 1), (344, .iadd, 1), (345, .iaload, 1), (346, .aload_n 0, 1), (347, .iload_n 3, 1), (348, .iconst 3, 1), (349, .iadd, 1), (350, .iaload, 1), (351, .invokevirtual 37, 3), (354, .aload_n 2, 1), (355, .aload_n 0, 1), (356, .iload_n 3, 1), (357, .iconst 1, 1), (358, .iadd, 1), (359, .iaload, 1), (360, .aload_n 0, 1), (361, .iload_n 3, 1)]
theorem dL_law_4 : decs cL_law lL_law_4 = true := by decide +kernel
abbrev lL_law_5 : List (Nat × Instr × Nat) := [(362, .iconst 2, 1), (363, .iadd, 1), (364, .iaload, 1), (365, .aload_n 0, 1), (366, .iload_n 3, 1), (367, .iconst 3, 1), (368, .iadd, 1), (369, .iaload, 1), (370, .invokevirtual 40, 3), (373, .if_icmp .eq 517, 3), (376, .iconst 0, 1), (377, .ireturn, 1), (378, .aload_n 1, 1), (379, .aload_n 0, 1), (380, .iload_n 3, 1), (381, .iconst 1, 1), (382, .iadd, 1), (383, .iaload, 1), (384, .aload_n 0, 1), (385, .iload_n 3, 1), (386, .iconst 2, 1), (387, .iadd, 1), (388, .iaload, 1), (389, .ifCond .eq 7, 3), (392, .iconst 1, 1), (393, .goto 4, 3), (396, .iconst 0, 1), (397, .invokevirtual 41, 3), (400, .aload_n 2, 1), (401, .aload_n 0, 1), (402, .iload_n 3, 1), (403, .iconst 1, 1), (404, .iadd, 1), (405, .iaload, 1), (406, .aload_n 0, 1), (407, .iload_n 3, 1), (408, .iconst 2, 1), (409, .iadd, 1), (410, .iaload, 1), (411, .ifCond .eq 7, 3)]
theorem dL_law_5 : decs cL_law lL_law_5 = true := by decide +kernel
abbrev lL_law_6 : List (Nat × Instr × Nat) := [(414, .iconst 1, 1), (415, .goto 4, 3), (418, .iconst 0, 1), (419, .invokevirtual 44, 3), (422, .if_icmp .eq 468, 3), (425, .iconst 0, 1), (426, .ireturn, 1), (427, .aload_n 1, 1), (428, .invokevirtual 45, 3), (431, .aload_n 2, 1), (432, .invokevirtual 49, 3), (435, .if_icmp .eq 455, 3), (438, .iconst 0, 1), (439, .ireturn, 1), (440, .aload_n 1, 1), (441, .aload_n 0, 1), (442, .iload_n 3, 1), (443, .iconst 1, 1), (444, .iadd, 1), (445, .iaload, 1), (446, .i2c, 1), (447, .invokevirtual 50, 3), (450, .aload_n 2, 1), (451, .aload_n 0, 1), (452, .iload_n 3, 1), (453, .iconst 1, 1), (454, .iadd, 1), (455, .iaload, 1), (456, .i2c, 1), (457, .invokevirtual 54, 3), (460, .if_icmp .eq 430, 3), (463, .iconst 0, 1), (464, .ireturn, 1), (465, .aload_n 1, 1), (466, .invokevirtual 55, 3), (469, .aload_n 2, 1), (470, .invokevirtual 58, 3), (473, .if_icmp .eq 417, 3), (476, .iconst 0, 1), (477, .ireturn, 1)]
theorem dL_law_6 : decs cL_law lL_law_6 = true := by decide +kernel
abbrev lL_law_7 : List (Nat × Instr × Nat) := [(478, .aload_n 1, 1), (479, .invokevirtual 59, 3), (482, .aload_n 2, 1), (483, .invokevirtual 62, 3), (486, .if_icmp .eq 404, 3), (489, .iconst 0, 1), (490, .ireturn, 1), (491, .aload_n 1, 1), (492, .invokevirtual 63, 3), (495, .aload_n 2, 1), (496, .invokevirtual 66, 3), (499, .if_icmp .eq 391, 3), (502, .iconst 0, 1), (503, .ireturn, 1), (504, .aload_n 1, 1), (505, .invokevirtual 67, 3), (508, .aload_n 2, 1), (509, .invokevirtual 70, 3), (512, .if_icmp .eq 378, 3), (515, .iconst 0, 1), (516, .ireturn, 1), (517, .aload_n 1, 1), (518, .aload_n 0, 1), (519, .iload_n 3, 1), (520, .iconst 1, 1), (521, .iadd, 1), (522, .iaload, 1), (523, .aload_n 0, 1), (524, .iload_n 3, 1), (525, .iconst 2, 1), (526, .iadd, 1), (527, .iaload, 1), (528, .invokevirtual 71, 3), (531, .aload_n 2, 1), (532, .aload_n 0, 1), (533, .iload_n 3, 1), (534, .iconst 1, 1), (535, .iadd, 1), (536, .iaload, 1), (537, .aload_n 0, 1)]
theorem dL_law_7 : decs cL_law lL_law_7 = true := by decide +kernel
abbrev lL_law_8 : List (Nat × Instr × Nat) := [(538, .iload_n 3, 1), (539, .iconst 2, 1), (540, .iadd, 1), (541, .iaload, 1), (542, .invokevirtual 74, 3), (545, .if_icmp .eq 345, 3), (548, .iconst 0, 1), (549, .ireturn, 1), (550, .aload_n 1, 1), (551, .aload_n 0, 1), (552, .iload_n 3, 1), (553, .iconst 1, 1), (554, .iadd, 1), (555, .iaload, 1), (556, .aload_n 0, 1), (557, .iload_n 3, 1), (558, .iconst 2, 1), (559, .iadd, 1), (560, .iaload, 1), (561, .invokevirtual 75, 3), (564, .aload_n 2, 1), (565, .aload_n 0, 1), (566, .iload_n 3, 1), (567, .iconst 1, 1), (568, .iadd, 1), (569, .iaload, 1), (570, .aload_n 0, 1), (571, .iload_n 3, 1), (572, .iconst 2, 1), (573, .iadd, 1), (574, .iaload, 1), (575, .invokevirtual 78, 3), (578, .if_icmp .eq 312, 3), (581, .iconst 0, 1), (582, .ireturn, 1), (583, .aload_n 1, 1), (584, .aload_n 0, 1), (585, .iload_n 3, 1), (586, .iconst 1, 1), (587, .iadd, 1)]
theorem dL_law_8 : decs cL_law lL_law_8 = true := by decide +kernel
abbrev lL_law_9 : List (Nat × Instr × Nat) := [(588, .iaload, 1), (589, .aload_n 0, 1), (590, .iload_n 3, 1), (591, .iconst 2, 1), (592, .iadd, 1), (593, .iaload, 1), (594, .aload_n 0, 1), (595, .iload_n 3, 1), (596, .iconst 3, 1), (597, .iadd, 1), (598, .iaload, 1), (599, .invokevirtual 79, 3), (602, .aload_n 2, 1), (603, .aload_n 0, 1), (604, .iload_n 3, 1), (605, .iconst 1, 1), (606, .iadd, 1), (607, .iaload, 1), (608, .aload_n 0, 1), (609, .iload_n 3, 1), (610, .iconst 2, 1), (611, .iadd, 1), (612, .iaload, 1), (613, .aload_n 0, 1), (614, .iload_n 3, 1), (615, .iconst 3, 1), (616, .iadd, 1), (617, .iaload, 1), (618, .invokevirtual 82, 3), (621, .if_icmp .eq 269, 3), (624, .iconst 0, 1), (625, .ireturn, 1), (626, .aload_n 1, 1), (627, .aload_n 0, 1), (628, .iload_n 3, 1), (629, .iconst 1, 1), (630, .iadd, 1), (631, .iaload, 1), (632, .aload_n 0, 1), (633, .iload_n 3, 1)]
theorem dL_law_9 : decs cL_law lL_law_9 = true := by decide +kernel
abbrev lL_law_10 : List (Nat × Instr × Nat) := [(634, .iconst 2, 1), (635, .iadd, 1), (636, .iaload, 1), (637, .invokevirtual 83, 3), (640, .aload_n 2, 1), (641, .aload_n 0, 1), (642, .iload_n 3, 1), (643, .iconst 1, 1), (644, .iadd, 1), (645, .iaload, 1), (646, .aload_n 0, 1), (647, .iload_n 3, 1), (648, .iconst 2, 1), (649, .iadd, 1), (650, .iaload, 1), (651, .invokevirtual 87, 3), (654, .lcmp, 1), (655, .ifCond .eq 235, 3), (658, .iconst 0, 1), (659, .ireturn, 1), (660, .aload_n 1, 1), (661, .invokevirtual 88, 3), (664, .aload_n 2, 1), (665, .invokevirtual 91, 3), (668, .if_icmp .eq 222, 3), (671, .iconst 0, 1), (672, .ireturn, 1), (673, .aload_n 1, 1), (674, .aload_n 0, 1), (675, .iload_n 3, 1), (676, .iconst 1, 1), (677, .iadd, 1), (678, .iaload, 1), (679, .ifCond .eq 7, 3), (682, .iconst 1, 1), (683, .goto 4, 3), (686, .iconst 0, 1), (687, .aload_n 0, 1), (688, .iload_n 3, 1), (689, .iconst 2, 1)]
theorem dL_law_10 : decs cL_law lL_law_10 = true := by decide +kernel
abbrev lL_law_11 : List (Nat × Instr × Nat) := [(690, .iadd, 1), (691, .iaload, 1), (692, .aload_n 0, 1), (693, .iload_n 3, 1), (694, .iconst 3, 1), (695, .iadd, 1), (696, .iaload, 1), (697, .invokevirtual 92, 3), (700, .aload_n 2, 1), (701, .aload_n 0, 1), (702, .iload_n 3, 1), (703, .iconst 1, 1), (704, .iadd, 1), (705, .iaload, 1), (706, .ifCond .eq 7, 3), (709, .iconst 1, 1), (710, .goto 4, 3), (713, .iconst 0, 1), (714, .aload_n 0, 1), (715, .iload_n 3, 1), (716, .iconst 2, 1), (717, .iadd, 1), (718, .iaload, 1), (719, .aload_n 0, 1), (720, .iload_n 3, 1), (721, .iconst 3, 1), (722, .iadd, 1), (723, .iaload, 1), (724, .invokevirtual 96, 3), (727, .if_icmp .eq 163, 3), (730, .iconst 0, 1), (731, .ireturn, 1), (732, .aload_n 1, 1), (733, .aload_n 0, 1), (734, .iload_n 3, 1), (735, .iconst 1, 1), (736, .iadd, 1), (737, .iaload, 1), (738, .aload_n 0, 1), (739, .iload_n 3, 1)]
theorem dL_law_11 : decs cL_law lL_law_11 = true := by decide +kernel
abbrev lL_law_12 : List (Nat × Instr × Nat) := [(740, .iconst 2, 1), (741, .iadd, 1), (742, .iaload, 1), (743, .invokevirtual 97, 3), (746, .aload_n 2, 1), (747, .aload_n 0, 1), (748, .iload_n 3, 1), (749, .iconst 1, 1), (750, .iadd, 1), (751, .iaload, 1), (752, .aload_n 0, 1), (753, .iload_n 3, 1), (754, .iconst 2, 1), (755, .iadd, 1), (756, .iaload, 1), (757, .invokevirtual 100, 3), (760, .lcmp, 1), (761, .ifCond .eq 129, 3), (764, .iconst 0, 1), (765, .ireturn, 1), (766, .aload_n 1, 1), (767, .aload_n 0, 1), (768, .iload_n 3, 1), (769, .iconst 1, 1), (770, .iadd, 1), (771, .iaload, 1), (772, .aload_n 0, 1), (773, .iload_n 3, 1), (774, .iconst 2, 1), (775, .iadd, 1), (776, .iaload, 1), (777, .invokevirtual 101, 3), (780, .aload_n 2, 1), (781, .aload_n 0, 1), (782, .iload_n 3, 1), (783, .iconst 1, 1), (784, .iadd, 1), (785, .iaload, 1), (786, .aload_n 0, 1), (787, .iload_n 3, 1)]
theorem dL_law_12 : decs cL_law lL_law_12 = true := by decide +kernel
abbrev lL_law_13 : List (Nat × Instr × Nat) := [(788, .iconst 2, 1), (789, .iadd, 1), (790, .iaload, 1), (791, .invokevirtual 104, 3), (794, .lcmp, 1), (795, .ifCond .eq 95, 3), (798, .iconst 0, 1), (799, .ireturn, 1), (800, .aload_n 1, 1), (801, .aload_n 0, 1), (802, .iload_n 3, 1), (803, .iconst 1, 1), (804, .iadd, 1), (805, .iaload, 1), (806, .aload_n 0, 1), (807, .iload_n 3, 1), (808, .iconst 2, 1), (809, .iadd, 1), (810, .iaload, 1), (811, .invokevirtual 105, 3), (814, .aload_n 2, 1), (815, .aload_n 0, 1), (816, .iload_n 3, 1), (817, .iconst 1, 1), (818, .iadd, 1), (819, .iaload, 1), (820, .aload_n 0, 1), (821, .iload_n 3, 1), (822, .iconst 2, 1), (823, .iadd, 1), (824, .iaload, 1), (825, .invokevirtual 108, 3), (828, .lcmp, 1), (829, .ifCond .eq 61, 3), (832, .iconst 0, 1), (833, .ireturn, 1), (834, .aload_n 1, 1), (835, .aload_n 0, 1), (836, .iload_n 3, 1), (837, .iconst 1, 1)]
theorem dL_law_13 : decs cL_law lL_law_13 = true := by decide +kernel
abbrev lL_law_14 : List (Nat × Instr × Nat) := [(838, .iadd, 1), (839, .iaload, 1), (840, .aload_n 0, 1), (841, .iload_n 3, 1), (842, .iconst 2, 1), (843, .iadd, 1), (844, .iaload, 1), (845, .invokevirtual 109, 3), (848, .aload_n 2, 1), (849, .aload_n 0, 1), (850, .iload_n 3, 1), (851, .iconst 1, 1), (852, .iadd, 1), (853, .iaload, 1), (854, .aload_n 0, 1), (855, .iload_n 3, 1), (856, .iconst 2, 1), (857, .iadd, 1), (858, .iaload, 1), (859, .invokevirtual 112, 3), (862, .if_icmp .eq 28, 3), (865, .iconst 0, 1), (866, .ireturn, 1), (867, .aload_n 1, 1), (868, .aload_n 0, 1), (869, .iload_n 3, 1), (870, .iconst 1, 1), (871, .iadd, 1), (872, .iaload, 1), (873, .invokevirtual 113, 3), (876, .aload_n 2, 1), (877, .aload_n 0, 1), (878, .iload_n 3, 1), (879, .iconst 1, 1), (880, .iadd, 1), (881, .iaload, 1), (882, .invokevirtual 116, 3), (885, .if_icmp .eq 5, 3), (888, .iconst 0, 1), (889, .ireturn, 1)]
theorem dL_law_14 : decs cL_law lL_law_14 = true := by decide +kernel
abbrev lL_law_15 : List (Nat × Instr × Nat) := [(890, .iinc 3 4, 3), (893, .goto (-875), 3), (896, .iconst 1, 1), (897, .ireturn, 1)]
theorem dL_law_15 : decs cL_law lL_law_15 = true := by decide +kernel
end
section
/-! the world: cells 0 .. n-1, ad k the address of cell k, E k what it holds -/
def wl (n : Nat) (ad : Nat → Nat) (E : Nat → va_E) : va_W := (List.range n).map (fun k => (ad k, E k))
theorem wl_get {n : Nat} {ad : Nat → Nat} {E : Nat → va_E} {k : Nat} (h : k < n) : (wl n ad E)[k]? = some (ad k, E k) := by
  simp [wl, h]
theorem wl_is {n : Nat} {ad : Nat → Nat} {E : Nat → va_E} {k : Nat} {q : Nat × va_E} (h : (wl n ad E)[k]? = some q) : k < n ∧ q = (ad k, E k) := by
  by_cases hk : k < n
  · rw [wl_get hk] at h
    exact ⟨hk, (Option.some.inj h).symm⟩
  · rw [List.getElem?_eq_none (by simp [wl]; omega)] at h
    cases h
theorem wl_len {n : Nat} {ad : Nat → Nat} {E : Nat → va_E} : (wl n ad E).length = n := by simp [wl]
theorem wl_set {n : Nat} {ad : Nat → Nat} {E : Nat → va_E} {k : Nat} {e : va_E} (hk : k < n) : (wl n ad E).set k (ad k, e) = wl n ad (va_up E k e) := by
  apply List.ext_getElem?
  intro j
  by_cases hj : j = k
  · subst hj
    rw [List.getElem?_set_self (by rw [wl_len]; exact hk), wl_get hk]
    simp [va_up]
  · rw [List.getElem?_set_ne (Ne.symm hj)]
    by_cases hn : j < n
    · rw [wl_get hn, wl_get hn]
      simp [va_up, hj]
    · rw [List.getElem?_eq_none (by rw [wl_len]; omega), List.getElem?_eq_none (by rw [wl_len]; omega)]
theorem wl_push {n : Nat} {ad : Nat → Nat} {E : Nat → va_E} {q : Nat} {e : va_E} : wl n ad E ++ [(q, e)] = wl (n + 1) (va_up ad n q) (va_up E n e) := by
  apply List.ext_getElem?
  intro j
  by_cases hj : j < n
  · rw [List.getElem?_append_left (by rw [wl_len]; exact hj), wl_get hj, wl_get (by omega)]
    have : j ≠ n := by omega
    simp [va_up, this]
  · rw [List.getElem?_append_right (by rw [wl_len]; omega), wl_len]
    by_cases he : j = n
    · subst he
      rw [wl_get (by omega)]
      simp [va_up]
    · rw [List.getElem?_eq_none (by simp; omega), List.getElem?_eq_none (by rw [wl_len]; omega)]
theorem wl_D {A : Nat → Prop} {n : Nat} {ad : Nat → Nat} {E E' : Nat → va_E} (h : va_D A (wl n ad E)) : va_D A (wl n ad E') := by
  refine ⟨fun i j p q hi hj hpq => ?_, fun k q hk => ?_⟩
  · obtain ⟨h1, rfl⟩ := wl_is hi
    obtain ⟨h2, rfl⟩ := wl_is hj
    exact h.1 i j _ _ (wl_get h1) (wl_get h2) hpq
  · obtain ⟨h1, rfl⟩ := wl_is hk
    exact h.2 k (ad k, E k) (wl_get h1)
/-- what a method may change: its world's cells, and what it makes -/
def AA (n : Nat) (ad : Nat → Nat) (sz : Nat) : Nat → Prop := fun q => (∃ k, k < n ∧ q = ad k) ∨ sz ≤ q
theorem wl_AA {n : Nat} {ad : Nat → Nat} {E : Nat → va_E} {sz : Nat} {A : Nat → Prop} (h : va_D A (wl n ad E)) : va_D (AA n ad sz) (wl n ad E) := by
  refine ⟨h.1, fun k q hk => ?_⟩
  obtain ⟨h1, rfl⟩ := wl_is hk
  exact Or.inl ⟨k, h1, rfl⟩
theorem AA_in {n : Nat} {ad : Nat → Nat} {E : Nat → va_E} {A : Nat → Prop} {H0 H : Heap} {locs : List Loc} (hD : va_D A (wl n ad E)) (hS : va_S A H0 H locs) (hA : ∀ q, H0.size ≤ q → A q) : ∀ q, AA n ad H.size q → A q := by
  intro q h
  rcases h with ⟨k, hk, rfl⟩ | h
  · exact hD.2 k _ (wl_get hk)
  · exact hA q (Nat.le_trans hS.1 h)
/-- the classes of arrays -/
def tyl (cA : Nat → ClassId) : List (ClassId × FieldType) := [(cA 0, .int), (cA 1, .long), (cA 2, .boolean), (cA 3, .char), (cA 4, .object "ThumpEars$State"), (cA 5, .array .int)]
abbrev GX : Type := Program × Env × State × MethodId × Array Value × List Frame × Method × Code × (Nat → Prop) × (State → Prop)
/-- the judgement at a place of a method's code: over any heap that holds the world -/
def GG (R : Room) (nL : Nat) (l : Launch) (D : va_G) (X : GX) (cells slots n : Nat) (ad : Nat → Nat) (E : Nat → va_E) (pc : Nat) (lv : List (Nat × Value)) (st : List Value) : Prop :=
  ∀ (H : Heap) (locs : List Loc) (ls : Array Slot), va_P D vwCl (wl n ad E) H → va_D X.2.2.2.2.2.2.2.2.1 (wl n ad E) → va_S X.2.2.2.2.2.2.2.2.1 X.2.2.1.heap H locs → lv_has ls nL lv →
    W X.1 l X.2.1 R X.2.2.1 X.2.2.2.1 X.2.2.2.2.1 X.2.2.2.2.2.1 X.2.2.2.2.2.2.1 X.2.2.2.2.2.2.2.1 H locs cells slots X.2.2.2.2.2.2.2.2.2 (F0 X.2.2.2.1 pc ls st)
/-- what holds in a whole method: the machine, its code, the tables' words, the classes -/
def Fr (own : String) (cc : ByteArray) (nL : Nat) (D : va_G) (cA : Nat → ClassId) (X : GX) : Prop :=
  X.1.tables.exec = Jvm.exec ∧ X.2.2.2.2.2.2.2.1.code = cc ∧ X.2.2.2.2.2.2.2.1.maxLocals = nL ∧ X.2.2.1.vm.findClass own = some X.2.2.2.1.cls ∧ (∀ w ∈ TT, w.before X.2.2.2.2.1 X.2.2.1 = true) ∧ va_K D vwCl (tyl cA) X.2.2.1 ∧ (∀ q, X.2.2.1.heap.size ≤ q → X.2.2.2.2.2.2.2.2.1 q)
theorem Fr.x {own : String} {cc : ByteArray} {nL : Nat} {D : va_G} {cA : Nat → ClassId} {X : GX} (F : Fr own cc nL D cA X) : X.1.tables.exec = Jvm.exec := F.1
theorem Fr.b {own : String} {cc : ByteArray} {nL : Nat} {D : va_G} {cA : Nat → ClassId} {X : GX} (F : Fr own cc nL D cA X) : X.2.2.2.2.2.2.2.1.code = cc := F.2.1
theorem Fr.m {own : String} {cc : ByteArray} {nL : Nat} {D : va_G} {cA : Nat → ClassId} {X : GX} (F : Fr own cc nL D cA X) : X.2.2.2.2.2.2.2.1.maxLocals = nL := F.2.2.1
theorem Fr.o {own : String} {cc : ByteArray} {nL : Nat} {D : va_G} {cA : Nat → ClassId} {X : GX} (F : Fr own cc nL D cA X) : X.2.2.1.vm.findClass own = some X.2.2.2.1.cls := F.2.2.2.1
theorem Fr.t {own : String} {cc : ByteArray} {nL : Nat} {D : va_G} {cA : Nat → ClassId} {X : GX} (F : Fr own cc nL D cA X) : ∀ w ∈ TT, w.before X.2.2.2.2.1 X.2.2.1 = true := F.2.2.2.2.1
theorem Fr.k {own : String} {cc : ByteArray} {nL : Nat} {D : va_G} {cA : Nat → ClassId} {X : GX} (F : Fr own cc nL D cA X) : va_K D vwCl (tyl cA) X.2.2.1 := F.2.2.2.2.2.1
theorem Fr.a {own : String} {cc : ByteArray} {nL : Nat} {D : va_G} {cA : Nat → ClassId} {X : GX} (F : Fr own cc nL D cA X) : ∀ q, X.2.2.1.heap.size ≤ q → X.2.2.2.2.2.2.2.2.1 q := F.2.2.2.2.2.2
theorem nI_c {j : Nat} (h : j < 2 ^ 31) : (nI j).toNatClampNeg = j := nI_clamp h
section GGR
variable {R : Room} {nL : Nat} {l : Launch} {D : va_G} {X : GX} {cl sl n : Nat} {ad : Nat → Nat} {E : Nat → va_E} {pc q : Nat} {lv : List (Nat × Value)} {st : List Value} {own : String} {cc : ByteArray} {cA : Nat → ClassId}
theorem g_lv {lv' : List (Nat × Value)} (ks : List Nat) (h : lv_pick lv ks = lv') (kk : GG R nL l D X cl sl n ad E pc lv' st) : GG R nL l D X cl sl n ad E pc lv st :=
  fun H locs ls hP hD hS hl => kk H locs ls hP hD hS (lv_sub hl ks h)
theorem g_topi {x : Int32} (kk : ∀ y : Int32, y = x → GG R nL l D X cl sl n ad E pc lv (.int y :: st)) : GG R nL l D X cl sl n ad E pc lv (.int x :: st) := kk x rfl
theorem g_topl {x : Int64} (kk : ∀ y : Int64, y = x → GG R nL l D X cl sl n ad E pc lv (.long y :: st)) : GG R nL l D X cl sl n ad E pc lv (.long x :: st) := kk x rfl
theorem g_sti {x y : Int32} (h : x = y) (kk : GG R nL l D X cl sl n ad E pc lv (.int y :: st)) : GG R nL l D X cl sl n ad E pc lv (.int x :: st) := by rw [h]; exact kk
theorem g_stl {x y : Int64} (h : x = y) (kk : GG R nL l D X cl sl n ad E pc lv (.long y :: st)) : GG R nL l D X cl sl n ad E pc lv (.long x :: st) := by rw [h]; exact kk
theorem g_wid {a b : Nat} (h1 : cl ≤ a) (h2 : sl ≤ b) (kk : GG R nL l D X a b n ad E pc lv st) : GG R nL l D X cl sl n ad E pc lv st := fun H locs ls hP hD hS hl => W.widen h1 h2 (kk H locs ls hP hD hS hl)
theorem g_iload_n (F : Fr own cc nL D cA X) {k0 : Fin 4} {i : Nat} {x : Int32} (hd : decode cc pc = .ok (.iload_n k0, 1)) (hq : pc + 1 = q) (hi : (k0 : Nat) = i) (k : Nat) (hk : lv[k]? = some (i, .int x)) (kk : GG R nL l D X cl sl n ad E q lv (.int x :: st)) : GG R nL l D X cl sl n ad E pc lv (st) := by
  subst hq
  exact fun H locs ls hP hD hS hl => lv_iload_n F.x F.b hd hi (lv_at hl k hk) (kk H locs ls hP hD hS hl)
theorem g_iload (F : Fr own cc nL D cA X) {i : Nat} {x : Int32} (hd : decode cc pc = .ok (.iload i, 2)) (hq : pc + 2 = q) (k : Nat) (hk : lv[k]? = some (i, .int x)) (kk : GG R nL l D X cl sl n ad E q lv (.int x :: st)) : GG R nL l D X cl sl n ad E pc lv (st) := by
  subst hq
  exact fun H locs ls hP hD hS hl => lv_iload F.x F.b hd (lv_at hl k hk) (kk H locs ls hP hD hS hl)
theorem g_istore_n (F : Fr own cc nL D cA X) {k0 : Fin 4} {i : Nat} {x : Int32} {lv' : List (Nat × Value)} (hd : decode cc pc = .ok (.istore_n k0, 1)) (hq : pc + 1 = q) (hi : (k0 : Nat) = i) (hn : i < nL) (hv : (i, Value.int x) :: lv.filter (fun q => !(q.1 == i) && !(q.1 + 1 == i && q.2.category == 2)) = lv') (kk : GG R nL l D X cl sl n ad E q lv' st) : GG R nL l D X cl sl n ad E pc lv (.int x :: st) := by
  subst hq
  exact fun H locs ls hP hD hS hl => lv_istore_n F.x F.b hd hi hl hn hv (fun ls' hl' => kk H locs ls' hP hD hS hl')
theorem g_istore (F : Fr own cc nL D cA X) {i : Nat} {x : Int32} {lv' : List (Nat × Value)} (hd : decode cc pc = .ok (.istore i, 2)) (hq : pc + 2 = q) (hn : i < nL) (hv : (i, Value.int x) :: lv.filter (fun q => !(q.1 == i) && !(q.1 + 1 == i && q.2.category == 2)) = lv') (kk : GG R nL l D X cl sl n ad E q lv' st) : GG R nL l D X cl sl n ad E pc lv (.int x :: st) := by
  subst hq
  exact fun H locs ls hP hD hS hl => lv_istore F.x F.b hd hl hn hv (fun ls' hl' => kk H locs ls' hP hD hS hl')
theorem g_lload_n (F : Fr own cc nL D cA X) {k0 : Fin 4} {i : Nat} {x : Int64} (hd : decode cc pc = .ok (.lload_n k0, 1)) (hq : pc + 1 = q) (hi : (k0 : Nat) = i) (k : Nat) (hk : lv[k]? = some (i, .long x)) (kk : GG R nL l D X cl sl n ad E q lv (.long x :: st)) : GG R nL l D X cl sl n ad E pc lv (st) := by
  subst hq
  exact fun H locs ls hP hD hS hl => lv_lload_n F.x F.b hd hi (lv_at hl k hk) (kk H locs ls hP hD hS hl)
theorem g_lload (F : Fr own cc nL D cA X) {i : Nat} {x : Int64} (hd : decode cc pc = .ok (.lload i, 2)) (hq : pc + 2 = q) (k : Nat) (hk : lv[k]? = some (i, .long x)) (kk : GG R nL l D X cl sl n ad E q lv (.long x :: st)) : GG R nL l D X cl sl n ad E pc lv (st) := by
  subst hq
  exact fun H locs ls hP hD hS hl => lv_lload F.x F.b hd (lv_at hl k hk) (kk H locs ls hP hD hS hl)
theorem g_lstore_n (F : Fr own cc nL D cA X) {k0 : Fin 4} {i : Nat} {x : Int64} {lv' : List (Nat × Value)} (hd : decode cc pc = .ok (.lstore_n k0, 1)) (hq : pc + 1 = q) (hi : (k0 : Nat) = i) (hn : i + 1 < nL) (hv : (i, Value.long x) :: lv.filter (fun q => !(q.1 == i) && (!(q.1 == i + 1) && !(q.1 + 1 == i && q.2.category == 2))) = lv') (kk : GG R nL l D X cl sl n ad E q lv' st) : GG R nL l D X cl sl n ad E pc lv (.long x :: st) := by
  subst hq
  exact fun H locs ls hP hD hS hl => lv_lstore_n F.x F.b hd hi hl hn hv (fun ls' hl' => kk H locs ls' hP hD hS hl')
theorem g_lstore (F : Fr own cc nL D cA X) {i : Nat} {x : Int64} {lv' : List (Nat × Value)} (hd : decode cc pc = .ok (.lstore i, 2)) (hq : pc + 2 = q) (hn : i + 1 < nL) (hv : (i, Value.long x) :: lv.filter (fun q => !(q.1 == i) && (!(q.1 == i + 1) && !(q.1 + 1 == i && q.2.category == 2))) = lv') (kk : GG R nL l D X cl sl n ad E q lv' st) : GG R nL l D X cl sl n ad E pc lv (.long x :: st) := by
  subst hq
  exact fun H locs ls hP hD hS hl => lv_lstore F.x F.b hd hl hn hv (fun ls' hl' => kk H locs ls' hP hD hS hl')
theorem g_aload_n (F : Fr own cc nL D cA X) {k0 : Fin 4} {i : Nat} {x : Nat} (hd : decode cc pc = .ok (.aload_n k0, 1)) (hq : pc + 1 = q) (hi : (k0 : Nat) = i) (k : Nat) (hk : lv[k]? = some (i, .ref x)) (kk : GG R nL l D X cl sl n ad E q lv (.ref x :: st)) : GG R nL l D X cl sl n ad E pc lv (st) := by
  subst hq
  exact fun H locs ls hP hD hS hl => lv_aload_n F.x F.b hd hi (lv_at hl k hk) (kk H locs ls hP hD hS hl)
theorem g_aload (F : Fr own cc nL D cA X) {i : Nat} {x : Nat} (hd : decode cc pc = .ok (.aload i, 2)) (hq : pc + 2 = q) (k : Nat) (hk : lv[k]? = some (i, .ref x)) (kk : GG R nL l D X cl sl n ad E q lv (.ref x :: st)) : GG R nL l D X cl sl n ad E pc lv (st) := by
  subst hq
  exact fun H locs ls hP hD hS hl => lv_aload F.x F.b hd (lv_at hl k hk) (kk H locs ls hP hD hS hl)
theorem g_astore_n (F : Fr own cc nL D cA X) {k0 : Fin 4} {i : Nat} {x : Nat} {lv' : List (Nat × Value)} (hd : decode cc pc = .ok (.astore_n k0, 1)) (hq : pc + 1 = q) (hi : (k0 : Nat) = i) (hn : i < nL) (hv : (i, Value.ref x) :: lv.filter (fun q => !(q.1 == i) && !(q.1 + 1 == i && q.2.category == 2)) = lv') (kk : GG R nL l D X cl sl n ad E q lv' st) : GG R nL l D X cl sl n ad E pc lv (.ref x :: st) := by
  subst hq
  exact fun H locs ls hP hD hS hl => lv_astore_n F.x F.b hd hi hl hn hv (fun ls' hl' => kk H locs ls' hP hD hS hl')
theorem g_astore (F : Fr own cc nL D cA X) {i : Nat} {x : Nat} {lv' : List (Nat × Value)} (hd : decode cc pc = .ok (.astore i, 2)) (hq : pc + 2 = q) (hn : i < nL) (hv : (i, Value.ref x) :: lv.filter (fun q => !(q.1 == i) && !(q.1 + 1 == i && q.2.category == 2)) = lv') (kk : GG R nL l D X cl sl n ad E q lv' st) : GG R nL l D X cl sl n ad E pc lv (.ref x :: st) := by
  subst hq
  exact fun H locs ls hP hD hS hl => lv_astore F.x F.b hd hl hn hv (fun ls' hl' => kk H locs ls' hP hD hS hl')
theorem g_iinc (F : Fr own cc nL D cA X) {i : Nat} {d : Int} {x v : Int32} {lv' : List (Nat × Value)} (hd : decode cc pc = .ok (.iinc i d, 3)) (hq : pc + 3 = q) (k : Nat) (hk : lv[k]? = some (i, .int x)) (hx : x + Int32.ofInt d = v) (hn : i < nL) (hv : (i, Value.int v) :: lv.filter (fun q => !(q.1 == i) && !(q.1 + 1 == i && q.2.category == 2)) = lv') (kk : GG R nL l D X cl sl n ad E q lv' st) : GG R nL l D X cl sl n ad E pc lv st := by
  subst hq
  exact fun H locs ls hP hD hS hl => lv_iinc F.x F.b hd hl hk hx hn hv (fun ls' hl' => kk H locs ls' hP hD hS hl')
theorem g_iconst (F : Fr own cc nL D cA X) {i : Int} {v : Int32} (hd : decode cc pc = .ok (.iconst i, 1)) (hq : pc + 1 = q) (hv : Int32.ofInt i = v) (kk : GG R nL l D X cl sl n ad E q lv (.int v :: st)) : GG R nL l D X cl sl n ad E pc lv (st) := by
  subst hq
  exact fun H locs ls hP hD hS hl => lv_iconst F.x F.b hd hv (kk H locs ls hP hD hS hl)
theorem g_bipush (F : Fr own cc nL D cA X) {i : Int} {v : Int32} (hd : decode cc pc = .ok (.bipush i, 2)) (hq : pc + 2 = q) (hv : (Int8.ofInt i).toInt32 = v) (kk : GG R nL l D X cl sl n ad E q lv (.int v :: st)) : GG R nL l D X cl sl n ad E pc lv (st) := by
  subst hq
  exact fun H locs ls hP hD hS hl => lv_bipush F.x F.b hd hv (kk H locs ls hP hD hS hl)
theorem g_sipush (F : Fr own cc nL D cA X) {i : Int} {v : Int32} (hd : decode cc pc = .ok (.sipush i, 3)) (hq : pc + 3 = q) (hv : (Int16.ofInt i).toInt32 = v) (kk : GG R nL l D X cl sl n ad E q lv (.int v :: st)) : GG R nL l D X cl sl n ad E pc lv (st) := by
  subst hq
  exact fun H locs ls hP hD hS hl => lv_sipush F.x F.b hd hv (kk H locs ls hP hD hS hl)
theorem g_lconst (F : Fr own cc nL D cA X) {i : Fin 2} {v : Int64} (hd : decode cc pc = .ok (.lconst i, 1)) (hq : pc + 1 = q) (hv : Int64.ofNat (i : Nat) = v) (kk : GG R nL l D X cl sl n ad E q lv (.long v :: st)) : GG R nL l D X cl sl n ad E pc lv (st) := by
  subst hq
  exact fun H locs ls hP hD hS hl => lv_lconst F.x F.b hd hv (kk H locs ls hP hD hS hl)
theorem g_ldc (F : Fr own cc nL D cA X) {ix : Nat} {v : Int32} (hd : decode cc pc = .ok (.ldc ix, 2)) (hq : pc + 2 = q) (hw : Jvm.Cond.constant own ix v ∈ TT) (kk : GG R nL l D X cl sl n ad E q lv (.int v :: st)) : GG R nL l D X cl sl n ad E pc lv (st) := by
  subst hq
  exact fun H locs ls hP hD hS hl => lv_ldc F.x F.b F.o (F.t _ hw) hd (kk H locs ls hP hD hS hl)
theorem g_ldc2 (F : Fr own cc nL D cA X) {ix : Nat} {v : Int64} (hd : decode cc pc = .ok (.ldc2_w ix, 3)) (hq : pc + 3 = q) (hw : Jvm.Cond.constantLong own ix v ∈ TT) (kk : GG R nL l D X cl sl n ad E q lv (.long v :: st)) : GG R nL l D X cl sl n ad E pc lv (st) := by
  subst hq
  exact fun H locs ls hP hD hS hl => lv_ldc2 F.x F.b F.o (F.t _ hw) hd (kk H locs ls hP hD hS hl)
theorem g_iadd (F : Fr own cc nL D cA X) {x y : Int32} (hd : decode cc pc = .ok (.iadd, 1)) (hq : pc + 1 = q) (kk : GG R nL l D X cl sl n ad E q lv (.int (x + y) :: st)) : GG R nL l D X cl sl n ad E pc lv (.int y :: .int x :: st) := by
  subst hq
  exact fun H locs ls hP hD hS hl => lv_iadd F.x F.b hd (kk H locs ls hP hD hS hl)
theorem g_isub (F : Fr own cc nL D cA X) {x y : Int32} (hd : decode cc pc = .ok (.isub, 1)) (hq : pc + 1 = q) (kk : GG R nL l D X cl sl n ad E q lv (.int (x - y) :: st)) : GG R nL l D X cl sl n ad E pc lv (.int y :: .int x :: st) := by
  subst hq
  exact fun H locs ls hP hD hS hl => lv_isub F.x F.b hd (kk H locs ls hP hD hS hl)
theorem g_imul (F : Fr own cc nL D cA X) {x y : Int32} (hd : decode cc pc = .ok (.imul, 1)) (hq : pc + 1 = q) (kk : GG R nL l D X cl sl n ad E q lv (.int (x * y) :: st)) : GG R nL l D X cl sl n ad E pc lv (.int y :: .int x :: st) := by
  subst hq
  exact fun H locs ls hP hD hS hl => lv_imul F.x F.b hd (kk H locs ls hP hD hS hl)
theorem g_iand (F : Fr own cc nL D cA X) {x y : Int32} (hd : decode cc pc = .ok (.iand, 1)) (hq : pc + 1 = q) (kk : GG R nL l D X cl sl n ad E q lv (.int (x &&& y) :: st)) : GG R nL l D X cl sl n ad E pc lv (.int y :: .int x :: st) := by
  subst hq
  exact fun H locs ls hP hD hS hl => lv_iand F.x F.b hd (kk H locs ls hP hD hS hl)
theorem g_ixor (F : Fr own cc nL D cA X) {x y : Int32} (hd : decode cc pc = .ok (.ixor, 1)) (hq : pc + 1 = q) (kk : GG R nL l D X cl sl n ad E q lv (.int (x ^^^ y) :: st)) : GG R nL l D X cl sl n ad E pc lv (.int y :: .int x :: st) := by
  subst hq
  exact fun H locs ls hP hD hS hl => lv_ixor F.x F.b hd (kk H locs ls hP hD hS hl)
theorem g_ladd (F : Fr own cc nL D cA X) {x y : Int64} (hd : decode cc pc = .ok (.ladd, 1)) (hq : pc + 1 = q) (kk : GG R nL l D X cl sl n ad E q lv (.long (x + y) :: st)) : GG R nL l D X cl sl n ad E pc lv (.long y :: .long x :: st) := by
  subst hq
  exact fun H locs ls hP hD hS hl => lv_ladd F.x F.b hd (kk H locs ls hP hD hS hl)
theorem g_lsub (F : Fr own cc nL D cA X) {x y : Int64} (hd : decode cc pc = .ok (.lsub, 1)) (hq : pc + 1 = q) (kk : GG R nL l D X cl sl n ad E q lv (.long (x - y) :: st)) : GG R nL l D X cl sl n ad E pc lv (.long y :: .long x :: st) := by
  subst hq
  exact fun H locs ls hP hD hS hl => lv_lsub F.x F.b hd (kk H locs ls hP hD hS hl)
theorem g_lmul (F : Fr own cc nL D cA X) {x y : Int64} (hd : decode cc pc = .ok (.lmul, 1)) (hq : pc + 1 = q) (kk : GG R nL l D X cl sl n ad E q lv (.long (x * y) :: st)) : GG R nL l D X cl sl n ad E pc lv (.long y :: .long x :: st) := by
  subst hq
  exact fun H locs ls hP hD hS hl => lv_lmul F.x F.b hd (kk H locs ls hP hD hS hl)
theorem g_lxor (F : Fr own cc nL D cA X) {x y : Int64} (hd : decode cc pc = .ok (.lxor, 1)) (hq : pc + 1 = q) (kk : GG R nL l D X cl sl n ad E q lv (.long (x ^^^ y) :: st)) : GG R nL l D X cl sl n ad E pc lv (.long y :: .long x :: st) := by
  subst hq
  exact fun H locs ls hP hD hS hl => lv_lxor F.x F.b hd (kk H locs ls hP hD hS hl)
theorem g_idiv (F : Fr own cc nL D cA X) {x y : Int32} (hd : decode cc pc = .ok (.idiv, 1)) (hq : pc + 1 = q) (hz : ¬ y = 0) (kk : GG R nL l D X cl sl n ad E q lv (.int (x / y) :: st)) : GG R nL l D X cl sl n ad E pc lv (.int y :: .int x :: st) := by
  subst hq
  exact fun H locs ls hP hD hS hl => lv_idiv F.x F.b hd hz (kk H locs ls hP hD hS hl)
theorem g_ldiv (F : Fr own cc nL D cA X) {x y : Int64} (hd : decode cc pc = .ok (.ldiv, 1)) (hq : pc + 1 = q) (hz : ¬ y = 0) (kk : GG R nL l D X cl sl n ad E q lv (.long (x / y) :: st)) : GG R nL l D X cl sl n ad E pc lv (.long y :: .long x :: st) := by
  subst hq
  exact fun H locs ls hP hD hS hl => lv_ldiv F.x F.b hd hz (kk H locs ls hP hD hS hl)
theorem g_ineg (F : Fr own cc nL D cA X) {x : Int32} (hd : decode cc pc = .ok (.ineg, 1)) (hq : pc + 1 = q) (kk : GG R nL l D X cl sl n ad E q lv (.int (-x) :: st)) : GG R nL l D X cl sl n ad E pc lv (.int x :: st) := by
  subst hq
  exact fun H locs ls hP hD hS hl => lv_ineg F.x F.b hd (kk H locs ls hP hD hS hl)
theorem g_lneg (F : Fr own cc nL D cA X) {x : Int64} (hd : decode cc pc = .ok (.lneg, 1)) (hq : pc + 1 = q) (kk : GG R nL l D X cl sl n ad E q lv (.long (-x) :: st)) : GG R nL l D X cl sl n ad E pc lv (.long x :: st) := by
  subst hq
  exact fun H locs ls hP hD hS hl => lv_lneg F.x F.b hd (kk H locs ls hP hD hS hl)
theorem g_i2l (F : Fr own cc nL D cA X) {x : Int32} (hd : decode cc pc = .ok (.i2l, 1)) (hq : pc + 1 = q) (kk : GG R nL l D X cl sl n ad E q lv (.long x.toInt64 :: st)) : GG R nL l D X cl sl n ad E pc lv (.int x :: st) := by
  subst hq
  exact fun H locs ls hP hD hS hl => lv_i2l F.x F.b hd rfl (kk H locs ls hP hD hS hl)
theorem g_l2i (F : Fr own cc nL D cA X) {x : Int64} (hd : decode cc pc = .ok (.l2i, 1)) (hq : pc + 1 = q) (kk : GG R nL l D X cl sl n ad E q lv (.int x.toInt32 :: st)) : GG R nL l D X cl sl n ad E pc lv (.long x :: st) := by
  subst hq
  exact fun H locs ls hP hD hS hl => lv_l2i F.x F.b hd rfl (kk H locs ls hP hD hS hl)
theorem g_i2c (F : Fr own cc nL D cA X) {x : Int32} (hd : decode cc pc = .ok (.i2c, 1)) (hq : pc + 1 = q) (kk : GG R nL l D X cl sl n ad E q lv (.int (x.toUInt32 % 65536).toInt32 :: st)) : GG R nL l D X cl sl n ad E pc lv (.int x :: st) := by
  subst hq
  exact fun H locs ls hP hD hS hl => lv_i2c F.x F.b hd rfl (kk H locs ls hP hD hS hl)
theorem g_dup (F : Fr own cc nL D cA X) {va : Value} (hd : decode cc pc = .ok (.dup, 1)) (hq : pc + 1 = q) (hva : va.category = 1) (kk : GG R nL l D X cl sl n ad E q lv (va :: va :: st)) : GG R nL l D X cl sl n ad E pc lv (va :: st) := by
  subst hq
  exact fun H locs ls hP hD hS hl => lv_dup F.x F.b hd hva (kk H locs ls hP hD hS hl)
theorem g_pop (F : Fr own cc nL D cA X) {va : Value} (hd : decode cc pc = .ok (.pop, 1)) (hq : pc + 1 = q) (hva : va.category = 1) (kk : GG R nL l D X cl sl n ad E q lv (st)) : GG R nL l D X cl sl n ad E pc lv (va :: st) := by
  subst hq
  exact fun H locs ls hP hD hS hl => lv_pop F.x F.b hd hva (kk H locs ls hP hD hS hl)
theorem g_dup2 (F : Fr own cc nL D cA X) {va vb : Value} (hd : decode cc pc = .ok (.dup2, 1)) (hq : pc + 1 = q) (hva : va.category = 1) (hvb : vb.category = 1) (kk : GG R nL l D X cl sl n ad E q lv (va :: vb :: va :: vb :: st)) : GG R nL l D X cl sl n ad E pc lv (va :: vb :: st) := by
  subst hq
  exact fun H locs ls hP hD hS hl => lv_dup2_11 F.x F.b hd hva hvb (kk H locs ls hP hD hS hl)
theorem g_if_eq (F : Fr own cc nL D cA X) {x : Int32} {off : Int} {tgt : Nat} (hd : decode cc pc = .ok (.ifCond .eq off, 3)) (ht : (pc : Int) + off = (tgt : Int)) (hq : pc + 3 = q) (kt : x = 0 → GG R nL l D X cl sl n ad E tgt lv st) (kf : ¬ x = 0 → GG R nL l D X cl sl n ad E q lv st) : GG R nL l D X cl sl n ad E pc lv (.int x :: st) := by
  subst hq
  exact fun H locs ls hP hD hS hl => lv_if_eq F.x F.b hd ht (fun h => kt h H locs ls hP hD hS hl) (fun h => kf h H locs ls hP hD hS hl)
theorem g_icmp_eq (F : Fr own cc nL D cA X) {x y : Int32} {off : Int} {tgt : Nat} (hd : decode cc pc = .ok (.if_icmp .eq off, 3)) (ht : (pc : Int) + off = (tgt : Int)) (hq : pc + 3 = q) (kt : x = y → GG R nL l D X cl sl n ad E tgt lv st) (kf : ¬ x = y → GG R nL l D X cl sl n ad E q lv st) : GG R nL l D X cl sl n ad E pc lv (.int y :: .int x :: st) := by
  subst hq
  exact fun H locs ls hP hD hS hl => lv_icmp_eq F.x F.b hd ht (fun h => kt h H locs ls hP hD hS hl) (fun h => kf h H locs ls hP hD hS hl)
theorem g_lcmp_eq (F : Fr own cc nL D cA X) {x y : Int64} {off : Int} {tgt : Nat} (hd0 : decode cc pc = .ok (.lcmp, 1)) (hd : decode cc (pc + 1) = .ok (.ifCond .eq off, 3)) (ht : ((pc + 1 : Nat) : Int) + off = (tgt : Int)) (hq : pc + 4 = q) (kt : x = y → GG R nL l D X cl sl n ad E tgt lv st) (kf : ¬ x = y → GG R nL l D X cl sl n ad E q lv st) : GG R nL l D X cl sl n ad E pc lv (.long y :: .long x :: st) := by
  subst hq
  exact fun H locs ls hP hD hS hl => W.lcmp F.x F.b hd0 (lv_if_eq F.x F.b hd ht (fun h => kt ((lg_cmp_eq x y).mp h) H locs ls hP hD hS hl) (fun h => kf (fun e => h ((lg_cmp_eq x y).mpr e)) H locs ls hP hD hS hl))
theorem g_if_ne (F : Fr own cc nL D cA X) {x : Int32} {off : Int} {tgt : Nat} (hd : decode cc pc = .ok (.ifCond .ne off, 3)) (ht : (pc : Int) + off = (tgt : Int)) (hq : pc + 3 = q) (kt : ¬ x = 0 → GG R nL l D X cl sl n ad E tgt lv st) (kf : x = 0 → GG R nL l D X cl sl n ad E q lv st) : GG R nL l D X cl sl n ad E pc lv (.int x :: st) := by
  subst hq
  exact fun H locs ls hP hD hS hl => lv_if_ne F.x F.b hd ht (fun h => kt h H locs ls hP hD hS hl) (fun h => kf h H locs ls hP hD hS hl)
theorem g_icmp_ne (F : Fr own cc nL D cA X) {x y : Int32} {off : Int} {tgt : Nat} (hd : decode cc pc = .ok (.if_icmp .ne off, 3)) (ht : (pc : Int) + off = (tgt : Int)) (hq : pc + 3 = q) (kt : ¬ x = y → GG R nL l D X cl sl n ad E tgt lv st) (kf : x = y → GG R nL l D X cl sl n ad E q lv st) : GG R nL l D X cl sl n ad E pc lv (.int y :: .int x :: st) := by
  subst hq
  exact fun H locs ls hP hD hS hl => lv_icmp_ne F.x F.b hd ht (fun h => kt h H locs ls hP hD hS hl) (fun h => kf h H locs ls hP hD hS hl)
theorem g_lcmp_ne (F : Fr own cc nL D cA X) {x y : Int64} {off : Int} {tgt : Nat} (hd0 : decode cc pc = .ok (.lcmp, 1)) (hd : decode cc (pc + 1) = .ok (.ifCond .ne off, 3)) (ht : ((pc + 1 : Nat) : Int) + off = (tgt : Int)) (hq : pc + 4 = q) (kt : ¬ x = y → GG R nL l D X cl sl n ad E tgt lv st) (kf : x = y → GG R nL l D X cl sl n ad E q lv st) : GG R nL l D X cl sl n ad E pc lv (.long y :: .long x :: st) := by
  subst hq
  exact fun H locs ls hP hD hS hl => W.lcmp F.x F.b hd0 (lv_if_ne F.x F.b hd ht (fun h => kt (fun e => h ((lg_cmp_eq x y).mpr e)) H locs ls hP hD hS hl) (fun h => kf ((lg_cmp_eq x y).mp h) H locs ls hP hD hS hl))
theorem g_if_lt (F : Fr own cc nL D cA X) {x : Int32} {off : Int} {tgt : Nat} (hd : decode cc pc = .ok (.ifCond .lt off, 3)) (ht : (pc : Int) + off = (tgt : Int)) (hq : pc + 3 = q) (kt : x < 0 → GG R nL l D X cl sl n ad E tgt lv st) (kf : ¬ x < 0 → GG R nL l D X cl sl n ad E q lv st) : GG R nL l D X cl sl n ad E pc lv (.int x :: st) := by
  subst hq
  exact fun H locs ls hP hD hS hl => lv_if_lt F.x F.b hd ht (fun h => kt h H locs ls hP hD hS hl) (fun h => kf h H locs ls hP hD hS hl)
theorem g_icmp_lt (F : Fr own cc nL D cA X) {x y : Int32} {off : Int} {tgt : Nat} (hd : decode cc pc = .ok (.if_icmp .lt off, 3)) (ht : (pc : Int) + off = (tgt : Int)) (hq : pc + 3 = q) (kt : x < y → GG R nL l D X cl sl n ad E tgt lv st) (kf : ¬ x < y → GG R nL l D X cl sl n ad E q lv st) : GG R nL l D X cl sl n ad E pc lv (.int y :: .int x :: st) := by
  subst hq
  exact fun H locs ls hP hD hS hl => lv_icmp_lt F.x F.b hd ht (fun h => kt h H locs ls hP hD hS hl) (fun h => kf h H locs ls hP hD hS hl)
theorem g_lcmp_lt (F : Fr own cc nL D cA X) {x y : Int64} {off : Int} {tgt : Nat} (hd0 : decode cc pc = .ok (.lcmp, 1)) (hd : decode cc (pc + 1) = .ok (.ifCond .lt off, 3)) (ht : ((pc + 1 : Nat) : Int) + off = (tgt : Int)) (hq : pc + 4 = q) (kt : x < y → GG R nL l D X cl sl n ad E tgt lv st) (kf : ¬ x < y → GG R nL l D X cl sl n ad E q lv st) : GG R nL l D X cl sl n ad E pc lv (.long y :: .long x :: st) := by
  subst hq
  exact fun H locs ls hP hD hS hl => W.lcmp F.x F.b hd0 (lv_if_lt F.x F.b hd ht (fun h => kt ((lg_cmp_lt x y).mp h) H locs ls hP hD hS hl) (fun h => kf (fun e => h ((lg_cmp_lt x y).mpr e)) H locs ls hP hD hS hl))
theorem g_if_ge (F : Fr own cc nL D cA X) {x : Int32} {off : Int} {tgt : Nat} (hd : decode cc pc = .ok (.ifCond .ge off, 3)) (ht : (pc : Int) + off = (tgt : Int)) (hq : pc + 3 = q) (kt : 0 ≤ x → GG R nL l D X cl sl n ad E tgt lv st) (kf : ¬ 0 ≤ x → GG R nL l D X cl sl n ad E q lv st) : GG R nL l D X cl sl n ad E pc lv (.int x :: st) := by
  subst hq
  exact fun H locs ls hP hD hS hl => lv_if_ge F.x F.b hd ht (fun h => kt h H locs ls hP hD hS hl) (fun h => kf h H locs ls hP hD hS hl)
theorem g_icmp_ge (F : Fr own cc nL D cA X) {x y : Int32} {off : Int} {tgt : Nat} (hd : decode cc pc = .ok (.if_icmp .ge off, 3)) (ht : (pc : Int) + off = (tgt : Int)) (hq : pc + 3 = q) (kt : y ≤ x → GG R nL l D X cl sl n ad E tgt lv st) (kf : ¬ y ≤ x → GG R nL l D X cl sl n ad E q lv st) : GG R nL l D X cl sl n ad E pc lv (.int y :: .int x :: st) := by
  subst hq
  exact fun H locs ls hP hD hS hl => lv_icmp_ge F.x F.b hd ht (fun h => kt h H locs ls hP hD hS hl) (fun h => kf h H locs ls hP hD hS hl)
theorem g_lcmp_ge (F : Fr own cc nL D cA X) {x y : Int64} {off : Int} {tgt : Nat} (hd0 : decode cc pc = .ok (.lcmp, 1)) (hd : decode cc (pc + 1) = .ok (.ifCond .ge off, 3)) (ht : ((pc + 1 : Nat) : Int) + off = (tgt : Int)) (hq : pc + 4 = q) (kt : y ≤ x → GG R nL l D X cl sl n ad E tgt lv st) (kf : ¬ y ≤ x → GG R nL l D X cl sl n ad E q lv st) : GG R nL l D X cl sl n ad E pc lv (.long y :: .long x :: st) := by
  subst hq
  exact fun H locs ls hP hD hS hl => W.lcmp F.x F.b hd0 (lv_if_ge F.x F.b hd ht (fun h => kt ((lg_cmp_ge x y).mp h) H locs ls hP hD hS hl) (fun h => kf (fun e => h ((lg_cmp_ge x y).mpr e)) H locs ls hP hD hS hl))
theorem g_if_gt (F : Fr own cc nL D cA X) {x : Int32} {off : Int} {tgt : Nat} (hd : decode cc pc = .ok (.ifCond .gt off, 3)) (ht : (pc : Int) + off = (tgt : Int)) (hq : pc + 3 = q) (kt : 0 < x → GG R nL l D X cl sl n ad E tgt lv st) (kf : ¬ 0 < x → GG R nL l D X cl sl n ad E q lv st) : GG R nL l D X cl sl n ad E pc lv (.int x :: st) := by
  subst hq
  exact fun H locs ls hP hD hS hl => lv_if_gt F.x F.b hd ht (fun h => kt h H locs ls hP hD hS hl) (fun h => kf h H locs ls hP hD hS hl)
theorem g_icmp_gt (F : Fr own cc nL D cA X) {x y : Int32} {off : Int} {tgt : Nat} (hd : decode cc pc = .ok (.if_icmp .gt off, 3)) (ht : (pc : Int) + off = (tgt : Int)) (hq : pc + 3 = q) (kt : y < x → GG R nL l D X cl sl n ad E tgt lv st) (kf : ¬ y < x → GG R nL l D X cl sl n ad E q lv st) : GG R nL l D X cl sl n ad E pc lv (.int y :: .int x :: st) := by
  subst hq
  exact fun H locs ls hP hD hS hl => lv_icmp_gt F.x F.b hd ht (fun h => kt h H locs ls hP hD hS hl) (fun h => kf h H locs ls hP hD hS hl)
theorem g_lcmp_gt (F : Fr own cc nL D cA X) {x y : Int64} {off : Int} {tgt : Nat} (hd0 : decode cc pc = .ok (.lcmp, 1)) (hd : decode cc (pc + 1) = .ok (.ifCond .gt off, 3)) (ht : ((pc + 1 : Nat) : Int) + off = (tgt : Int)) (hq : pc + 4 = q) (kt : y < x → GG R nL l D X cl sl n ad E tgt lv st) (kf : ¬ y < x → GG R nL l D X cl sl n ad E q lv st) : GG R nL l D X cl sl n ad E pc lv (.long y :: .long x :: st) := by
  subst hq
  exact fun H locs ls hP hD hS hl => W.lcmp F.x F.b hd0 (lv_if_gt F.x F.b hd ht (fun h => kt ((lg_cmp_gt x y).mp h) H locs ls hP hD hS hl) (fun h => kf (fun e => h ((lg_cmp_gt x y).mpr e)) H locs ls hP hD hS hl))
theorem g_if_le (F : Fr own cc nL D cA X) {x : Int32} {off : Int} {tgt : Nat} (hd : decode cc pc = .ok (.ifCond .le off, 3)) (ht : (pc : Int) + off = (tgt : Int)) (hq : pc + 3 = q) (kt : x ≤ 0 → GG R nL l D X cl sl n ad E tgt lv st) (kf : ¬ x ≤ 0 → GG R nL l D X cl sl n ad E q lv st) : GG R nL l D X cl sl n ad E pc lv (.int x :: st) := by
  subst hq
  exact fun H locs ls hP hD hS hl => lv_if_le F.x F.b hd ht (fun h => kt h H locs ls hP hD hS hl) (fun h => kf h H locs ls hP hD hS hl)
theorem g_icmp_le (F : Fr own cc nL D cA X) {x y : Int32} {off : Int} {tgt : Nat} (hd : decode cc pc = .ok (.if_icmp .le off, 3)) (ht : (pc : Int) + off = (tgt : Int)) (hq : pc + 3 = q) (kt : x ≤ y → GG R nL l D X cl sl n ad E tgt lv st) (kf : ¬ x ≤ y → GG R nL l D X cl sl n ad E q lv st) : GG R nL l D X cl sl n ad E pc lv (.int y :: .int x :: st) := by
  subst hq
  exact fun H locs ls hP hD hS hl => lv_icmp_le F.x F.b hd ht (fun h => kt h H locs ls hP hD hS hl) (fun h => kf h H locs ls hP hD hS hl)
theorem g_lcmp_le (F : Fr own cc nL D cA X) {x y : Int64} {off : Int} {tgt : Nat} (hd0 : decode cc pc = .ok (.lcmp, 1)) (hd : decode cc (pc + 1) = .ok (.ifCond .le off, 3)) (ht : ((pc + 1 : Nat) : Int) + off = (tgt : Int)) (hq : pc + 4 = q) (kt : x ≤ y → GG R nL l D X cl sl n ad E tgt lv st) (kf : ¬ x ≤ y → GG R nL l D X cl sl n ad E q lv st) : GG R nL l D X cl sl n ad E pc lv (.long y :: .long x :: st) := by
  subst hq
  exact fun H locs ls hP hD hS hl => W.lcmp F.x F.b hd0 (lv_if_le F.x F.b hd ht (fun h => kt ((lg_cmp_le x y).mp h) H locs ls hP hD hS hl) (fun h => kf (fun e => h ((lg_cmp_le x y).mpr e)) H locs ls hP hD hS hl))
theorem g_goto (F : Fr own cc nL D cA X) {off : Int} {tgt : Nat} (hd : decode cc pc = .ok (.goto off, 3)) (ht : (pc : Int) + off = (tgt : Int)) (kk : GG R nL l D X cl sl n ad E tgt lv st) : GG R nL l D X cl sl n ad E pc lv st := fun H locs ls hP hD hS hl => lv_goto F.x F.b hd ht (kk H locs ls hP hD hS hl)
theorem g_tabIn (F : Fr own cc nL D cA X) {dflt lo hi : Int} {offs : Array Int} {len : Nat} {x : Int32} {off : Int} {tgt : Nat} (hd : decode cc pc = .ok (.tableswitch dflt lo hi offs, len)) (h1 : ¬ x.toInt < lo) (h2 : ¬ hi < x.toInt) (ho : offs[(x.toInt - lo).toNat]? = some off) (ht : (pc : Int) + off = (tgt : Int)) (kk : GG R nL l D X cl sl n ad E tgt lv st) : GG R nL l D X cl sl n ad E pc lv (.int x :: st) := fun H locs ls hP hD hS hl => lv_tableIn F.x F.b hd h1 h2 ho ht (kk H locs ls hP hD hS hl)
theorem g_tabOut (F : Fr own cc nL D cA X) {dflt lo hi : Int} {offs : Array Int} {len : Nat} {x : Int32} {tgt : Nat} (hd : decode cc pc = .ok (.tableswitch dflt lo hi offs, len)) (h : x.toInt < lo ∨ hi < x.toInt) (ht : (pc : Int) + dflt = (tgt : Int)) (kk : GG R nL l D X cl sl n ad E tgt lv st) : GG R nL l D X cl sl n ad E pc lv (.int x :: st) := fun H locs ls hP hD hS hl => lv_tableOut F.x F.b hd h ht (kk H locs ls hP hD hS hl)
theorem g_getf (F : Fr own cc nL D cA X) {C : String} {T : u_T} {N ci ix k j : Nat} {fs : List Value} {v : Value} (hE : E k = .inr (ci, fs)) (hc : vwCl[ci]? = some (C, T, N)) (hin : ∀ w ∈ u_ws C T N, w ∈ TT) (hkn : k < n) (hj : j < N) (hw : Cond.fieldLink own ix C (T j).2.1 (T j).2.2.1 ∈ TT) (hr : (T j).1 = C) (hv : fs[j]? = some v) (hd : decode cc pc = .ok (.getfield ix, 3)) (hq : pc + 3 = q) (kk : GG R nL l D X cl sl n ad E q lv (v :: st)) : GG R nL l D X cl sl n ad E pc lv (.ref (ad k) :: st) := by
  subst hq
  exact fun H locs ls hP hD hS hl => va_get (ref := C) F.x F.b F.t hin F.o F.k hP k (by rw [wl_get hkn, hE]) hc j hj (F.t _ hw) (fun x h => by rw [hr] at h; exact h) hv hd (kk H locs ls hP hD hS hl)
theorem g_putf (F : Fr own cc nL D cA X) {C : String} {T : u_T} {N ci ix k j : Nat} {fs : List Value} {v : Value} {ty : FieldType} (hE : E k = .inr (ci, fs)) (hc : vwCl[ci]? = some (C, T, N)) (hin : ∀ w ∈ u_ws C T N, w ∈ TT) (ty0 : Nat → FieldType) (hty : ∀ k, k < N → parseFieldDescriptor (T k).2.2.1 = some (ty0 k)) (hnm : ∀ a, a < N → ∀ b, b < N → a ≠ b → (T a).2.1 ≠ (T b).2.1) (hkn : k < n) (hj : j < N) (hw : Cond.fieldLink own ix C (T j).2.1 (T j).2.2.1 ∈ TT) (hr : (T j).1 = C) (hfin : (T j).2.2.2 = false) (hp : parseFieldDescriptor (T j).2.2.1 = some ty) (hnr : narrow ty v = v) (hft : fits ty v = true) (hlen : j < fs.length) (hd : decode cc pc = .ok (.putfield ix, 3)) (hq : pc + 3 = q)
    (kk : ∀ E' : Nat → va_E, E' k = .inr (ci, fs.set j v) → (∀ j', j' ≠ k → E' j' = E j') → GG R nL l D X cl sl n ad E' q lv st) : GG R nL l D X cl sl n ad E pc lv (v :: .ref (ad k) :: st) := by
  subst hq
  exact fun H locs ls hP hD hS hl => va_put (ref := C) F.x F.b F.t hin ty0 hty hnm F.o F.k hP hD hS k (by rw [wl_get hkn, hE]) hc j hj (F.t _ hw) (fun x h => by rw [hr] at h; exact h) hfin hp hnr hft hlen hd (fun H1 locs1 hP1 hD1 hS1 => kk (va_up E k (.inr (ci, fs.set j v))) (by simp [va_up]) (fun j' h => by simp [va_up, h]) H1 locs1 ls (by rw [← wl_set hkn]; exact hP1) (wl_D hD) hS1 hl)
theorem g_putF (F : Fr own cc nL D cA X) {C : String} {T : u_T} {N ci ix k j : Nat} {fs : List Value} {v : Value} {ty : FieldType} (hE : E k = .inr (ci, fs)) (hc : vwCl[ci]? = some (C, T, N)) (hin : ∀ w ∈ u_ws C T N, w ∈ TT) (ty0 : Nat → FieldType) (hty : ∀ k, k < N → parseFieldDescriptor (T k).2.2.1 = some (ty0 k)) (hnm : ∀ a, a < N → ∀ b, b < N → a ≠ b → (T a).2.1 ≠ (T b).2.1) (hkn : k < n) (hj : j < N) (hw : Cond.fieldLink own ix C (T j).2.1 (T j).2.2.1 ∈ TT) (hr : (T j).1 = C) (hfin : (T j).2.2.2 = true) (hin2 : X.2.2.2.2.2.2.1.name = "<init>") (hown : C = own) (hp : parseFieldDescriptor (T j).2.2.1 = some ty) (hnr : narrow ty v = v) (hft : fits ty v = true) (hlen : j < fs.length) (hd : decode cc pc = .ok (.putfield ix, 3)) (hq : pc + 3 = q)
    (kk : ∀ E' : Nat → va_E, E' k = .inr (ci, fs.set j v) → (∀ j', j' ≠ k → E' j' = E j') → GG R nL l D X cl sl n ad E' q lv st) : GG R nL l D X cl sl n ad E pc lv (v :: .ref (ad k) :: st) := by
  subst hq
  exact fun H locs ls hP hD hS hl => va_putF (ref := C) F.x F.b F.t hin ty0 hty hnm F.o F.k hP hD hS k (by rw [wl_get hkn, hE]) hc j hj (F.t _ hw) (fun x h => by rw [hr] at h; exact h) hfin hin2 (by rw [hr]; exact hown) hp hnr hft hlen hd (fun H1 locs1 hP1 hD1 hS1 => kk (va_up E k (.inr (ci, fs.set j v))) (by simp [va_up]) (fun j' h => by simp [va_up, h]) H1 locs1 ls (by rw [← wl_set hkn]; exact hP1) (wl_D hD) hS1 hl)
theorem g_iald (F : Fr own cc nL D cA X) {k N : Nat} {f : Nat → Int32} {i : Int32} (j : Nat) (hE : E k = .inl (cA 0, N, .inl f)) (hkn : k < n) (hi : i = nI j) (hj : j < N) (hN : N < 2 ^ 31) (hd : decode cc pc = .ok (.iaload, 1)) (hq : pc + 1 = q) (kk : GG R nL l D X cl sl n ad E q lv (.int (f j) :: st)) : GG R nL l D X cl sl n ad E pc lv (.int i :: .ref (ad k) :: st) := by
  subst hq
  subst hi
  exact fun H locs ls hP hD hS hl => va_iald F.x F.b F.k hP k 0 (cA := cA 0) (n := N) (f := f) (by rw [wl_get hkn, hE]) rfl (vp_in_nI hj hN) hd (by rw [nI_clamp (Nat.lt_trans hj hN)]; exact kk H locs ls hP hD hS hl)
theorem g_zald (F : Fr own cc nL D cA X) {k N : Nat} {f : Nat → Int32} {i : Int32} (j : Nat) (hE : E k = .inl (cA 2, N, .inl f)) (hkn : k < n) (hi : i = nI j) (hj : j < N) (hN : N < 2 ^ 31) (hd : decode cc pc = .ok (.baload, 1)) (hq : pc + 1 = q) (kk : GG R nL l D X cl sl n ad E q lv (.int (f j) :: st)) : GG R nL l D X cl sl n ad E pc lv (.int i :: .ref (ad k) :: st) := by
  subst hq
  subst hi
  exact fun H locs ls hP hD hS hl => va_zald F.x F.b F.k hP k 2 (cA := cA 2) (n := N) (f := f) (by rw [wl_get hkn, hE]) rfl (vp_in_nI hj hN) hd (by rw [nI_clamp (Nat.lt_trans hj hN)]; exact kk H locs ls hP hD hS hl)
theorem g_cald (F : Fr own cc nL D cA X) {k N : Nat} {f : Nat → Int32} {i : Int32} (j : Nat) (hE : E k = .inl (cA 3, N, .inl f)) (hkn : k < n) (hi : i = nI j) (hj : j < N) (hN : N < 2 ^ 31) (hd : decode cc pc = .ok (.caload, 1)) (hq : pc + 1 = q) (kk : GG R nL l D X cl sl n ad E q lv (.int (f j) :: st)) : GG R nL l D X cl sl n ad E pc lv (.int i :: .ref (ad k) :: st) := by
  subst hq
  subst hi
  exact fun H locs ls hP hD hS hl => va_cald F.x F.b F.k hP k 3 (cA := cA 3) (n := N) (f := f) (by rw [wl_get hkn, hE]) rfl (vp_in_nI hj hN) hd (by rw [nI_clamp (Nat.lt_trans hj hN)]; exact kk H locs ls hP hD hS hl)
theorem g_lald (F : Fr own cc nL D cA X) {k N : Nat} {f : Nat → Int64} {i : Int32} (j : Nat) (hE : E k = .inl (cA 1, N, .inr (.inl f))) (hkn : k < n) (hi : i = nI j) (hj : j < N) (hN : N < 2 ^ 31) (hd : decode cc pc = .ok (.laload, 1)) (hq : pc + 1 = q) (kk : GG R nL l D X cl sl n ad E q lv (.long (f j) :: st)) : GG R nL l D X cl sl n ad E pc lv (.int i :: .ref (ad k) :: st) := by
  subst hq
  subst hi
  exact fun H locs ls hP hD hS hl => va_lald F.x F.b F.k hP k 1 (cA := cA 1) (n := N) (f := f) (by rw [wl_get hkn, hE]) rfl (vp_in_nI hj hN) hd (by rw [nI_clamp (Nat.lt_trans hj hN)]; exact kk H locs ls hP hD hS hl)
theorem g_iast (F : Fr own cc nL D cA X) {k N : Nat} {f : Nat → Int32} {i : Int32} {x : Int32} (j : Nat) (hE : E k = .inl (cA 0, N, .inl f)) (hkn : k < n) (hi : i = nI j) (hj : j < N) (hN : N < 2 ^ 31) (hd : decode cc pc = .ok (.iastore, 1)) (hq : pc + 1 = q)
    (kk : ∀ E' : Nat → va_E, E' k = .inl (cA 0, N, .inl (upd f j x)) → (∀ j', j' ≠ k → E' j' = E j') → GG R nL l D X cl sl n ad E' q lv st) : GG R nL l D X cl sl n ad E pc lv (.int x :: .int i :: .ref (ad k) :: st) := by
  subst hq
  subst hi
  exact fun H locs ls hP hD hS hl => va_iast F.x F.b F.k hP hD hS k 0 (cA := cA 0) (n := N) (f := f) (by rw [wl_get hkn, hE]) rfl (vp_in_nI hj hN) hd (fun H1 locs1 hP1 hD1 hS1 => kk (va_up E k (.inl (cA 0, N, .inl (upd f j x)))) (by simp [va_up]) (fun j' h => by simp [va_up, h]) H1 locs1 ls (by rw [← wl_set hkn]; rw [nI_clamp (Nat.lt_trans hj hN)] at hP1; exact hP1) (wl_D hD) hS1 hl)
theorem g_zast (F : Fr own cc nL D cA X) {k N : Nat} {f : Nat → Int32} {i : Int32} {x : Int32} (j : Nat) (hE : E k = .inl (cA 2, N, .inl f)) (hkn : k < n) (hi : i = nI j) (hj : j < N) (hN : N < 2 ^ 31) (hnr : vp_nar .boolean x = x) (hd : decode cc pc = .ok (.bastore, 1)) (hq : pc + 1 = q)
    (kk : ∀ E' : Nat → va_E, E' k = .inl (cA 2, N, .inl (upd f j x)) → (∀ j', j' ≠ k → E' j' = E j') → GG R nL l D X cl sl n ad E' q lv st) : GG R nL l D X cl sl n ad E pc lv (.int x :: .int i :: .ref (ad k) :: st) := by
  subst hq
  subst hi
  exact fun H locs ls hP hD hS hl => va_zast F.x F.b F.k hP hD hS k 2 (cA := cA 2) (n := N) (f := f) (by rw [wl_get hkn, hE]) rfl (vp_in_nI hj hN) hd (fun H1 locs1 hP1 hD1 hS1 => kk (va_up E k (.inl (cA 2, N, .inl (upd f j x)))) (by simp [va_up]) (fun j' h => by simp [va_up, h]) H1 locs1 ls (by rw [← wl_set hkn]; rw [hnr, nI_clamp (Nat.lt_trans hj hN)] at hP1; exact hP1) (wl_D hD) hS1 hl)
theorem g_cast (F : Fr own cc nL D cA X) {k N : Nat} {f : Nat → Int32} {i : Int32} {x : Int32} (j : Nat) (hE : E k = .inl (cA 3, N, .inl f)) (hkn : k < n) (hi : i = nI j) (hj : j < N) (hN : N < 2 ^ 31) (hnr : vp_nar .char x = x) (hd : decode cc pc = .ok (.castore, 1)) (hq : pc + 1 = q)
    (kk : ∀ E' : Nat → va_E, E' k = .inl (cA 3, N, .inl (upd f j x)) → (∀ j', j' ≠ k → E' j' = E j') → GG R nL l D X cl sl n ad E' q lv st) : GG R nL l D X cl sl n ad E pc lv (.int x :: .int i :: .ref (ad k) :: st) := by
  subst hq
  subst hi
  exact fun H locs ls hP hD hS hl => va_cast F.x F.b F.k hP hD hS k 3 (cA := cA 3) (n := N) (f := f) (by rw [wl_get hkn, hE]) rfl (vp_in_nI hj hN) hd (fun H1 locs1 hP1 hD1 hS1 => kk (va_up E k (.inl (cA 3, N, .inl (upd f j x)))) (by simp [va_up]) (fun j' h => by simp [va_up, h]) H1 locs1 ls (by rw [← wl_set hkn]; rw [hnr, nI_clamp (Nat.lt_trans hj hN)] at hP1; exact hP1) (wl_D hD) hS1 hl)
theorem g_last (F : Fr own cc nL D cA X) {k N : Nat} {f : Nat → Int64} {i : Int32} {x : Int64} (j : Nat) (hE : E k = .inl (cA 1, N, .inr (.inl f))) (hkn : k < n) (hi : i = nI j) (hj : j < N) (hN : N < 2 ^ 31) (hd : decode cc pc = .ok (.lastore, 1)) (hq : pc + 1 = q)
    (kk : ∀ E' : Nat → va_E, E' k = .inl (cA 1, N, .inr (.inl (vp_updL f j x))) → (∀ j', j' ≠ k → E' j' = E j') → GG R nL l D X cl sl n ad E' q lv st) : GG R nL l D X cl sl n ad E pc lv (.long x :: .int i :: .ref (ad k) :: st) := by
  subst hq
  subst hi
  exact fun H locs ls hP hD hS hl => va_last F.x F.b F.k hP hD hS k 1 (cA := cA 1) (n := N) (f := f) (by rw [wl_get hkn, hE]) rfl (vp_in_nI hj hN) hd (fun H1 locs1 hP1 hD1 hS1 => kk (va_up E k (.inl (cA 1, N, .inr (.inl (vp_updL f j x))))) (by simp [va_up]) (fun j' h => by simp [va_up, h]) H1 locs1 ls (by rw [← wl_set hkn]; rw [nI_clamp (Nat.lt_trans hj hN)] at hP1; exact hP1) (wl_D hD) hS1 hl)
theorem g_aald4 (F : Fr own cc nL D cA X) {k N a : Nat} {f : Nat → Option Nat} {i : Int32} (j : Nat) (hE : E k = .inl (cA 4, N, .inr (.inr (.inr (.inr f))))) (hkn : k < n) (hi : i = nI j) (hj : j < N) (hN : N < 2 ^ 31) (hf : f j = some a) (hd : decode cc pc = .ok (.aaload, 1)) (hq : pc + 1 = q) (kk : GG R nL l D X cl sl n ad E q lv (.ref a :: st)) : GG R nL l D X cl sl n ad E pc lv (.int i :: .ref (ad k) :: st) := by
  subst hq
  subst hi
  exact fun H locs ls hP hD hS hl => va_aldq F.x F.b F.k hP k 4 (cA := cA 4) (n := N) (f := f) (by rw [wl_get hkn, hE]) rfl (vp_in_nI hj hN) hd (by rw [nI_clamp (Nat.lt_trans hj hN), hf]; exact kk H locs ls hP hD hS hl)
theorem g_aald5 (F : Fr own cc nL D cA X) {k N a : Nat} {f : Nat → Option Nat} {i : Int32} (j : Nat) (hE : E k = .inl (cA 5, N, .inr (.inr (.inr (.inr f))))) (hkn : k < n) (hi : i = nI j) (hj : j < N) (hN : N < 2 ^ 31) (hf : f j = some a) (hd : decode cc pc = .ok (.aaload, 1)) (hq : pc + 1 = q) (kk : GG R nL l D X cl sl n ad E q lv (.ref a :: st)) : GG R nL l D X cl sl n ad E pc lv (.int i :: .ref (ad k) :: st) := by
  subst hq
  subst hi
  intro H locs ls hP hD hS hl
  have hin := vp_in_nI hj hN
  have hlt : (nI j).toNatClampNeg < N := by rw [nI_clamp (Nat.lt_trans hj hN)]; exact hj
  have h1 := hP k _ (wl_get hkn)
  rw [hE] at h1
  refine W.aald (v := va_rf (f (nI j).toNatClampNeg)) (ty := .array .int) F.x F.b h1 ((F.k.2 5 (cA 5, .array .int) rfl).1 N (fun j => va_rf (f j))) rfl (fun q => by cases q) (by show ¬ (nI j < 0 ∨ (arrV _ _ _).slots.size ≤ _); rw [arrV_size]; exact hin) (by show (arrV _ _ _).slots[_]? = _; rw [arrV_read _ _ hlt]) rfl rfl hd ?_
  rw [nI_clamp (Nat.lt_trans hj hN), hf]
  exact kk H locs ls hP hD hS hl
theorem g_aast4 (F : Fr own cc nL D cA X) {k N k2 : Nat} {f : Nat → Option Nat} {fs : List Value} {i : Int32} (j : Nat) (hE : E k = .inl (cA 4, N, .inr (.inr (.inr (.inr f))))) (hE2 : E k2 = .inr (5, fs)) (hkn : k < n) (hkn2 : k2 < n) (hi : i = nI j) (hj : j < N) (hN : N < 2 ^ 31) (hd : decode cc pc = .ok (.aastore, 1)) (hq : pc + 1 = q)
    (kk : ∀ E' : Nat → va_E, E' k = .inl (cA 4, N, .inr (.inr (.inr (.inr (va_up f j (some (ad k2))))))) → (∀ j', j' ≠ k → E' j' = E j') → GG R nL l D X cl sl n ad E' q lv st) : GG R nL l D X cl sl n ad E pc lv (.ref (ad k2) :: .int i :: .ref (ad k) :: st) := by
  subst hq
  subst hi
  exact fun H locs ls hP hD hS hl => va_astq F.x F.b F.k hP hD hS k 4 k2 5 (cA := cA 4) (r := (RX5, TX5, 11)) (n := N) (f := f) (by rw [wl_get hkn, hE]) rfl (by rw [wl_get hkn2, hE2]) rfl (vp_in_nI hj hN) hd (fun H1 locs1 hP1 hD1 hS1 => kk (va_up E k (.inl (cA 4, N, .inr (.inr (.inr (.inr (va_up f j (some (ad k2))))))))) (by simp [va_up]) (fun j' h => by simp [va_up, h]) H1 locs1 ls (by rw [← wl_set hkn]; rw [nI_clamp (Nat.lt_trans hj hN)] at hP1; exact hP1) (wl_D hD) hS1 hl)
theorem g_copyi (F : Fr own cc nL D cA X) {k0 k1 ix : Nat} {f g : Nat → Int32} (hE0 : E k0 = .inl (cA 0, 10, .inl f)) (hE1 : E k1 = .inl (cA 0, 10, .inl g)) (hk0 : k0 < n) (hk1 : k1 < n) (hw1 : Cond.methodLink own ix arraycopyName ∈ TT) (hw2 : Cond.native arraycopyName ∈ TT) (hw3 : Cond.static arraycopyName ∈ TT) (hw4 : Cond.initialized "java/lang/System" ∈ TT) (hfr : 1 ≤ R.frames) (hlo : (st.map fun v => v.category).sum + (nativeFrameWords "java/lang/System" "arraycopy" 5 + 11) ≤ R.locals) (hd : decode cc pc = .ok (.invokestatic ix, 3)) (hq : pc + 3 = q)
    (kk : ∀ (E' : Nat → va_E) (g' : Nat → Int32), E' k1 = .inl (cA 0, 10, .inl g') → (∀ i, i < 10 → g' i = f i) → (∀ j', j' ≠ k1 → E' j' = E j') → GG R nL l D X cl sl n ad E' q lv st) : GG R nL l D X cl sl n ad E pc lv (.int 10 :: .int 0 :: .ref (ad k1) :: .int 0 :: .ref (ad k0) :: st) := by
  subst hq
  have c10 : (10 : Int32).toNatClampNeg = 10 := by decide
  have c0 : (0 : Int32).toNatClampNeg = 0 := by decide
  exact fun H locs ls hP hD hS hl => va_copyi F.x F.b (F.m.trans hl.1.symm) F.o (F.t _ hw1) (F.t _ hw2) (F.t _ hw3) (F.t _ hw4) F.k hP hD hS k0 k1 0 0 (c0 := cA 0) (c1 := cA 0) (n0 := 10) (n1 := 10) (f := f) (g := g) (ty := .int) (by rw [wl_get hk0, hE0]) (by rw [wl_get hk1, hE1]) rfl rfl rfl (by decide) (by decide) (by decide) (by decide) (by decide) (fun i _ => by rfl) hfr hlo hd (fun H1 locs1 hP1 hD1 hS1 => kk (va_up E k1 (.inl (cA 0, 10, .inl (va_cpy f g 0 0 10)))) (va_cpy f g 0 0 10) (by simp [va_up]) (fun i hi => by simp [va_cpy, hi]) (fun j' h => by simp [va_up, h]) H1 locs1 ls (by rw [← wl_set hk1]; rw [c0, c10] at hP1; exact hP1) (wl_D hD) hS1 hl)
theorem g_copyz (F : Fr own cc nL D cA X) {k0 k1 ix : Nat} {f g : Nat → Int32} (hE0 : E k0 = .inl (cA 2, 10, .inl f)) (hE1 : E k1 = .inl (cA 2, 10, .inl g)) (hk0 : k0 < n) (hk1 : k1 < n) (hft : ∀ i, i < 10 → fits .boolean (.int (f i)) = true) (hw1 : Cond.methodLink own ix arraycopyName ∈ TT) (hw2 : Cond.native arraycopyName ∈ TT) (hw3 : Cond.static arraycopyName ∈ TT) (hw4 : Cond.initialized "java/lang/System" ∈ TT) (hfr : 1 ≤ R.frames) (hlo : (st.map fun v => v.category).sum + (nativeFrameWords "java/lang/System" "arraycopy" 5 + 11) ≤ R.locals) (hd : decode cc pc = .ok (.invokestatic ix, 3)) (hq : pc + 3 = q)
    (kk : ∀ (E' : Nat → va_E) (g' : Nat → Int32), E' k1 = .inl (cA 2, 10, .inl g') → (∀ i, i < 10 → g' i = f i) → (∀ j', j' ≠ k1 → E' j' = E j') → GG R nL l D X cl sl n ad E' q lv st) : GG R nL l D X cl sl n ad E pc lv (.int 10 :: .int 0 :: .ref (ad k1) :: .int 0 :: .ref (ad k0) :: st) := by
  subst hq
  have c10 : (10 : Int32).toNatClampNeg = 10 := by decide
  have c0 : (0 : Int32).toNatClampNeg = 0 := by decide
  exact fun H locs ls hP hD hS hl => va_copyi F.x F.b (F.m.trans hl.1.symm) F.o (F.t _ hw1) (F.t _ hw2) (F.t _ hw3) (F.t _ hw4) F.k hP hD hS k0 k1 2 2 (c0 := cA 2) (c1 := cA 2) (n0 := 10) (n1 := 10) (f := f) (g := g) (ty := .boolean) (by rw [wl_get hk0, hE0]) (by rw [wl_get hk1, hE1]) rfl rfl rfl (by decide) (by decide) (by decide) (by decide) (by decide) (fun i hi => by simpa using hft (0 + i) (by simpa using hi)) hfr hlo hd (fun H1 locs1 hP1 hD1 hS1 => kk (va_up E k1 (.inl (cA 2, 10, .inl (va_cpy f g 0 0 10)))) (va_cpy f g 0 0 10) (by simp [va_up]) (fun i hi => by simp [va_cpy, hi]) (fun j' h => by simp [va_up, h]) H1 locs1 ls (by rw [← wl_set hk1]; rw [c0, c10] at hP1; exact hP1) (wl_D hD) hS1 hl)
theorem g_mmin (F : Fr own cc nL D cA X) {ix : Nat} {x y : Int32} (hw1 : Cond.methodLink own ix Lib.Math.min.name ∈ TT) (hw2 : Cond.static Lib.Math.min.name ∈ TT) (hw3 : Cond.initialized "java/lang/Math" ∈ TT) (hw4 : Cond.code Lib.Math.min.name Lib.Math.min.code 2 (some .int) ∈ TT) (hfr : 1 ≤ R.frames) (hlo : (st.map fun v => v.category).sum + 13 ≤ R.locals) (hc : cl ≤ R.cells ∧ sl ≤ R.slots) (hd : decode cc pc = .ok (.invokestatic ix, 3)) (hq : pc + 3 = q) (kk : GG R nL l D X cl sl n ad E q lv (.int (if y < x then y else x) :: st)) : GG R nL l D X cl sl n ad E pc lv (.int y :: .int x :: st) := by
  subst hq
  exact fun H locs ls hP hD hS hl => va_mmin F.x F.b (F.m.trans hl.1.symm) F.o (F.t _ hw1) (F.t _ hw2) (F.t _ hw3) (F.t _ hw4) hfr hlo hc.1 hc.2 hd (kk H locs ls hP hD hS hl)
theorem g_mabs (F : Fr own cc nL D cA X) {ix : Nat} {x : Int32} (hw1 : Cond.methodLink own ix Lib.Math.abs.name ∈ TT) (hw2 : Cond.static Lib.Math.abs.name ∈ TT) (hw3 : Cond.initialized "java/lang/Math" ∈ TT) (hw4 : Cond.code Lib.Math.abs.name Lib.Math.abs.code 1 (some .int) ∈ TT) (hfr : 1 ≤ R.frames) (hlo : (st.map fun v => v.category).sum + 13 ≤ R.locals) (hc : cl ≤ R.cells ∧ sl ≤ R.slots) (hd : decode cc pc = .ok (.invokestatic ix, 3)) (hq : pc + 3 = q) (kk : GG R nL l D X cl sl n ad E q lv (.int (if 0 ≤ x then x else 0 - x) :: st)) : GG R nL l D X cl sl n ad E pc lv (.int x :: st) := by
  subst hq
  exact fun H locs ls hP hD hS hl => va_mabs F.x F.b (F.m.trans hl.1.symm) F.o (F.t _ hw1) (F.t _ hw2) (F.t _ hw3) (F.t _ hw4) hfr hlo hc.1 hc.2 hd (kk H locs ls hP hD hS hl)
theorem g_mminl (F : Fr own cc nL D cA X) {ix : Nat} {x y : Int64} (hw1 : Cond.methodLink own ix Lib.MathLoose.min_long.x ∈ TT) (hw2 : Cond.static Lib.MathLoose.min_long.x ∈ TT) (hw3 : Cond.initialized "java/lang/Math" ∈ TT) (hw4 : Cond.code Lib.MathLoose.min_long.x Lib.MathLoose.min_long.code 4 (some .long) ∈ TT) (hfr : 1 ≤ R.frames) (hlo : (st.map fun v => v.category).sum + 15 ≤ R.locals) (hc : cl ≤ R.cells ∧ sl ≤ R.slots) (hd : decode cc pc = .ok (.invokestatic ix, 3)) (hq : pc + 3 = q) (kk : GG R nL l D X cl sl n ad E q lv (.long (if y < x then y else x) :: st)) : GG R nL l D X cl sl n ad E pc lv (.long y :: .long x :: st) := by
  subst hq
  exact fun H locs ls hP hD hS hl => va_mmin_long F.x F.b (F.m.trans hl.1.symm) F.o (F.t _ hw1) (F.t _ hw2) (F.t _ hw3) (F.t _ hw4) hfr hlo hc.1 hc.2 hd (kk H locs ls hP hD hS hl)
theorem g_mmaxl (F : Fr own cc nL D cA X) {ix : Nat} {x y : Int64} (hw1 : Cond.methodLink own ix Lib.MathLoose.max_long.x ∈ TT) (hw2 : Cond.static Lib.MathLoose.max_long.x ∈ TT) (hw3 : Cond.initialized "java/lang/Math" ∈ TT) (hw4 : Cond.code Lib.MathLoose.max_long.x Lib.MathLoose.max_long.code 4 (some .long) ∈ TT) (hfr : 1 ≤ R.frames) (hlo : (st.map fun v => v.category).sum + 15 ≤ R.locals) (hc : cl ≤ R.cells ∧ sl ≤ R.slots) (hd : decode cc pc = .ok (.invokestatic ix, 3)) (hq : pc + 3 = q) (kk : GG R nL l D X cl sl n ad E q lv (.long (if y < x then x else y) :: st)) : GG R nL l D X cl sl n ad E pc lv (.long y :: .long x :: st) := by
  subst hq
  exact fun H locs ls hP hD hS hl => va_mmax_long F.x F.b (F.m.trans hl.1.symm) F.o (F.t _ hw1) (F.t _ hw2) (F.t _ hw3) (F.t _ hw4) hfr hlo hc.1 hc.2 hd (kk H locs ls hP hD hS hl)
theorem g_mabsl (F : Fr own cc nL D cA X) {ix : Nat} {x : Int64} (hw1 : Cond.methodLink own ix Lib.MathLoose.abs_long.x ∈ TT) (hw2 : Cond.static Lib.MathLoose.abs_long.x ∈ TT) (hw3 : Cond.initialized "java/lang/Math" ∈ TT) (hw4 : Cond.code Lib.MathLoose.abs_long.x Lib.MathLoose.abs_long.code 2 (some .long) ∈ TT) (hfr : 1 ≤ R.frames) (hlo : (st.map fun v => v.category).sum + 13 ≤ R.locals) (hc : cl ≤ R.cells ∧ sl ≤ R.slots) (hd : decode cc pc = .ok (.invokestatic ix, 3)) (hq : pc + 3 = q) (kk : GG R nL l D X cl sl n ad E q lv (.long (if 0 < x then x else -x) :: st)) : GG R nL l D X cl sl n ad E pc lv (.long x :: st) := by
  subst hq
  exact fun H locs ls hP hD hS hl => va_mabs_long F.x F.b (F.m.trans hl.1.symm) F.o (F.t _ hw1) (F.t _ hw2) (F.t _ hw3) (F.t _ hw4) hfr hlo hc.1 hc.2 hd (kk H locs ls hP hD hS hl)
end GGR
/-! contracts over a world of n cells -/
def CWp (D : va_G) (cA : Nat → ClassId) (n : Nat) (ad : Nat → Nat) (E : Nat → va_E) (U : State) : Prop := va_P D vwCl (wl n ad E) U.heap ∧ va_K D vwCl (tyl cA) U ∧ va_D (fun _ => True) (wl n ad E)
def CtI (l : Launch) (D : va_G) (cA : Nat → ClassId) (y : MethodName) (bytes : ByteArray) (maxL : Nat) (ret : FieldType) (rm : Room) (n : Nat) (ad : Nat → Nat) (E : Nat → va_E) (av : List Value) (post : Int32 → (Nat → va_E) → Prop) : Prop :=
  ∀ sz : Nat, Met l y (.code y bytes maxL (some ret) :: TT) rm (va_Pc av (fun U => U.heap.size = sz ∧ CWp D cA n ad E U)) (va_Qi post (fun E' t => va_P D vwCl (wl n ad E') t.heap) (AA n ad sz)) 0 0 (AA n ad sz)
def CtL (l : Launch) (D : va_G) (cA : Nat → ClassId) (y : MethodName) (bytes : ByteArray) (maxL : Nat) (rm : Room) (n : Nat) (ad : Nat → Nat) (E : Nat → va_E) (av : List Value) (post : Int64 → (Nat → va_E) → Prop) : Prop :=
  ∀ sz : Nat, Met l y (.code y bytes maxL (some .long) :: TT) rm (va_Pc av (fun U => U.heap.size = sz ∧ CWp D cA n ad E U)) (va_Ql post (fun E' t => va_P D vwCl (wl n ad E') t.heap) (AA n ad sz)) 0 0 (AA n ad sz)
def CtV (l : Launch) (D : va_G) (cA : Nat → ClassId) (y : MethodName) (bytes : ByteArray) (maxL : Nat) (rm : Room) (n : Nat) (ad : Nat → Nat) (E : Nat → va_E) (av : List Value) (post : (Nat → va_E) → Prop) : Prop :=
  ∀ sz : Nat, Met l y (.code y bytes maxL none :: TT) rm (va_Pc av (fun U => U.heap.size = sz ∧ CWp D cA n ad E U)) (va_Qv post (fun E' t => va_P D vwCl (wl n ad E') t.heap) (AA n ad sz)) 0 0 (AA n ad sz)
theorem CWp_blind {D : va_G} {cA : Nat → ClassId} {n sz : Nat} {ad : Nat → Nat} {E : Nat → va_E} {av : List Value} : FrameBlind (va_Pc av (fun U => U.heap.size = sz ∧ CWp D cA n ad E U)) := fun a U g mk q => by
  obtain ⟨q0, q1, qP, qK, qD⟩ := q
  exact ⟨q0, q1, qP, va_K.moved (u := U) (U := U.calling g mk a) (Vm.Alike.refl U.vm) qK, qD⟩
/-- what a callee's name gives -/
def KV (y : MethodName) (C : String) (bytes : ByteArray) (maxL : Nat) (ret : Option FieldType) (na : Nat) : Prop := Cond.instanceMethod y ∈ TT ∧ Cond.selects C y y ∈ TT ∧ Cond.initialized C ∈ TT ∧ Cond.code y bytes maxL ret ∈ TT ∧ (y.cls = C ∧ y.cls ≠ "java/lang/invoke/MethodHandle" ∧ y.cls ≠ "java/lang/invoke/VarHandle" ∧ (parseMethodDescriptor y.desc).map (fun d => d.parameters.length) = some na)
def KS (y : MethodName) (C : String) (bytes : ByteArray) (maxL : Nat) (ret : Option FieldType) (na : Nat) : Prop := Cond.static y ∈ TT ∧ Cond.initialized C ∈ TT ∧ Cond.code y bytes maxL ret ∈ TT ∧ (y.cls = C ∧ y.cls ≠ "java/lang/invoke/MethodHandle" ∧ y.cls ≠ "java/lang/invoke/VarHandle" ∧ (parseMethodDescriptor y.desc).map (fun d => d.parameters.length) = some na)
theorem goodTT {ws : List Cond} (h : ∀ w ∈ ws, w ∈ TT) : GoodIn TT ws := fun w hw => ⟨h w hw, good_of_word (TT_good w (h w hw))⟩
theorem hts_of {y : MethodName} {bytes : ByteArray} {maxL : Nat} {ret : Option FieldType} {rm : Room} {args : Array Value} {s : State} (h : (headSpec (.code y bytes maxL ret :: TT) rm).pre.before args s = true) : ∀ w ∈ TT, w.before args s = true := fun w hw => atoms_spec h w (List.mem_cons_of_mem _ hw)
theorem cwVT {R : Room} {s : State} {args : Array Value} {own C : String} {ix maxL na : Nat} {y : MethodName} {bytes : ByteArray} {ret : Option FieldType} {rm : Room} (ht : ∀ w ∈ TT, w.before args s = true) (kv : KV y C bytes maxL ret na) (hl : Cond.methodLink own ix y ∈ TT) (hR : rm.frames + 1 ≤ R.frames ∧ 8 + (maxL + 11) + rm.locals ≤ R.locals) : CallW R s args own C ix y bytes maxL ret (.code y bytes maxL ret :: TT) rm rm.cells rm.slots na := by
  obtain ⟨k1, k2, k3, k4, k5⟩ := kv
  obtain ⟨k5, k6, k7, k8⟩ := k5
  refine ⟨callB_of na ht (goodTT (fun w h => ?_)) rfl rfl rfl (by rw [k5]; exact ht _ k3) (ht _ hl) ⟨k6, k7, k8⟩ hR, ht _ k1, ht _ k2⟩
  rcases List.mem_cons.mp h with rfl | h
  · exact k4
  · exact h
theorem cwST {R : Room} {s : State} {args : Array Value} {own C : String} {ix maxL na : Nat} {y : MethodName} {bytes : ByteArray} {ret : Option FieldType} {rm : Room} (ht : ∀ w ∈ TT, w.before args s = true) (kv : KS y C bytes maxL ret na) (hl : Cond.methodLink own ix y ∈ TT) (hR : rm.frames + 1 ≤ R.frames ∧ 8 + (maxL + 11) + rm.locals ≤ R.locals) : CallB R s args own ix y bytes maxL ret (.code y bytes maxL ret :: TT) rm rm.cells rm.slots na ∧ (Cond.static y).before args s = true := by
  obtain ⟨k2, k3, k4, k5⟩ := kv
  obtain ⟨k5, k6, k7, k8⟩ := k5
  refine ⟨callB_of na ht (goodTT (fun w h => ?_)) rfl rfl rfl (by rw [k5]; exact ht _ k3) (ht _ hl) ⟨k6, k7, k8⟩ hR, ht _ k2⟩
  rcases List.mem_cons.mp h with rfl | h
  · exact k4
  · exact h
section GGC
variable {R : Room} {nL : Nat} {l : Launch} {D : va_G} {X : GX} {cl sl n : Nat} {ad : Nat → Nat} {E : Nat → va_E} {pc q : Nat} {lv : List (Nat × Value)} {st stk : List Value} {own : String} {cc : ByteArray} {cA : Nat → ClassId} {y : MethodName} {C : String} {bytes : ByteArray} {maxL na ix k ci : Nat} {rm : Room} {av : List Value} {fs : List Value} {T : u_T} {N : Nat}
theorem g_callVI (F : Fr own cc nL D cA X) {ret : FieldType} {post : Int32 → (Nat → va_E) → Prop} (hM : CtI l D cA y bytes maxL ret rm n ad E (.ref (ad k) :: av) post) (kv : KV y C bytes maxL (some ret) na) (hw : Cond.methodLink own ix y ∈ TT) (hE : E k = .inr (ci, fs)) (hc : vwCl[ci]? = some (C, T, N)) (hkn : k < n) (hrm : rm.cells = 0 ∧ rm.slots = 0) (hR : rm.frames + 1 ≤ R.frames ∧ 8 + (maxL + 11) + rm.locals ≤ R.locals) (hcs : cl ≤ R.cells ∧ sl ≤ R.slots) (hn : av.length = na) (hst : stk = av.reverse ++ .ref (ad k) :: st) (hsum : (st.map fun v => v.category).sum ≤ 8) (hd : decode cc pc = .ok (.invokevirtual ix, 3)) (hq : pc + 3 = q)
    (kk : ∀ (r : Int32) (E' : Nat → va_E), post r E' → GG R nL l D X cl sl n ad E' q lv (.int r :: st)) : GG R nL l D X cl sl n ad E pc lv stk := by
  subst hq
  subst hst
  intro H locs ls hP hD hS hl
  have hI := AA_in hD hS F.a
  have cw := cwVT (R := R) F.t kv hw hR
  rw [hrm.1, hrm.2] at cw
  exact va_calli (va_runV ⟨F.x, F.b, F.m, F.o, F.t⟩ (hM H.size) cw ⟨CWp_blind, va_recv F.k hP hc (by rw [wl_get hkn, hE]), fun U hU hW => ⟨rfl, by rw [hU], by rw [hU]; exact hP, va_K.moved hW.alike F.k, hD.weaken (fun _ _ _ _ => trivial)⟩⟩ rfl hn hl.1 rfl (lv_room hsum) hd hcs) hS (fun q _ h => hI q h) hI (fun r u t H1 locs1 ht hvm hw hB hz1 hk1 hS1 => kk r u hw H1 locs1 ls (by rw [← ht]; exact hB) (wl_D hD) hS1 hl)
theorem g_callSI (F : Fr own cc nL D cA X) {ret : FieldType} {post : Int32 → (Nat → va_E) → Prop} (hM : CtI l D cA y bytes maxL ret rm n ad E av post) (kv : KS y C bytes maxL (some ret) na) (hw : Cond.methodLink own ix y ∈ TT) (hrm : rm.cells = 0 ∧ rm.slots = 0) (hR : rm.frames + 1 ≤ R.frames ∧ 8 + (maxL + 11) + rm.locals ≤ R.locals) (hcs : cl ≤ R.cells ∧ sl ≤ R.slots) (hn : av.length = na) (hst : stk = av.reverse ++ st) (hsum : (st.map fun v => v.category).sum ≤ 8) (hd : decode cc pc = .ok (.invokestatic ix, 3)) (hq : pc + 3 = q)
    (kk : ∀ (r : Int32) (E' : Nat → va_E), post r E' → GG R nL l D X cl sl n ad E' q lv (.int r :: st)) : GG R nL l D X cl sl n ad E pc lv stk := by
  subst hq
  subst hst
  intro H locs ls hP hD hS hl
  have hI := AA_in hD hS F.a
  have cw := cwST (R := R) F.t kv hw hR
  rw [hrm.1, hrm.2] at cw
  exact va_calli (va_runS ⟨F.x, F.b, F.m, F.o, F.t⟩ (hM H.size) cw ⟨CWp_blind, fun U hU hW => ⟨rfl, by rw [hU], by rw [hU]; exact hP, va_K.moved hW.alike F.k, hD.weaken (fun _ _ _ _ => trivial)⟩⟩ rfl hn hl.1 rfl (lv_room hsum) hd hcs) hS (fun q _ h => hI q h) hI (fun r u t H1 locs1 ht hvm hw hB hz1 hk1 hS1 => kk r u hw H1 locs1 ls (by rw [← ht]; exact hB) (wl_D hD) hS1 hl)
theorem g_callVL (F : Fr own cc nL D cA X) {post : Int64 → (Nat → va_E) → Prop} (hM : CtL l D cA y bytes maxL rm n ad E (.ref (ad k) :: av) post) (kv : KV y C bytes maxL (some .long) na) (hw : Cond.methodLink own ix y ∈ TT) (hE : E k = .inr (ci, fs)) (hc : vwCl[ci]? = some (C, T, N)) (hkn : k < n) (hrm : rm.cells = 0 ∧ rm.slots = 0) (hR : rm.frames + 1 ≤ R.frames ∧ 8 + (maxL + 11) + rm.locals ≤ R.locals) (hcs : cl ≤ R.cells ∧ sl ≤ R.slots) (hn : av.length = na) (hst : stk = av.reverse ++ .ref (ad k) :: st) (hsum : (st.map fun v => v.category).sum ≤ 8) (hd : decode cc pc = .ok (.invokevirtual ix, 3)) (hq : pc + 3 = q)
    (kk : ∀ (r : Int64) (E' : Nat → va_E), post r E' → GG R nL l D X cl sl n ad E' q lv (.long r :: st)) : GG R nL l D X cl sl n ad E pc lv stk := by
  subst hq
  subst hst
  intro H locs ls hP hD hS hl
  have hI := AA_in hD hS F.a
  have cw := cwVT (R := R) F.t kv hw hR
  rw [hrm.1, hrm.2] at cw
  exact va_calll (va_runV ⟨F.x, F.b, F.m, F.o, F.t⟩ (hM H.size) cw ⟨CWp_blind, va_recv F.k hP hc (by rw [wl_get hkn, hE]), fun U hU hW => ⟨rfl, by rw [hU], by rw [hU]; exact hP, va_K.moved hW.alike F.k, hD.weaken (fun _ _ _ _ => trivial)⟩⟩ rfl hn hl.1 rfl (lv_room hsum) hd hcs) hS (fun q _ h => hI q h) hI (fun r u t H1 locs1 ht hvm hw hB hz1 hk1 hS1 => kk r u hw H1 locs1 ls (by rw [← ht]; exact hB) (wl_D hD) hS1 hl)
theorem g_callSL (F : Fr own cc nL D cA X) {post : Int64 → (Nat → va_E) → Prop} (hM : CtL l D cA y bytes maxL rm n ad E av post) (kv : KS y C bytes maxL (some .long) na) (hw : Cond.methodLink own ix y ∈ TT) (hrm : rm.cells = 0 ∧ rm.slots = 0) (hR : rm.frames + 1 ≤ R.frames ∧ 8 + (maxL + 11) + rm.locals ≤ R.locals) (hcs : cl ≤ R.cells ∧ sl ≤ R.slots) (hn : av.length = na) (hst : stk = av.reverse ++ st) (hsum : (st.map fun v => v.category).sum ≤ 8) (hd : decode cc pc = .ok (.invokestatic ix, 3)) (hq : pc + 3 = q)
    (kk : ∀ (r : Int64) (E' : Nat → va_E), post r E' → GG R nL l D X cl sl n ad E' q lv (.long r :: st)) : GG R nL l D X cl sl n ad E pc lv stk := by
  subst hq
  subst hst
  intro H locs ls hP hD hS hl
  have hI := AA_in hD hS F.a
  have cw := cwST (R := R) F.t kv hw hR
  rw [hrm.1, hrm.2] at cw
  exact va_calll (va_runS ⟨F.x, F.b, F.m, F.o, F.t⟩ (hM H.size) cw ⟨CWp_blind, fun U hU hW => ⟨rfl, by rw [hU], by rw [hU]; exact hP, va_K.moved hW.alike F.k, hD.weaken (fun _ _ _ _ => trivial)⟩⟩ rfl hn hl.1 rfl (lv_room hsum) hd hcs) hS (fun q _ h => hI q h) hI (fun r u t H1 locs1 ht hvm hw hB hz1 hk1 hS1 => kk r u hw H1 locs1 ls (by rw [← ht]; exact hB) (wl_D hD) hS1 hl)
theorem g_callVV (F : Fr own cc nL D cA X) {post : (Nat → va_E) → Prop} (hM : CtV l D cA y bytes maxL rm n ad E (.ref (ad k) :: av) post) (kv : KV y C bytes maxL (none) na) (hw : Cond.methodLink own ix y ∈ TT) (hE : E k = .inr (ci, fs)) (hc : vwCl[ci]? = some (C, T, N)) (hkn : k < n) (hrm : rm.cells = 0 ∧ rm.slots = 0) (hR : rm.frames + 1 ≤ R.frames ∧ 8 + (maxL + 11) + rm.locals ≤ R.locals) (hcs : cl ≤ R.cells ∧ sl ≤ R.slots) (hn : av.length = na) (hst : stk = av.reverse ++ .ref (ad k) :: st) (hsum : (st.map fun v => v.category).sum ≤ 8) (hd : decode cc pc = .ok (.invokevirtual ix, 3)) (hq : pc + 3 = q)
    (kk : ∀ (E' : Nat → va_E), post E' → GG R nL l D X cl sl n ad E' q lv (st)) : GG R nL l D X cl sl n ad E pc lv stk := by
  subst hq
  subst hst
  intro H locs ls hP hD hS hl
  have hI := AA_in hD hS F.a
  have cw := cwVT (R := R) F.t kv hw hR
  rw [hrm.1, hrm.2] at cw
  exact va_callv (va_runV ⟨F.x, F.b, F.m, F.o, F.t⟩ (hM H.size) cw ⟨CWp_blind, va_recv F.k hP hc (by rw [wl_get hkn, hE]), fun U hU hW => ⟨rfl, by rw [hU], by rw [hU]; exact hP, va_K.moved hW.alike F.k, hD.weaken (fun _ _ _ _ => trivial)⟩⟩ rfl hn hl.1 rfl (lv_room hsum) hd hcs) hS (fun q _ h => hI q h) hI (fun u t H1 locs1 ht hvm hw hB hz1 hk1 hS1 => kk u hw H1 locs1 ls (by rw [← ht]; exact hB) (wl_D hD) hS1 hl)
theorem g_callSV (F : Fr own cc nL D cA X) {post : (Nat → va_E) → Prop} (hM : CtV l D cA y bytes maxL rm n ad E av post) (kv : KS y C bytes maxL (none) na) (hw : Cond.methodLink own ix y ∈ TT) (hrm : rm.cells = 0 ∧ rm.slots = 0) (hR : rm.frames + 1 ≤ R.frames ∧ 8 + (maxL + 11) + rm.locals ≤ R.locals) (hcs : cl ≤ R.cells ∧ sl ≤ R.slots) (hn : av.length = na) (hst : stk = av.reverse ++ st) (hsum : (st.map fun v => v.category).sum ≤ 8) (hd : decode cc pc = .ok (.invokestatic ix, 3)) (hq : pc + 3 = q)
    (kk : ∀ (E' : Nat → va_E), post E' → GG R nL l D X cl sl n ad E' q lv (st)) : GG R nL l D X cl sl n ad E pc lv stk := by
  subst hq
  subst hst
  intro H locs ls hP hD hS hl
  have hI := AA_in hD hS F.a
  have cw := cwST (R := R) F.t kv hw hR
  rw [hrm.1, hrm.2] at cw
  exact va_callv (va_runS ⟨F.x, F.b, F.m, F.o, F.t⟩ (hM H.size) cw ⟨CWp_blind, fun U hU hW => ⟨rfl, by rw [hU], by rw [hU]; exact hP, va_K.moved hW.alike F.k, hD.weaken (fun _ _ _ _ => trivial)⟩⟩ rfl hn hl.1 rfl (lv_room hsum) hd hcs) hS (fun q _ h => hI q h) hI (fun u t H1 locs1 ht hvm hw hB hz1 hk1 hS1 => kk u hw H1 locs1 ls (by rw [← ht]; exact hB) (wl_D hD) hS1 hl)
theorem CtI.of {ret : FieldType} {post : Int32 → (Nat → va_E) → Prop} (hy : plainName y.cls = true) (hlen : (lg_sl av).length ≤ nL)
    (body : ∀ X : GX, Fr y.cls cc nL D cA X → (∀ (v : Int32) (E' : Nat → va_E) (pc : Nat) (lv : List (Nat × Value)), decode cc pc = .ok (.ireturn, 1) → narrow ret (.int v) = .int v → post v E' → GG rm nL l D X 0 0 n ad E' pc lv [.int v]) → GG rm nL l D X 0 0 n ad E 0 (lv_args 0 av) []) : CtI l D cA y cc nL ret rm n ad E av post := by
  intro sz
  refine Met.ofW (cc := cc) (maxL := nL) (ret := some ret) hy rfl ?_
  intro p e s m args below meth c s₁ B hml hv
  obtain ⟨rfl, hsz, hP, hK, hD0⟩ := hv
  subst hsz
  have F : Fr y.cls cc nL D cA (p, e, s, m, av.toArray, below, meth, c, AA n ad s.heap.size, MQ below (va_Qi post (fun E' t => va_P D vwCl (wl n ad E') t.heap) (AA n ad s.heap.size)) av.toArray s 0 0 (AA n ad s.heap.size)) := ⟨B.exec, B.bytes, hml, findClass_of_methodNamed B.named, hts_of B.pre, hK, fun q h => Or.inr h⟩
  have hlocks := B.notSynchronized
  rw [lg_entry_eq]
  refine body _ F ?_ s.heap [] _ hP (wl_AA hD0) va_S.rf (lv_entry av hlen)
  intro v E' pc lv hd hnr hp H locs ls hP hD hS hl
  exact W.zret F.x F.b B.returns hnr (fun t ht hW => ⟨⟨v, E', rfl, hp, by show va_P D vwCl (wl n ad E') t.heap; rw [ht]; exact hP⟩, hS.F ht⟩) hS.2.2 hd hlocks
theorem CtL.of {post : Int64 → (Nat → va_E) → Prop} (hy : plainName y.cls = true) (hlen : (lg_sl av).length ≤ nL)
    (body : ∀ X : GX, Fr y.cls cc nL D cA X → (∀ (v : Int64) (E' : Nat → va_E) (pc : Nat) (lv : List (Nat × Value)), decode cc pc = .ok (.lreturn, 1) → post v E' → GG rm nL l D X 0 0 n ad E' pc lv [.long v]) → GG rm nL l D X 0 0 n ad E 0 (lv_args 0 av) []) : CtL l D cA y cc nL rm n ad E av post := by
  intro sz
  refine Met.ofW (cc := cc) (maxL := nL) (ret := some .long) hy rfl ?_
  intro p e s m args below meth c s₁ B hml hv
  obtain ⟨rfl, hsz, hP, hK, hD0⟩ := hv
  subst hsz
  have F : Fr y.cls cc nL D cA (p, e, s, m, av.toArray, below, meth, c, AA n ad s.heap.size, MQ below (va_Ql post (fun E' t => va_P D vwCl (wl n ad E') t.heap) (AA n ad s.heap.size)) av.toArray s 0 0 (AA n ad s.heap.size)) := ⟨B.exec, B.bytes, hml, findClass_of_methodNamed B.named, hts_of B.pre, hK, fun q h => Or.inr h⟩
  have hlocks := B.notSynchronized
  rw [lg_entry_eq]
  refine body _ F ?_ s.heap [] _ hP (wl_AA hD0) va_S.rf (lv_entry av hlen)
  intro v E' pc lv hd hp H locs ls hP hD hS hl
  exact W.lret F.x F.b B.returns (fun t ht hW => ⟨⟨v, E', rfl, hp, by show va_P D vwCl (wl n ad E') t.heap; rw [ht]; exact hP⟩, hS.F ht⟩) hS.2.2 hd hlocks
theorem CtV.of {post : (Nat → va_E) → Prop} (hy : plainName y.cls = true) (hlen : (lg_sl av).length ≤ nL)
    (body : ∀ X : GX, Fr y.cls cc nL D cA X → (∀ (E' : Nat → va_E) (pc : Nat) (lv : List (Nat × Value)), decode cc pc = .ok (.return_, 1) → post E' → GG rm nL l D X 0 0 n ad E' pc lv []) → GG rm nL l D X 0 0 n ad E 0 (lv_args 0 av) []) : CtV l D cA y cc nL rm n ad E av post := by
  intro sz
  refine Met.ofW (cc := cc) (maxL := nL) (ret := none) hy rfl ?_
  intro p e s m args below meth c s₁ B hml hv
  obtain ⟨rfl, hsz, hP, hK, hD0⟩ := hv
  subst hsz
  have F : Fr y.cls cc nL D cA (p, e, s, m, av.toArray, below, meth, c, AA n ad s.heap.size, MQ below (va_Qv post (fun E' t => va_P D vwCl (wl n ad E') t.heap) (AA n ad s.heap.size)) av.toArray s 0 0 (AA n ad s.heap.size)) := ⟨B.exec, B.bytes, hml, findClass_of_methodNamed B.named, hts_of B.pre, hK, fun q h => Or.inr h⟩
  have hlocks := B.notSynchronized
  rw [lg_entry_eq]
  refine body _ F ?_ s.heap [] _ hP (wl_AA hD0) va_S.rf (lv_entry av hlen)
  intro E' pc lv hd hp H locs ls hP hD hS hl
  exact W.vret F.x F.b B.returns (fun t ht hW => ⟨⟨E', rfl, hp, by show va_P D vwCl (wl n ad E') t.heap; rw [ht]; exact hP⟩, hS.F ht⟩) hS.2.2 hd hlocks
end GGC
theorem nz01 {v : Int32} (h : v = 0 ∨ v = 1) : narrow .boolean (.int v) = .int v := by rcases h with rfl | rfl <;> rfl
theorem nint (v : Int32) : narrow .int (.int v) = .int v := rfl
end
section
theorem nA {x y : Int32} {a b : Nat} (h1 : x = nI a) (h2 : y = nI b) : x + y = nI (a + b) := by rw [h1, h2, nI_add]
theorem nM {x y : Int32} {a b : Nat} (h1 : x = nI a) (h2 : y = nI b) : x * y = nI (a * b) := by rw [h1, h2, pk_mul]
theorem fz01 {v : Int32} (h : v = 0 ∨ v = 1) : fits .boolean (.int v) = true := by rcases h with rfl | rfl <;> rfl
theorem sw_split (x : Int32) (lo : Int) (m : Nat) : (x.toInt < lo ∨ lo + m < x.toInt) ∨ ∃ j : Nat, j ≤ m ∧ x = Int32.ofInt (lo + j) := by
  by_cases h : x.toInt < lo ∨ lo + m < x.toInt
  · exact Or.inl h
  · refine Or.inr ⟨(x.toInt - lo).toNat, by omega, ?_⟩
    rw [show lo + ((x.toInt - lo).toNat : Int) = x.toInt by omega]
    simp
/-- a number is out of range, or one of the numbers below n -/
theorem ixB (x : Int32) (n : Nat) (hn : n < 2 ^ 31) : (x < 0 ∨ n ≤ x.toNatClampNeg) ∨ ∃ e : Nat, e < n ∧ x = nI e := by
  by_cases h : x < 0 ∨ n ≤ x.toNatClampNeg
  · exact Or.inl h
  · exact Or.inr (vp_in_of h hn)
theorem ixN {e n : Nat} (h : e < n) (hn : n < 2 ^ 31) : ¬ (nI e < 0 ∨ n ≤ (nI e).toNatClampNeg) := vp_in_nI h hn
theorem ixR {x : Int32} {n : Nat} (hn : n < 2 ^ 31) (h : ¬ (0 ≤ x ∧ x ≤ nI n - 1)) : x < 0 ∨ n ≤ x.toNatClampNeg := by
  rcases ixB x n hn with h1 | ⟨e, he, rfl⟩
  · exact h1
  · exfalso
    apply h
    refine ⟨nI_pos' (by omega), ?_⟩
    rw [show nI n - 1 = nI (n - 1) by rw [show n = (n - 1) + 1 by omega, nI_pred]; simp]
    exact nI_le (by omega) (by omega)
theorem ixQ {x : Int32} {n : Nat} (hn : n < 2 ^ 31) (h : 0 ≤ x ∧ x ≤ nI n - 1) : ∃ e : Nat, e < n ∧ x = nI e := by
  rcases ixB x n hn with h1 | h1
  · exfalso
    rcases h1 with h1 | h1
    · exact absurd h.1 (Int32.not_le.mpr h1)
    · have h2 := h.2
      have h0 := h.1
      rw [Int32.le_iff_toInt_le] at h2 h0
      have hz : x.toNatClampNeg = x.toInt.toNat := rfl
      cases n with
      | zero =>
        rw [show nI 0 - 1 = -1 by decide] at h2
        have e0 : (0 : Int32).toInt = 0 := by decide
        have e1 : (-1 : Int32).toInt = -1 := by decide
        omega
      | succ m =>
        rw [nI_pred, nI_toInt (by omega)] at h2
        omega
  · exact h1
/-! ===== the words of the promises, over a row of 346 numbers ===== -/
def MISS : Int32 := -1000000000
def far (a b : Int32) : Int32 := if a < b then b - a else a - b
def dn (u l : Int64) : Int64 := if u < u / l * l then u / l - 1 else u / l
def rdc (r : Nat → Int32) (e : Nat) (t : Int32) : Int32 := t + r (6 + 4 * e + 2) + (dn ((r (6 + 4 * e + 3)).toInt64 * t.toInt64) 10000).toInt32
def toldAs (c : Int32) : Int64 := -9223372036854775808 - c.toInt64
/-- the sum of what f gives below n -/
def sumN (f : Nat → Int32) : Nat → Int32
  | 0 => 0
  | k + 1 => sumN f k + f k
/-- a history of at most 4 with one more -/
def hpush (nh : Nat) (h : Nat → Nat → Int32) (x : Nat → Int32) : Nat → Nat → Int32 := fun i => if nh = 4 then (if i = 3 then x else h (i + 1)) else (if i = nh then x else h i)
def nup (nh : Nat) : Nat := if nh = 4 then 4 else nh + 1
def hof (p : Nat → Int32) : Nat → Nat → Int32 := fun i k => p (346 * i + k)
/-- same below n -/
def eqN (n : Nat) (f g : Nat → Int32) : Prop := ∀ k, k < n → f k = g k
def eqH (n : Nat) (f g : Nat → Nat → Int32) : Prop := ∀ i, i < n → eqN 346 (f i) (g i)
theorem eqN.rf {n : Nat} {f : Nat → Int32} : eqN n f f := fun _ _ => rfl
theorem nup_le {nh : Nat} (h : nh ≤ 4) : nup nh ≤ 4 := by unfold nup; split <;> omega
/-- what an act does to row and history: nothing, or a new row -/
def NX (nx : Option (Nat → Int32)) (r p : Nat → Int32) (nh : Nat) (r' p' : Nat → Int32) (nh' : Nat) : Prop := match nx with
  | none => nh' = nh ∧ eqN 346 r' r ∧ eqH nh (hof p') (hof p)
  | some x => nh' = nup nh ∧ eqN 346 r' x ∧ eqH (nup nh) (hof p') (hpush nh (hof p) r)
theorem NX.nil {r p : Nat → Int32} {nh : Nat} : NX none r p nh r p nh := ⟨rfl, eqN.rf, fun _ _ => eqN.rf⟩
theorem eqN_put {m : Nat} {f g : Nat → Int32} {i : Nat} {x : Int32} (h : eqN m f g) (hx : x = g i) : eqN m (upd f i x) g := by
  intro k hk
  by_cases e : k = i
  · subst e; simp [upd, hx]
  · simp [upd, e, h k hk]
/-- the row with one more in place j: both written at j -/
theorem eqN_upd {m : Nat} {f g : Nat → Int32} {i : Nat} {x : Int32} (h : eqN m f g) : eqN m (upd f i x) (upd g i x) := by
  intro k hk
  by_cases e : k = i <;> simp [upd, e, h k hk]
/-- a copy that has come to i -/
theorem eqN_cpy {i : Nat} {f g : Nat → Int32} (h : eqN i f g) : eqN (i + 1) (upd f i (g i)) g := by
  intro k hk
  by_cases e : k = i
  · subst e; simp [upd]
  · simp [upd, e, h k (by omega)]
theorem upd_s {f : Nat → Int32} {k : Nat} {x : Int32} : upd f k x k = x := by simp [upd]
theorem upd_n {f : Nat → Int32} {k j : Nat} {x : Int32} (h : j ≠ k) : upd f k x j = f j := by simp [upd, h]
def Bset (r : Nat → Int32) (place : Int32) : Nat → Int32 := upd (upd (upd (upd (upd r (6 + 4 * (r 0).toNatClampNeg) place) (6 + 4 * (r 0).toNatClampNeg + 1) 0) (6 + 4 * (r 0).toNatClampNeg + 2) 0) (6 + 4 * (r 0).toNatClampNeg + 3) 0) 0 (r 0 + 1)
def sBury (r : Nat → Int32) (ne : Nat) (place : Int32) : Int32 × Option (Nat → Int32) :=
  if 0 ≤ place ∧ place ≤ 1000 then (if ne = 10 then (-3, none) else (nI ne, some (upd (upd (upd (upd (upd r (6 + 4 * ne) place) (6 + 4 * ne + 1) 0) (6 + 4 * ne + 2) 0) (6 + 4 * ne + 3) 0) 0 (nI (ne + 1))))) else (-2, none)
def sClock (r : Nat → Int32) (ne : Nat) (ear off dr : Int32) : Int32 × Option (Nat → Int32) :=
  if ear < 0 ∨ ne ≤ ear.toNatClampNeg then (-1, none)
  else if ¬ ((-500 ≤ off ∧ off ≤ 500) ∧ (-50 ≤ dr ∧ dr ≤ 50)) then (-2, none)
  else if r (6 + 4 * ear.toNatClampNeg + 2) = off ∧ r (6 + 4 * ear.toNatClampNeg + 3) = dr then (-5, none)
  else (1, some (upd (upd r (6 + 4 * ear.toNatClampNeg + 2) off) (6 + 4 * ear.toNatClampNeg + 3) dr))
def flg (b : Int32) : Int32 := if b = 0 then 0 else 1
def sMute (r : Nat → Int32) (ne : Nat) (ear b : Int32) : Int32 × Option (Nat → Int32) :=
  if ear < 0 ∨ ne ≤ ear.toNatClampNeg then (-1, none)
  else if r (6 + 4 * ear.toNatClampNeg + 1) = flg b then (-5, none)
  else (sumN (fun e => (upd r (6 + 4 * ear.toNatClampNeg + 1) (flg b)) (6 + 4 * e + 1)) ne, some (upd r (6 + 4 * ear.toNatClampNeg + 1) (flg b)))
def sSet (r : Nat → Int32) (what value : Int32) : Int32 × Option (Nat → Int32) :=
  if what = 0 then (if 1 ≤ value ∧ value ≤ 20 then (if r 3 = value then (-5, none) else (r 3, some (upd r 3 value))) else (-2, none))
  else if what = 1 then (if 0 ≤ value ∧ value ≤ 500 then (if r 4 = value then (-5, none) else (r 4, some (upd r 4 value))) else (-2, none))
  else (-2, none)
theorem cpS1 {i : Nat} {p past : Nat → Int32} (h1 : ∀ j, j < i → p j = past (346 + j)) (h2 : ∀ j, i ≤ j → j < 1384 → p j = past j) (hi : i < 1038) : ∀ j, j < i + 1 → upd p i (p (346 + i)) j = past (346 + j) := by
  intro j hj
  by_cases e : j = i
  · subst e
    rw [upd_s]
    exact h2 _ (by omega) (by omega)
  · rw [upd_n e]
    exact h1 j (by omega)
theorem cpS2 {i : Nat} {p past : Nat → Int32} {x : Int32} (h2 : ∀ j, i ≤ j → j < 1384 → p j = past j) : ∀ j, i + 1 ≤ j → j < 1384 → upd p i x j = past j := by
  intro j h1 h3
  rw [upd_n (by omega)]
  exact h2 j (by omega) h3
theorem cpP1 {i b : Nat} {q f : Nat → Int32} (h : ∀ j, j < i → q (b + j) = f j) : ∀ j, j < i + 1 → upd q (b + i) (f i) (b + j) = f j := by
  intro j hj
  by_cases e : j = i
  · subst e; rw [upd_s]
  · rw [upd_n (by omega)]; exact h j (by omega)
theorem cpP2 {i b : Nat} {q f : Nat → Int32} {x : Int32} (h : ∀ j, j < b → q j = f j) : ∀ j, j < b → upd q (b + i) x j = f j := by
  intro j hj
  rw [upd_n (by omega)]
  exact h j hj
theorem recA {p1 past q bef : Nat → Int32} {m m2 : Nat} (h0 : 1038 ≤ m) (hp1 : ∀ j, j < m → p1 j = past (346 + j)) (h1 : 346 ≤ m2) (hq1 : ∀ j, j < m2 → q (346 * 3 + j) = bef j) (hq2 : ∀ j, j < 346 * 3 → q j = p1 j) : eqH (nup 4) (hof q) (hpush 4 (hof past) bef) := by
  intro i hi k hk
  have h4 : nup 4 = 4 := rfl
  rw [h4] at hi
  show q (346 * i + k) = _
  unfold hpush
  rw [if_pos rfl]
  by_cases e : i = 3
  · subst e
    rw [if_pos rfl]
    exact hq1 k (by omega)
  · rw [if_neg e, hq2 (346 * i + k) (by omega)]
    show p1 (346 * i + k) = past (346 * (i + 1) + k)
    rw [hp1 (346 * i + k) (by omega)]
    congr 1
    omega
theorem recB {past q bef : Nat → Int32} {m2 nh : Nat} (hn : ¬ nh = 4) (h1 : 346 ≤ m2) (hq1 : ∀ j, j < m2 → q (346 * nh + j) = bef j) (hq2 : ∀ j, j < 346 * nh → q j = past j) : eqH (nup nh) (hof q) (hpush nh (hof past) bef) := by
  intro i hi k hk
  have h4 : nup nh = nh + 1 := if_neg hn
  rw [h4] at hi
  show q (346 * i + k) = _
  unfold hpush
  rw [if_neg hn]
  by_cases e : i = nh
  · subst e
    rw [if_pos rfl]
    exact hq1 k (by omega)
  · rw [if_neg e, hq2 (346 * i + k) (by
      have : i + 1 ≤ nh := by omega
      have := Nat.mul_le_mul_left 346 this
      omega)]
    rfl
theorem hpush_cg {n nh : Nat} {q h : Nat → Nat → Int32} {g r : Nat → Int32} (hg : eqN 346 g r) (hq : eqH n q (hpush nh h g)) : eqH n q (hpush nh h r) := by
  intro i hi k hk
  rw [hq i hi k hk]
  unfold hpush
  repeat' split
  all_goals first | rfl | exact hg k hk
theorem nI_sub1 {n : Nat} (h : 0 < n) : nI n - 1 = nI (n - 1) := by
  rw [show n = (n - 1) + 1 by omega, nI_pred]; simp
theorem cpyH {i m nh : Nat} {g past : Nat → Int32} (hg : ∀ j, j < i → g j = past (346 * m + j)) (hi : 346 ≤ i) : eqN 346 g (hof past m) := fun k hk => hg k (by omega)
theorem cpyS {i b : Nat} {g p : Nat → Int32} (h : ∀ j, j < i → g j = p (b + j)) : ∀ j, j < i + 1 → upd g i (p (b + i)) j = p (b + j) := by
  intro j hj
  by_cases e : j = i
  · subst e; rw [upd_s]
  · rw [upd_n e]; exact h j (by omega)
/-- what an ear writes down of what comes at p, t with the reach c -/
def hv (r : Nat → Int32) (ne : Nat) (p t c : Int32) (e : Nat) : Int32 := if e < ne ∧ r (6 + 4 * e + 1) = 0 ∧ far p (r (6 + 4 * e)) ≤ c then rdc r e (t + r 3 * far p (r (6 + 4 * e))) else MISS
def hcnt (r : Nat → Int32) (ne : Nat) (p c : Int32) : Nat → Int32
  | 0 => 0
  | e + 1 => hcnt r ne p c e + (if e < ne ∧ r (6 + 4 * e + 1) = 0 ∧ far p (r (6 + 4 * e)) ≤ c then 1 else 0)
/-- the row while what comes is written: its own five numbers, then what the first ears write down -/
def stg (r : Nat → Int32) (ne k m : Nat) (p t c : Int32) : Nat → (Nat → Int32)
  | 0 => upd (upd (upd (upd (upd r (46 + 50 * k + 5 * m) p) (46 + 50 * k + 5 * m + 1) t) (46 + 50 * k + 5 * m + 2) c) (46 + 50 * k + 5 * m + 3) (r 3)) (46 + 50 * k + 5 * m + 4) 0
  | e + 1 => upd (stg r ne k m p t c e) (146 + 100 * k + 10 * m + e) (hv r ne p t c e)
def mkR (r : Nat → Int32) (ne k m : Nat) (p t c : Int32) : Nat → Int32 := upd (upd (stg r ne k m p t c 10) (1 + k) (nI (m + 1))) 5 t
def mkS (r : Nat → Int32) (ne k m : Nat) (p t c : Int32) : Int32 × (Nat → Int32) :=
  if (0 ≤ p ∧ p ≤ 1000) ∧ (0 ≤ t ∧ t ≤ 100000) ∧ (1 ≤ c ∧ c ≤ 1000) then (if t < r 5 then (-4, r) else if m = 10 then (-3, r) else (hcnt r ne p c 10, mkR r ne k m p t c)) else (-2, r)
theorem stg_lo {r : Nat → Int32} {ne k m : Nat} {p t c : Int32} {j : Nat} (hj : j < 46) : ∀ e, stg r ne k m p t c e j = r j
  | 0 => by
    unfold stg
    rw [upd_n (by omega), upd_n (by omega), upd_n (by omega), upd_n (by omega), upd_n (by omega)]
  | e + 1 => by
    unfold stg
    rw [upd_n (by omega)]
    exact stg_lo hj e
theorem rdc_cg {f r : Nat → Int32} {e : Nat} {t : Int32} (he : e < 10) (h : ∀ j, j < 46 → f j = r j) : rdc f e t = rdc r e t := by
  unfold rdc
  rw [h _ (by omega), h _ (by omega)]
theorem hcnt_b (r : Nat → Int32) (ne : Nat) (p c : Int32) : ∀ e, ∃ j, j ≤ e ∧ hcnt r ne p c e = nI j
  | 0 => ⟨0, Nat.le_refl _, rfl⟩
  | e + 1 => by
    obtain ⟨j, h1, h2⟩ := hcnt_b r ne p c e
    unfold hcnt
    rw [h2]
    split
    · exact ⟨j + 1, by omega, nI_1 j⟩
    · exact ⟨j, by omega, by simp⟩
theorem hcnt_nn (r : Nat → Int32) (ne : Nat) (p c : Int32) : ¬ hcnt r ne p c 10 < 0 := by
  obtain ⟨j, h1, h2⟩ := hcnt_b r ne p c 10
  rw [h2]
  exact nI_pos (by omega)
theorem mkS_err {r : Nat → Int32} {ne k m : Nat} {p t c : Int32} (h : (mkS r ne k m p t c).1 < 0) : (mkS r ne k m p t c).2 = r := by
  unfold mkS at h ⊢
  repeat' split
  all_goals first | rfl | skip
  rename_i h1 h2 h3
  simp [h1, h2, h3] at h
  exact absurd h (hcnt_nn r ne p c)
def sAct (r : Nat → Int32) (ne k m : Nat) (p t c : Int32) : Int32 × Option (Nat → Int32) := if (mkS r ne k m p t c).1 < 0 then ((mkS r ne k m p t c).1, none) else ((mkS r ne k m p t c).1, some (mkS r ne k m p t c).2)
def sLeave (r : Nat → Int32) (nt : Nat) (th b : Int32) : Int32 × Option (Nat → Int32) :=
  if th < 0 ∨ nt ≤ th.toNatClampNeg then (-1, none)
  else if r (46 + 5 * th.toNatClampNeg + 4) = flg b then (-5, none)
  else (sumN (fun e => (upd r (46 + 5 * th.toNatClampNeg + 4) (flg b)) (46 + 5 * e + 4)) nt, some (upd r (46 + 5 * th.toNatClampNeg + 4) (flg b)))
theorem in01 {x : Int32} (h : 0 ≤ x ∧ x ≤ 1) : x = 0 ∨ x = 1 := by
  obtain ⟨h1, h2⟩ := h
  rw [Int32.le_iff_toInt_le] at h1 h2
  have e0 : (0 : Int32).toInt = 0 := by decide
  have e1 : (1 : Int32).toInt = 1 := by decide
  rw [← Int32.toInt_inj, ← Int32.toInt_inj, e0, e1]
  omega
theorem stg_step {r : Nat → Int32} {ne k m e : Nat} {p t c x : Int32} {v : va_E} {cA : ClassId} (h : v = .inl (cA, 346, .inl (upd (stg r ne k m p t c e) (146 + 100 * k + 10 * m + e) x))) (hx : x = hv r ne p t c e) : v = .inl (cA, 346, .inl (stg r ne k m p t c (e + 1))) := by
  rw [h, hx]; rfl
/-! ===== texts of orders ===== -/
def numL (tx : Nat → Int32) (ln : Nat) : Nat → Int32 → Nat → Int32 × Nat
  | 0, v, p => (v, p)
  | f + 1, v, p => if 0 < v ∧ (p < ln ∧ 48 ≤ tx p ∧ tx p ≤ 57) then numL tx ln f (10 * v + tx p - 48) (p + 1) else (v, p)
def numV (tx : Nat → Int32) (ln p : Nat) : Int32 := if p < ln ∧ 48 ≤ tx p ∧ tx p ≤ 57 then (numL tx ln 5 (tx p - 48) (p + 1)).1 else -5
def numP (tx : Nat → Int32) (ln p : Nat) : Nat := if p < ln ∧ 48 ≤ tx p ∧ tx p ≤ 57 then (numL tx ln 5 (tx p - 48) (p + 1)).2 else p
abbrev Ord := Nat × Int32 × Int32 × Int32
def ordQ (tx : Nat → Int32) (ln k p : Nat) : Nat × Option Ord :=
  if p < ln ∧ 48 ≤ tx p ∧ tx p ≤ 57 then
    if numP tx ln p < ln ∧ tx (numP tx ln p) = 64 then
      if numP tx ln p + 1 < ln ∧ 48 ≤ tx (numP tx ln p + 1) ∧ tx (numP tx ln p + 1) ≤ 57 then
        if numP tx ln (numP tx ln p + 1) < ln ∧ tx (numP tx ln (numP tx ln p + 1)) = 42 then
          if numP tx ln (numP tx ln p + 1) + 1 < ln ∧ 48 ≤ tx (numP tx ln (numP tx ln p + 1) + 1) ∧ tx (numP tx ln (numP tx ln p + 1) + 1) ≤ 57 then
            (numP tx ln (numP tx ln (numP tx ln p + 1) + 1), some (k, numV tx ln p, numV tx ln (numP tx ln p + 1), numV tx ln (numP tx ln (numP tx ln p + 1) + 1)))
          else (numP tx ln (numP tx ln p + 1) + 1, none)
        else (numP tx ln (numP tx ln p + 1), some (k, numV tx ln p, numV tx ln (numP tx ln p + 1), 1000))
      else (numP tx ln p + 1, none)
    else (numP tx ln p, none)
  else (p, none)
def ordP (tx : Nat → Int32) (ln p : Nat) : Nat × Option Ord :=
  if p < ln ∧ tx p = 116 then ordQ tx ln 0 (p + 1) else if p < ln ∧ tx p = 107 then ordQ tx ln 1 (p + 1) else (p, none)
/-- the orders of a text from the place p on, and its fault -/
def prs (tx : Nat → Int32) (ln : Nat) : Nat → Nat → List Ord × Option Nat
  | 0, _ => ([], some 0)
  | f + 1, p => match ordP tx ln p with
    | (q, none) => ([], some q)
    | (q, some o) => if q < ln ∧ tx q = 59 then (o :: (prs tx ln f (q + 1)).1, (prs tx ln f (q + 1)).2) else ([o], if q < ln then some q else none)
/-- orders done one after the other, till one has an error -/
def rl (ne : Nat) : List Ord → (Nat → Int32) → Nat → Nat → Int32 × (Nat → Int32)
  | [], r, _, _ => (0, r)
  | (k, p, t, c) :: os, r, nt, nk => if (mkS r ne k (if k = 0 then nt else nk) p t c).1 < 0 then (mkS r ne k (if k = 0 then nt else nk) p t c) else rl ne os (mkS r ne k (if k = 0 then nt else nk) p t c).2 (if k = 0 then nt + 1 else nt) (if k = 0 then nk else nk + 1)
def sRead (r : Nat → Int32) (ne nt nk : Nat) (tx : Nat → Int32) (ln : Nat) : Int32 × Option (Nat → Int32) :=
  match (prs tx ln 61 0).2 with
  | some q => (-100 - nI q, none)
  | none => if (rl ne (prs tx ln 61 0).1 r nt nk).1 < 0 then ((rl ne (prs tx ln 61 0).1 r nt nk).1, none) else (nI (prs tx ln 61 0).1.length, some (rl ne (prs tx ln 61 0).1 r nt nk).2)
theorem numL_q {tx : Nat → Int32} {ln : Nat} : ∀ (f : Nat) (v : Int32) (p : Nat), p ≤ ln → p ≤ (numL tx ln f v p).2 ∧ (numL tx ln f v p).2 ≤ ln
  | 0, v, p, h => ⟨Nat.le_refl _, h⟩
  | f + 1, v, p, h => by
    unfold numL
    split
    · rename_i h1
      have := numL_q (tx := tx) (ln := ln) f (10 * v + tx p - 48) (p + 1) (by omega)
      omega
    · exact ⟨Nat.le_refl _, h⟩
theorem numP_ge {tx : Nat → Int32} {ln p : Nat} : p ≤ numP tx ln p := by
  unfold numP
  split
  · rename_i h
    have := numL_q (tx := tx) (ln := ln) 5 (tx p - 48) (p + 1) (by omega)
    omega
  · exact Nat.le_refl _
theorem numP_le {tx : Nat → Int32} {ln p : Nat} (h : p ≤ ln) : numP tx ln p ≤ ln := by
  unfold numP
  split
  · exact (numL_q 5 _ _ (by omega)).2
  · exact h
theorem numP_gt {tx : Nat → Int32} {ln p : Nat} (h : p < ln ∧ 48 ≤ tx p ∧ tx p ≤ 57) : p < numP tx ln p := by
  unfold numP
  rw [if_pos h]
  have := numL_q (tx := tx) (ln := ln) 5 (tx p - 48) (p + 1) (by omega)
  omega
theorem i32_lit (n : Nat) (h : n < 2 ^ 31) : (Int32.ofNat n).toInt = n := nI_toInt h
theorem dig {x : Int32} (h1 : 48 ≤ x) (h2 : x ≤ 57) : ∃ d : Nat, d < 10 ∧ x = nI (48 + d) := by
  rw [Int32.le_iff_toInt_le] at h1 h2
  have e0 : (48 : Int32).toInt = 48 := by decide
  have e1 : (57 : Int32).toInt = 57 := by decide
  refine ⟨(x.toInt - 48).toNat, by omega, ?_⟩
  rw [← Int32.toInt_inj, nI_toInt (by omega)]
  omega
theorem numL_v {tx : Nat → Int32} {ln : Nat} : ∀ (f v p : Nat) (m : Nat), v < m → m * 10 ^ f ≤ 1000000 → ∃ w : Nat, w < 1000000 ∧ (numL tx ln f (nI v) p).1 = nI w
  | 0, v, p, m, h, hm => ⟨v, by omega, rfl⟩
  | f + 1, v, p, m, h, hm => by
    unfold numL
    have hp : 0 < 10 ^ f := Nat.pow_pos (by omega)
    have hm2 : m * 10 * 10 ^ f ≤ 1000000 := by rw [Nat.mul_assoc, ← Nat.pow_succ']; exact hm
    have hm3 : m * 10 ≤ 1000000 := Nat.le_trans (Nat.le_mul_of_pos_right _ hp) hm2
    split
    · rename_i h1
      obtain ⟨d, hd, e⟩ := dig h1.2.2.1 h1.2.2.2
      have : 10 * nI v + tx p - 48 = nI (10 * v + d) := by
        rw [e, show (48 : Int32) = nI 48 from rfl, show (10 : Int32) = nI 10 from rfl, pk_mul, nI_add, pk_sub (by omega)]
        congr 1
        omega
      rw [this]
      exact numL_v f (10 * v + d) (p + 1) (m * 10) (by omega) hm2
    · exact ⟨v, by omega, rfl⟩
theorem numV_b {tx : Nat → Int32} {ln p : Nat} (h : p < ln ∧ 48 ≤ tx p ∧ tx p ≤ 57) : ∃ w : Nat, w < 1000000 ∧ numV tx ln p = nI w := by
  obtain ⟨d, hd, e⟩ := dig h.2.1 h.2.2
  unfold numV
  rw [if_pos h]
  have : tx p - 48 = nI d := by
    rw [e, show (48 : Int32) = nI 48 from rfl, pk_sub (by omega)]
    congr 1
    omega
  rw [this]
  exact numL_v 5 d (p + 1) 10 hd (by decide)
theorem numV_ge {tx : Nat → Int32} {ln p : Nat} (h : ¬ numV tx ln p < 0) : p < ln ∧ 48 ≤ tx p ∧ tx p ≤ 57 := by
  by_cases hd : p < ln ∧ 48 ≤ tx p ∧ tx p ≤ 57
  · exact hd
  · exfalso
    apply h
    unfold numV
    rw [if_neg hd]
    decide
theorem numV_lt {tx : Nat → Int32} {ln p : Nat} (h : numV tx ln p < 0) : ¬ (p < ln ∧ 48 ≤ tx p ∧ tx p ≤ 57) := by
  intro hd
  obtain ⟨w, h1, h2⟩ := numV_b hd
  rw [h2] at h
  exact nI_pos (by omega) h
theorem numP_no {tx : Nat → Int32} {ln p : Nat} (h : ¬ (p < ln ∧ 48 ≤ tx p ∧ tx p ≤ 57)) : numP tx ln p = p := if_neg h
end
section
abbrev rm_X7_in : Room := { frames := 0, cells := 0, slots := 0, locals := 0 }
set_option maxHeartbeats 4000000 in
set_option maxRecDepth 100000 in
theorem c_X7_in {l : Launch} {D : va_G} {cA : Nat → ClassId} {ad : Nat → Nat} {E : Nat → va_E} {v a b : Int32}    : CtI l D cA yX7_in cX7_in 3 .boolean rm_X7_in 243 ad E [.int v, .int a, .int b] (fun x E' => (E = E' ∧ 1 = x ∧ (a ≤ v ∧ v ≤ b)) ∨ (E = E' ∧ 0 = x ∧ ¬ (a ≤ v ∧ v ≤ b))) := by
  refine CtI.of (by decide +kernel) (Nat.le_of_ble_eq_true rfl) (fun X F hret => ?_)
  have F : Fr "ThumpEarsModel" cX7_in 3 D cA X := F
  refine (show GG rm_X7_in 3 l D X 0 0 243 ad E 0 [(0, .int v), (1, .int a), (2, .int b)] [] from ?_)
  refine g_iload_n F (q := 1) (dk dX7_in 0 rfl) rfl rfl 0 rfl ?_
  refine g_iload_n F (q := 2) (dk dX7_in 1 rfl) rfl rfl 1 rfl ?_
  refine g_icmp_lt F (q := 5) (tgt := 14) (dk dX7_in 2 rfl) (by decide) rfl (fun c2 => ?_) (fun c2 => ?_)
  · refine g_iconst F (q := 15) (v := 0) (dk dX7_in 8 rfl) rfl (by decide) ?_
    refine hret 0 E _ _ (dk dX7_in 9 rfl) rfl ?_
    exact Or.inr ⟨rfl, rfl, (fun h => absurd h.1 (Int32.not_le.mpr c2))⟩
  · refine g_iload_n F (q := 6) (dk dX7_in 3 rfl) rfl rfl 0 rfl ?_
    refine g_iload_n F (q := 7) (dk dX7_in 4 rfl) rfl rfl 2 rfl ?_
    refine g_icmp_gt F (q := 10) (tgt := 14) (dk dX7_in 5 rfl) (by decide) rfl (fun c7 => ?_) (fun c7 => ?_)
    · refine g_iconst F (q := 15) (v := 0) (dk dX7_in 8 rfl) rfl (by decide) ?_
      refine hret 0 E _ _ (dk dX7_in 9 rfl) rfl ?_
      exact Or.inr ⟨rfl, rfl, (fun h => absurd h.2 (Int32.not_le.mpr c7))⟩
    · refine g_iconst F (q := 11) (v := 1) (dk dX7_in 6 rfl) rfl (by decide) ?_
      refine g_goto F (tgt := 15) (dk dX7_in 7 rfl) (by decide) ?_
      refine hret 1 E _ _ (dk dX7_in 9 rfl) rfl ?_
      exact Or.inl ⟨rfl, rfl, ⟨Int32.not_lt.mp c2, Int32.not_lt.mp c7⟩⟩
theorem ks_X7_in : KS yX7_in "ThumpEarsModel" cX7_in 3 (some .boolean) 3 := ⟨tq_708, tq_47, tq_709, by decide +kernel⟩
abbrev rm_X7_far : Room := { frames := 0, cells := 0, slots := 0, locals := 0 }
set_option maxHeartbeats 4000000 in
set_option maxRecDepth 100000 in
theorem c_X7_far {l : Launch} {D : va_G} {cA : Nat → ClassId} {ad : Nat → Nat} {E : Nat → va_E} {a b : Int32}    : CtI l D cA yX7_far cX7_far 2 .int rm_X7_far 243 ad E [.int a, .int b] (fun x E' => (far a b) = x ∧ E = E') := by
  refine CtI.of (by decide +kernel) (Nat.le_of_ble_eq_true rfl) (fun X F hret => ?_)
  have F : Fr "ThumpEarsModel" cX7_far 2 D cA X := F
  refine (show GG rm_X7_far 2 l D X 0 0 243 ad E 0 [(0, .int a), (1, .int b)] [] from ?_)
  refine g_iload_n F (q := 1) (dk dX7_far 0 rfl) rfl rfl 0 rfl ?_
  refine g_iload_n F (q := 2) (dk dX7_far 1 rfl) rfl rfl 1 rfl ?_
  refine g_icmp_ge F (q := 5) (tgt := 11) (dk dX7_far 2 rfl) (by decide) rfl (fun c2 => ?_) (fun c2 => ?_)
  · refine g_iload_n F (q := 12) (dk dX7_far 7 rfl) rfl rfl 0 rfl ?_
    refine g_iload_n F (q := 13) (dk dX7_far 8 rfl) rfl rfl 1 rfl ?_
    refine g_isub F (q := 14) (dk dX7_far 9 rfl) rfl ?_
    refine hret (a - b) E _ _ (dk dX7_far 10 rfl) (nint _) ?_
    exact ⟨if_neg (Int32.not_lt.mpr c2), rfl⟩
  · refine g_iload_n F (q := 6) (dk dX7_far 3 rfl) rfl rfl 1 rfl ?_
    refine g_iload_n F (q := 7) (dk dX7_far 4 rfl) rfl rfl 0 rfl ?_
    refine g_isub F (q := 8) (dk dX7_far 5 rfl) rfl ?_
    refine g_goto F (tgt := 14) (dk dX7_far 6 rfl) (by decide) ?_
    refine hret (b - a) E _ _ (dk dX7_far 10 rfl) (nint _) ?_
    exact ⟨if_pos (Int32.not_le.mp c2), rfl⟩
theorem ks_X7_far : KS yX7_far "ThumpEarsModel" cX7_far 2 (some .int) 2 := ⟨tq_748, tq_47, tq_749, by decide +kernel⟩
abbrev rm_X7_down : Room := { frames := 0, cells := 0, slots := 0, locals := 0 }
set_option maxHeartbeats 4000000 in
set_option maxRecDepth 100000 in
theorem c_X7_down {l : Launch} {D : va_G} {cA : Nat → ClassId} {ad : Nat → Nat} {E : Nat → va_E} {a b : Int64}   (hb0 : ¬ b = 0) : CtL l D cA yX7_down cX7_down 6 rm_X7_down 243 ad E [.long a, .long b] (fun x E' => (dn a b) = x ∧ E = E') := by
  refine CtL.of (by decide +kernel) (Nat.le_of_ble_eq_true rfl) (fun X F hret => ?_)
  have F : Fr "ThumpEarsModel" cX7_down 6 D cA X := F
  refine (show GG rm_X7_down 6 l D X 0 0 243 ad E 0 [(0, .long a), (2, .long b)] [] from ?_)
  refine g_lload_n F (q := 1) (dk dX7_down 0 rfl) rfl rfl 0 rfl ?_
  refine g_lload_n F (q := 2) (dk dX7_down 1 rfl) rfl rfl 1 rfl ?_
  refine g_ldiv F (q := 3) (dk dX7_down 2 rfl) rfl hb0 ?_
  refine g_lstore F (q := 5) (lv' := [(4, .long (a / b)), (0, .long a), (2, .long b)]) (dk dX7_down 3 rfl) rfl (Nat.le_of_ble_eq_true rfl) rfl ?_
  refine g_lload F (q := 7) (dk dX7_down 4 rfl) rfl 0 rfl ?_
  refine g_lload_n F (q := 8) (dk dX7_down 5 rfl) rfl rfl 2 rfl ?_
  refine g_lmul F (q := 9) (dk dX7_down 6 rfl) rfl ?_
  refine g_lload_n F (q := 10) (dk dX7_down 7 rfl) rfl rfl 1 rfl ?_
  refine g_lcmp_le F (q := 14) (tgt := 21) (dk dX7_down 8 rfl) (dk dX7_down 9 rfl) (by decide) rfl (fun c10 => ?_) (fun c10 => ?_)
  · refine g_lload F (q := 23) (dk dX7_down 14 rfl) rfl 0 rfl ?_
    refine hret (a / b) E _ _ (dk dX7_down 15 rfl) ?_
    exact ⟨if_neg (Int64.not_lt.mpr c10), rfl⟩
  · refine g_lload F (q := 16) (dk dX7_down 10 rfl) rfl 0 rfl ?_
    refine g_lconst F (q := 17) (v := 1) (dk dX7_down 11 rfl) rfl (by decide) ?_
    refine g_lsub F (q := 18) (dk dX7_down 12 rfl) rfl ?_
    refine g_goto F (tgt := 23) (dk dX7_down 13 rfl) (by decide) ?_
    refine hret ((a / b) - 1) E _ _ (dk dX7_down 15 rfl) ?_
    exact ⟨if_pos (Int64.not_le.mp c10), rfl⟩
theorem ks_X7_down : KS yX7_down "ThumpEarsModel" cX7_down 6 (some .long) 2 := ⟨tq_756, tq_47, tq_757, by decide +kernel⟩
abbrev rm_X7_toldAs : Room := { frames := 0, cells := 0, slots := 0, locals := 0 }
set_option maxHeartbeats 4000000 in
set_option maxRecDepth 100000 in
theorem c_X7_toldAs {l : Launch} {D : va_G} {cA : Nat → ClassId} {ad : Nat → Nat} {E : Nat → va_E} {a : Int32}    : CtL l D cA yX7_toldAs cX7_toldAs 1 rm_X7_toldAs 243 ad E [.int a] (fun x E' => (toldAs a) = x ∧ E = E') := by
  refine CtL.of (by decide +kernel) (Nat.le_of_ble_eq_true rfl) (fun X F hret => ?_)
  have F : Fr "ThumpEarsModel" cX7_toldAs 1 D cA X := F
  refine (show GG rm_X7_toldAs 1 l D X 0 0 243 ad E 0 [(0, .int a)] [] from ?_)
  refine g_ldc2 F (q := 3) (v := (-9223372036854775808)) (dk dX7_toldAs 0 rfl) rfl tq_846 ?_
  refine g_iload_n F (q := 4) (dk dX7_toldAs 1 rfl) rfl rfl 0 rfl ?_
  refine g_i2l F (q := 5) (dk dX7_toldAs 2 rfl) rfl ?_
  refine g_lsub F (q := 6) (dk dX7_toldAs 3 rfl) rfl ?_
  refine hret ((-9223372036854775808) - a.toInt64) E _ _ (dk dX7_toldAs 4 rfl) ?_
  exact ⟨rfl, rfl⟩
theorem ks_X7_toldAs : KS yX7_toldAs "ThumpEarsModel" cX7_toldAs 1 (some .long) 1 := ⟨tq_844, tq_47, tq_845, by decide +kernel⟩
abbrev rm_X7_of : Room := { frames := 0, cells := 0, slots := 0, locals := 0 }
set_option maxHeartbeats 4000000 in
set_option maxRecDepth 100000 in
theorem c_X7_of {l : Launch} {D : va_G} {cA : Nat → ClassId} {ad : Nat → Nat} {E : Nat → va_E} {s0 s1 s2 s3 s4 s5 : Int32} {lo mo : Int64} {r : Nat → Int32} {e w : Nat} (h233 : E 233 = .inr (7, [.ref (ad 234), .ref (ad 235), .ref (ad 236), .ref (ad 237), .int s0, .int s1, .ref (ad 238), .int s2, .int s3, .int s4, .int s5, .ref (ad 239), .ref (ad 240), .ref (ad 241), .long lo, .long mo, .ref (ad 242)])) (h234 : E 234 = .inl (cA 0, 346, .inl r))  (hw : 6 + 4 * e + w < 346) : CtI l D cA yX7_of cX7_of 3 .int rm_X7_of 243 ad E [.ref (ad 233), .int (nI e), .int (nI w)] (fun x E' => (r (6 + 4 * e + w)) = x ∧ E = E') := by
  refine CtI.of (by decide +kernel) (Nat.le_of_ble_eq_true rfl) (fun X F hret => ?_)
  have F : Fr "ThumpEarsModel" cX7_of 3 D cA X := F
  refine (show GG rm_X7_of 3 l D X 0 0 243 ad E 0 [(0, .ref (ad 233)), (1, .int (nI e)), (2, .int (nI w))] [] from ?_)
  refine g_aload_n F (q := 1) (dk dX7_of 0 rfl) rfl rfl 0 rfl ?_
  refine g_getf F (q := 4) h233 rfl inX7 (by omega) (j := 0) (by decide) tq_623 rfl rfl (dk dX7_of 1 rfl) rfl ?_
  refine g_bipush F (q := 6) (v := 6) (dk dX7_of 2 rfl) rfl (by decide) ?_
  refine g_iconst F (q := 7) (v := 4) (dk dX7_of 3 rfl) rfl (by decide) ?_
  refine g_iload_n F (q := 8) (dk dX7_of 4 rfl) rfl rfl 1 rfl ?_
  refine g_imul F (q := 9) (dk dX7_of 5 rfl) rfl ?_
  refine g_iadd F (q := 10) (dk dX7_of 6 rfl) rfl ?_
  refine g_iload_n F (q := 11) (dk dX7_of 7 rfl) rfl rfl 2 rfl ?_
  refine g_iadd F (q := 12) (dk dX7_of 8 rfl) rfl ?_
  refine g_iald F (q := 13) (((6 + (4 * e)) + w)) h234 (by omega) (nA (nA rfl (nM rfl rfl)) rfl) (by omega) (by decide) (dk dX7_of 9 rfl) rfl ?_
  refine hret (r (((6 + (4 * e)) + w))) E _ _ (dk dX7_of 10 rfl) (nint _) ?_
  exact ⟨rfl, rfl⟩
theorem kv_X7_of : KV yX7_of "ThumpEarsModel" cX7_of 3 (some .int) 2 := ⟨tq_720, tq_13, tq_47, tq_721, by decide +kernel⟩
abbrev rm_X7_come : Room := { frames := 0, cells := 0, slots := 0, locals := 0 }
set_option maxHeartbeats 4000000 in
set_option maxRecDepth 100000 in
theorem c_X7_come {l : Launch} {D : va_G} {cA : Nat → ClassId} {ad : Nat → Nat} {E : Nat → va_E} {s0 s1 s2 s3 s4 s5 : Int32} {lo mo : Int64} {r : Nat → Int32} {k m w : Nat} (h233 : E 233 = .inr (7, [.ref (ad 234), .ref (ad 235), .ref (ad 236), .ref (ad 237), .int s0, .int s1, .ref (ad 238), .int s2, .int s3, .int s4, .int s5, .ref (ad 239), .ref (ad 240), .ref (ad 241), .long lo, .long mo, .ref (ad 242)])) (h234 : E 234 = .inl (cA 0, 346, .inl r))  (hw : 46 + 50 * k + 5 * m + w < 346) : CtI l D cA yX7_come cX7_come 4 .int rm_X7_come 243 ad E [.ref (ad 233), .int (nI k), .int (nI m), .int (nI w)] (fun x E' => (r (46 + 50 * k + 5 * m + w)) = x ∧ E = E') := by
  refine CtI.of (by decide +kernel) (Nat.le_of_ble_eq_true rfl) (fun X F hret => ?_)
  have F : Fr "ThumpEarsModel" cX7_come 4 D cA X := F
  refine (show GG rm_X7_come 4 l D X 0 0 243 ad E 0 [(0, .ref (ad 233)), (1, .int (nI k)), (2, .int (nI m)), (3, .int (nI w))] [] from ?_)
  refine g_aload_n F (q := 1) (dk dX7_come 0 rfl) rfl rfl 0 rfl ?_
  refine g_getf F (q := 4) h233 rfl inX7 (by omega) (j := 0) (by decide) tq_623 rfl rfl (dk dX7_come 1 rfl) rfl ?_
  refine g_bipush F (q := 6) (v := 46) (dk dX7_come 2 rfl) rfl (by decide) ?_
  refine g_bipush F (q := 8) (v := 50) (dk dX7_come 3 rfl) rfl (by decide) ?_
  refine g_iload_n F (q := 9) (dk dX7_come 4 rfl) rfl rfl 1 rfl ?_
  refine g_imul F (q := 10) (dk dX7_come 5 rfl) rfl ?_
  refine g_iadd F (q := 11) (dk dX7_come 6 rfl) rfl ?_
  refine g_iconst F (q := 12) (v := 5) (dk dX7_come 7 rfl) rfl (by decide) ?_
  refine g_iload_n F (q := 13) (dk dX7_come 8 rfl) rfl rfl 2 rfl ?_
  refine g_imul F (q := 14) (dk dX7_come 9 rfl) rfl ?_
  refine g_iadd F (q := 15) (dk dX7_come 10 rfl) rfl ?_
  refine g_iload_n F (q := 16) (dk dX7_come 11 rfl) rfl rfl 3 rfl ?_
  refine g_iadd F (q := 17) (dk dX7_come 12 rfl) rfl ?_
  refine g_iald F (q := 18) ((((46 + (50 * k)) + (5 * m)) + w)) h234 (by omega) (nA (nA (nA rfl (nM rfl rfl)) (nM rfl rfl)) rfl) (by omega) (by decide) (dk dX7_come 13 rfl) rfl ?_
  refine hret (r ((((46 + (50 * k)) + (5 * m)) + w))) E _ _ (dk dX7_come 14 rfl) (nint _) ?_
  exact ⟨rfl, rfl⟩
theorem kv_X7_come : KV yX7_come "ThumpEarsModel" cX7_come 4 (some .int) 3 := ⟨tq_772, tq_19, tq_47, tq_773, by decide +kernel⟩
abbrev rm_X7_heardOf : Room := { frames := 0, cells := 0, slots := 0, locals := 0 }
set_option maxHeartbeats 4000000 in
set_option maxRecDepth 100000 in
theorem c_X7_heardOf {l : Launch} {D : va_G} {cA : Nat → ClassId} {ad : Nat → Nat} {E : Nat → va_E} {s0 s1 s2 s3 s4 s5 : Int32} {lo mo : Int64} {r : Nat → Int32} {k m e : Nat} (h233 : E 233 = .inr (7, [.ref (ad 234), .ref (ad 235), .ref (ad 236), .ref (ad 237), .int s0, .int s1, .ref (ad 238), .int s2, .int s3, .int s4, .int s5, .ref (ad 239), .ref (ad 240), .ref (ad 241), .long lo, .long mo, .ref (ad 242)])) (h234 : E 234 = .inl (cA 0, 346, .inl r))  (hw : 146 + 100 * k + 10 * m + e < 346) : CtI l D cA yX7_heardOf cX7_heardOf 4 .int rm_X7_heardOf 243 ad E [.ref (ad 233), .int (nI k), .int (nI m), .int (nI e)] (fun x E' => (r (146 + 100 * k + 10 * m + e)) = x ∧ E = E') := by
  refine CtI.of (by decide +kernel) (Nat.le_of_ble_eq_true rfl) (fun X F hret => ?_)
  have F : Fr "ThumpEarsModel" cX7_heardOf 4 D cA X := F
  refine (show GG rm_X7_heardOf 4 l D X 0 0 243 ad E 0 [(0, .ref (ad 233)), (1, .int (nI k)), (2, .int (nI m)), (3, .int (nI e))] [] from ?_)
  refine g_aload_n F (q := 1) (dk dX7_heardOf 0 rfl) rfl rfl 0 rfl ?_
  refine g_getf F (q := 4) h233 rfl inX7 (by omega) (j := 0) (by decide) tq_623 rfl rfl (dk dX7_heardOf 1 rfl) rfl ?_
  refine g_sipush F (q := 7) (v := 146) (dk dX7_heardOf 2 rfl) rfl (by decide) ?_
  refine g_bipush F (q := 9) (v := 100) (dk dX7_heardOf 3 rfl) rfl (by decide) ?_
  refine g_iload_n F (q := 10) (dk dX7_heardOf 4 rfl) rfl rfl 1 rfl ?_
  refine g_imul F (q := 11) (dk dX7_heardOf 5 rfl) rfl ?_
  refine g_iadd F (q := 12) (dk dX7_heardOf 6 rfl) rfl ?_
  refine g_bipush F (q := 14) (v := 10) (dk dX7_heardOf 7 rfl) rfl (by decide) ?_
  refine g_iload_n F (q := 15) (dk dX7_heardOf 8 rfl) rfl rfl 2 rfl ?_
  refine g_imul F (q := 16) (dk dX7_heardOf 9 rfl) rfl ?_
  refine g_iadd F (q := 17) (dk dX7_heardOf 10 rfl) rfl ?_
  refine g_iload_n F (q := 18) (dk dX7_heardOf 11 rfl) rfl rfl 3 rfl ?_
  refine g_iadd F (q := 19) (dk dX7_heardOf 12 rfl) rfl ?_
  refine g_iald F (q := 20) ((((146 + (100 * k)) + (10 * m)) + e)) h234 (by omega) (nA (nA (nA rfl (nM rfl rfl)) (nM rfl rfl)) rfl) (by omega) (by decide) (dk dX7_heardOf 13 rfl) rfl ?_
  refine hret (r ((((146 + (100 * k)) + (10 * m)) + e))) E _ _ (dk dX7_heardOf 14 rfl) (nint _) ?_
  exact ⟨rfl, rfl⟩
theorem kv_X7_heardOf : KV yX7_heardOf "ThumpEarsModel" cX7_heardOf 4 (some .int) 3 := ⟨tq_824, tq_28, tq_47, tq_825, by decide +kernel⟩
abbrev rm_X7_came : Room := { frames := 0, cells := 0, slots := 0, locals := 0 }
set_option maxHeartbeats 4000000 in
set_option maxRecDepth 100000 in
theorem c_X7_came {l : Launch} {D : va_G} {cA : Nat → ClassId} {ad : Nat → Nat} {E : Nat → va_E} {s0 s1 s2 s3 s4 s5 : Int32} {lo mo : Int64} {r : Nat → Int32}  (h233 : E 233 = .inr (7, [.ref (ad 234), .ref (ad 235), .ref (ad 236), .ref (ad 237), .int s0, .int s1, .ref (ad 238), .int s2, .int s3, .int s4, .int s5, .ref (ad 239), .ref (ad 240), .ref (ad 241), .long lo, .long mo, .ref (ad 242)])) (h234 : E 234 = .inl (cA 0, 346, .inl r))   : CtI l D cA yX7_came cX7_came 1 .int rm_X7_came 243 ad E [.ref (ad 233)] (fun x E' => (r 1 + r 2) = x ∧ E = E') := by
  refine CtI.of (by decide +kernel) (Nat.le_of_ble_eq_true rfl) (fun X F hret => ?_)
  have F : Fr "ThumpEarsModel" cX7_came 1 D cA X := F
  refine (show GG rm_X7_came 1 l D X 0 0 243 ad E 0 [(0, .ref (ad 233))] [] from ?_)
  refine g_aload_n F (q := 1) (dk dX7_came 0 rfl) rfl rfl 0 rfl ?_
  refine g_getf F (q := 4) h233 rfl inX7 (by omega) (j := 0) (by decide) tq_623 rfl rfl (dk dX7_came 1 rfl) rfl ?_
  refine g_iconst F (q := 5) (v := 1) (dk dX7_came 2 rfl) rfl (by decide) ?_
  refine g_iald F (q := 6) 1 h234 (by omega) rfl (by omega) (by decide) (dk dX7_came 3 rfl) rfl ?_
  refine g_aload_n F (q := 7) (dk dX7_came 4 rfl) rfl rfl 0 rfl ?_
  refine g_getf F (q := 10) h233 rfl inX7 (by omega) (j := 0) (by decide) tq_623 rfl rfl (dk dX7_came 5 rfl) rfl ?_
  refine g_iconst F (q := 11) (v := 2) (dk dX7_came 6 rfl) rfl (by decide) ?_
  refine g_iald F (q := 12) 2 h234 (by omega) rfl (by omega) (by decide) (dk dX7_came 7 rfl) rfl ?_
  refine g_iadd F (q := 13) (dk dX7_came 8 rfl) rfl ?_
  refine hret ((r 1) + (r 2)) E _ _ (dk dX7_came 9 rfl) (nint _) ?_
  exact ⟨rfl, rfl⟩
theorem kv_X7_came : KV yX7_came "ThumpEarsModel" cX7_came 1 (some .int) 0 := ⟨tq_685, tq_8, tq_47, tq_686, by decide +kernel⟩
abbrev rm_X7_remember : Room := { frames := 0, cells := 0, slots := 0, locals := 0 }
set_option maxHeartbeats 4000000 in
set_option maxRecDepth 100000 in
theorem c_X7_remember {l : Launch} {D : va_G} {cA : Nat → ClassId} {ad : Nat → Nat} {E : Nat → va_E} {s0 s1 s2 s3 s4 s5 : Int32} {lo mo : Int64} {r bef : Nat → Int32}  (h233 : E 233 = .inr (7, [.ref (ad 234), .ref (ad 235), .ref (ad 236), .ref (ad 237), .int s0, .int s1, .ref (ad 238), .int s2, .int s3, .int s4, .int s5, .ref (ad 239), .ref (ad 240), .ref (ad 241), .long lo, .long mo, .ref (ad 242)])) (h234 : E 234 = .inl (cA 0, 346, .inl r)) (h237 : E 237 = .inl (cA 0, 346, .inl bef))   : CtV l D cA yX7_remember cX7_remember 2 rm_X7_remember 243 ad E [.ref (ad 233)] (fun E' => ∃ (g : Nat → Int32), E' 237 = .inl (cA 0, 346, .inl g) ∧ (eqN 346 g r) ∧ ∀ j, (j ≠ 237) → E' j = E j) := by
  refine CtV.of (by decide +kernel) (Nat.le_of_ble_eq_true rfl) (fun X F hret => ?_)
  have F : Fr "ThumpEarsModel" cX7_remember 2 D cA X := F
  refine (show GG rm_X7_remember 2 l D X 0 0 243 ad E 0 [(0, .ref (ad 233))] [] from ?_)
  refine g_iconst F (q := 1) (v := 0) (dk dX7_remember 0 rfl) rfl (by decide) ?_
  refine g_istore_n F (q := 2) (lv' := [(1, .int 0), (0, .ref (ad 233))]) (dk dX7_remember 1 rfl) rfl rfl (Nat.le_of_ble_eq_true rfl) rfl ?_
  have K2 : ∀ (fu : Nat) (i : Nat) (g : Nat → Int32) (E1 : Nat → va_E), 346 - i < fu → (hg : E1 237 = .inl (cA 0, 346, .inl g)) → (hfr2 : ∀ j, (j ≠ 237) → E1 j = E j) → (hi : i ≤ 346) → (hg2 : eqN i g r) → GG rm_X7_remember 2 l D X 0 0 243 ad E1 2 [(0, .ref (ad 233)), (1, .int (nI i))] [] := by
    intro fu
    induction fu with
    | zero => intro i g E1 hfu_; exact absurd hfu_ (Nat.not_lt_zero _)
    | succ fu ih =>
      intro i g E1 hfu_ hg hfr2 hi hg2
      refine g_iload_n F (q := 3) (dk dX7_remember 2 rfl) rfl rfl 1 rfl ?_
      refine g_sipush F (q := 6) (v := 346) (dk dX7_remember 3 rfl) rfl (by decide) ?_
      refine g_icmp_ge F (q := 9) (tgt := 27) (dk dX7_remember 4 rfl) (by decide) rfl (fun c6 => ?_) (fun c6 => ?_)
      · have nc6 : 346 ≤ i := (nI_leI (a := 346) (b := i) (by omega) (by omega)).mp c6
        refine hret E1 _ _ (dk dX7_remember 15 rfl) ?_
        exact ⟨g, hg, (fun k hk => hg2 k (by omega)), (fun j hj => (hfr2 j (by omega)))⟩
      · have nc6 : ¬ 346 ≤ i := fun h => c6 ((nI_leI (a := 346) (b := i) (by omega) (by omega)).mpr h)
        refine g_aload_n F (q := 10) (dk dX7_remember 5 rfl) rfl rfl 0 rfl ?_
        have hc1 := (hfr2 233 (by omega)).trans h233
        refine g_getf F (q := 13) hc1 rfl inX7 (by omega) (j := 3) (by decide) tq_626 rfl rfl (dk dX7_remember 6 rfl) rfl ?_
        refine g_iload_n F (q := 14) (dk dX7_remember 7 rfl) rfl rfl 1 rfl ?_
        refine g_aload_n F (q := 15) (dk dX7_remember 8 rfl) rfl rfl 0 rfl ?_
        refine g_getf F (q := 18) hc1 rfl inX7 (by omega) (j := 0) (by decide) tq_623 rfl rfl (dk dX7_remember 9 rfl) rfl ?_
        refine g_iload_n F (q := 19) (dk dX7_remember 10 rfl) rfl rfl 1 rfl ?_
        have hc2 := (hfr2 234 (by omega)).trans h234
        refine g_iald F (q := 20) i hc2 (by omega) rfl (by omega) (by decide) (dk dX7_remember 11 rfl) rfl ?_
        refine g_iast F (q := 21) i hg (by omega) rfl (by omega) (by decide) (dk dX7_remember 12 rfl) rfl (fun E20 hE20 hO20 => ?_)
        refine g_iinc F (q := 24) (v := (nI ((i + 1)))) (lv' := [(1, .int (nI ((i + 1)))), (0, .ref (ad 233))]) (dk dX7_remember 13 rfl) rfl 1 rfl (nI_1 _) (Nat.le_of_ble_eq_true rfl) rfl ?_
        refine g_goto F (tgt := 2) (dk dX7_remember 14 rfl) (by decide) ?_
        refine g_lv (lv' := [(0, .ref (ad 233)), (1, .int (nI ((i + 1))))]) [1, 0] rfl ?_
        exact ih (i + 1) (upd g i (r i)) E20 (by omega) hE20 (fun j hj => ((hO20 j (by omega)).trans (hfr2 j (by omega)))) (by omega) (eqN_cpy hg2)
  refine g_lv (lv' := [(0, .ref (ad 233)), (1, .int 0)]) [1, 0] rfl ?_
  exact K2 _ 0 bef E (Nat.lt_succ_self _) h237 (fun j _ => rfl) (by omega) (fun k hk => absurd hk (Nat.not_lt_zero k))
theorem kv_X7_remember : KV yX7_remember "ThumpEarsModel" cX7_remember 2 (none) 0 := ⟨tq_697, tq_10, tq_47, tq_698, by decide +kernel⟩
abbrev rm_X7_goBack : Room := { frames := 0, cells := 0, slots := 0, locals := 0 }
set_option maxHeartbeats 4000000 in
set_option maxRecDepth 100000 in
theorem c_X7_goBack {l : Launch} {D : va_G} {cA : Nat → ClassId} {ad : Nat → Nat} {E : Nat → va_E} {s0 s1 s2 s3 s4 s5 : Int32} {lo mo : Int64} {bef r : Nat → Int32}  (h233 : E 233 = .inr (7, [.ref (ad 234), .ref (ad 235), .ref (ad 236), .ref (ad 237), .int s0, .int s1, .ref (ad 238), .int s2, .int s3, .int s4, .int s5, .ref (ad 239), .ref (ad 240), .ref (ad 241), .long lo, .long mo, .ref (ad 242)])) (h237 : E 237 = .inl (cA 0, 346, .inl bef)) (h234 : E 234 = .inl (cA 0, 346, .inl r))   : CtV l D cA yX7_goBack cX7_goBack 2 rm_X7_goBack 243 ad E [.ref (ad 233)] (fun E' => ∃ (g : Nat → Int32), E' 234 = .inl (cA 0, 346, .inl g) ∧ (eqN 346 g bef) ∧ ∀ j, (j ≠ 234) → E' j = E j) := by
  refine CtV.of (by decide +kernel) (Nat.le_of_ble_eq_true rfl) (fun X F hret => ?_)
  have F : Fr "ThumpEarsModel" cX7_goBack 2 D cA X := F
  refine (show GG rm_X7_goBack 2 l D X 0 0 243 ad E 0 [(0, .ref (ad 233))] [] from ?_)
  refine g_iconst F (q := 1) (v := 0) (dk dX7_goBack 0 rfl) rfl (by decide) ?_
  refine g_istore_n F (q := 2) (lv' := [(1, .int 0), (0, .ref (ad 233))]) (dk dX7_goBack 1 rfl) rfl rfl (Nat.le_of_ble_eq_true rfl) rfl ?_
  have K2 : ∀ (fu : Nat) (i : Nat) (g : Nat → Int32) (E1 : Nat → va_E), 346 - i < fu → (hg : E1 234 = .inl (cA 0, 346, .inl g)) → (hfr2 : ∀ j, (j ≠ 234) → E1 j = E j) → (hi : i ≤ 346) → (hg2 : eqN i g bef) → GG rm_X7_goBack 2 l D X 0 0 243 ad E1 2 [(0, .ref (ad 233)), (1, .int (nI i))] [] := by
    intro fu
    induction fu with
    | zero => intro i g E1 hfu_; exact absurd hfu_ (Nat.not_lt_zero _)
    | succ fu ih =>
      intro i g E1 hfu_ hg hfr2 hi hg2
      refine g_iload_n F (q := 3) (dk dX7_goBack 2 rfl) rfl rfl 1 rfl ?_
      refine g_sipush F (q := 6) (v := 346) (dk dX7_goBack 3 rfl) rfl (by decide) ?_
      refine g_icmp_ge F (q := 9) (tgt := 27) (dk dX7_goBack 4 rfl) (by decide) rfl (fun c6 => ?_) (fun c6 => ?_)
      · have nc6 : 346 ≤ i := (nI_leI (a := 346) (b := i) (by omega) (by omega)).mp c6
        refine hret E1 _ _ (dk dX7_goBack 15 rfl) ?_
        exact ⟨g, hg, (fun k hk => hg2 k (by omega)), (fun j hj => (hfr2 j (by omega)))⟩
      · have nc6 : ¬ 346 ≤ i := fun h => c6 ((nI_leI (a := 346) (b := i) (by omega) (by omega)).mpr h)
        refine g_aload_n F (q := 10) (dk dX7_goBack 5 rfl) rfl rfl 0 rfl ?_
        have hc1 := (hfr2 233 (by omega)).trans h233
        refine g_getf F (q := 13) hc1 rfl inX7 (by omega) (j := 0) (by decide) tq_623 rfl rfl (dk dX7_goBack 6 rfl) rfl ?_
        refine g_iload_n F (q := 14) (dk dX7_goBack 7 rfl) rfl rfl 1 rfl ?_
        refine g_aload_n F (q := 15) (dk dX7_goBack 8 rfl) rfl rfl 0 rfl ?_
        refine g_getf F (q := 18) hc1 rfl inX7 (by omega) (j := 3) (by decide) tq_626 rfl rfl (dk dX7_goBack 9 rfl) rfl ?_
        refine g_iload_n F (q := 19) (dk dX7_goBack 10 rfl) rfl rfl 1 rfl ?_
        have hc2 := (hfr2 237 (by omega)).trans h237
        refine g_iald F (q := 20) i hc2 (by omega) rfl (by omega) (by decide) (dk dX7_goBack 11 rfl) rfl ?_
        refine g_iast F (q := 21) i hg (by omega) rfl (by omega) (by decide) (dk dX7_goBack 12 rfl) rfl (fun E20 hE20 hO20 => ?_)
        refine g_iinc F (q := 24) (v := (nI ((i + 1)))) (lv' := [(1, .int (nI ((i + 1)))), (0, .ref (ad 233))]) (dk dX7_goBack 13 rfl) rfl 1 rfl (nI_1 _) (Nat.le_of_ble_eq_true rfl) rfl ?_
        refine g_goto F (tgt := 2) (dk dX7_goBack 14 rfl) (by decide) ?_
        refine g_lv (lv' := [(0, .ref (ad 233)), (1, .int (nI ((i + 1))))]) [1, 0] rfl ?_
        exact ih (i + 1) (upd g i (bef i)) E20 (by omega) hE20 (fun j hj => ((hO20 j (by omega)).trans (hfr2 j (by omega)))) (by omega) (eqN_cpy hg2)
  refine g_lv (lv' := [(0, .ref (ad 233)), (1, .int 0)]) [1, 0] rfl ?_
  exact K2 _ 0 r E (Nat.lt_succ_self _) h234 (fun j _ => rfl) (by omega) (fun k hk => absurd hk (Nat.not_lt_zero k))
theorem kv_X7_goBack : KV yX7_goBack "ThumpEarsModel" cX7_goBack 2 (none) 0 := ⟨tq_812, tq_26, tq_47, tq_813, by decide +kernel⟩
abbrev rm_X7_record : Room := { frames := 0, cells := 0, slots := 0, locals := 0 }
set_option maxHeartbeats 4000000 in
set_option maxRecDepth 100000 in
theorem c_X7_record {l : Launch} {D : va_G} {cA : Nat → ClassId} {ad : Nat → Nat} {E : Nat → va_E} {nh : Nat} {s1 s2 s3 s4 s5 : Int32} {lo mo : Int64} {past bef : Nat → Int32}  (h233 : E 233 = .inr (7, [.ref (ad 234), .ref (ad 235), .ref (ad 236), .ref (ad 237), .int (nI nh), .int s1, .ref (ad 238), .int s2, .int s3, .int s4, .int s5, .ref (ad 239), .ref (ad 240), .ref (ad 241), .long lo, .long mo, .ref (ad 242)])) (h235 : E 235 = .inl (cA 0, 1384, .inl past)) (h237 : E 237 = .inl (cA 0, 346, .inl bef))  (hnh : nh ≤ 4) : CtV l D cA yX7_record cX7_record 2 rm_X7_record 243 ad E [.ref (ad 233)] (fun E' => ∃ (q : Nat → Int32), E' 233 = .inr (7, [.ref (ad 234), .ref (ad 235), .ref (ad 236), .ref (ad 237), .int (nI ((nup nh))), .int s1, .ref (ad 238), .int s2, .int s3, .int s4, .int s5, .ref (ad 239), .ref (ad 240), .ref (ad 241), .long lo, .long mo, .ref (ad 242)]) ∧ E' 235 = .inl (cA 0, 1384, .inl q) ∧ (eqH (nup nh) (hof q) (hpush nh (hof past) bef)) ∧ ∀ j, (j ≠ 233 ∧ j ≠ 235) → E' j = E j) := by
  refine CtV.of (by decide +kernel) (Nat.le_of_ble_eq_true rfl) (fun X F hret => ?_)
  have F : Fr "ThumpEarsModel" cX7_record 2 D cA X := F
  refine (show GG rm_X7_record 2 l D X 0 0 243 ad E 0 [(0, .ref (ad 233))] [] from ?_)
  refine g_aload_n F (q := 1) (dk dX7_record 0 rfl) rfl rfl 0 rfl ?_
  refine g_getf F (q := 4) h233 rfl inX7 (by omega) (j := 4) (by decide) tq_627 rfl rfl (dk dX7_record 1 rfl) rfl ?_
  refine g_iconst F (q := 5) (v := 4) (dk dX7_record 2 rfl) rfl (by decide) ?_
  refine g_icmp_ne F (q := 8) (tgt := 49) (dk dX7_record 3 rfl) (by decide) rfl (fun c5 => ?_) (fun c5 => ?_)
  · have nc5 : ¬ nh = 4 := fun h => c5 ((nI_eq (a := nh) (b := 4) (by omega) (by omega)).mpr h)
    refine g_iconst F (q := 50) (v := 0) (dk dX7_record 27 rfl) rfl (by decide) ?_
    refine g_istore_n F (q := 51) (lv' := [(1, .int 0), (0, .ref (ad 233))]) (dk dX7_record 28 rfl) rfl rfl (Nat.le_of_ble_eq_true rfl) rfl ?_
    have K51 : ∀ (fu : Nat) (i : Nat) (q : Nat → Int32) (E2 : Nat → va_E), 346 - i < fu → (hq : E2 235 = .inl (cA 0, 1384, .inl q)) → (hfr51 : ∀ j, (j ≠ 235) → E2 j = E j) → (hi : i ≤ 346) → (hq1 : ∀ j, j < i → q (346 * nh + j) = bef j) → (hq2 : ∀ j, j < 346 * nh → q j = past j) → GG rm_X7_record 2 l D X 0 0 243 ad E2 51 [(0, .ref (ad 233)), (1, .int (nI i))] [] := by
      intro fu
      induction fu with
      | zero => intro i q E2 hfu_; exact absurd hfu_ (Nat.not_lt_zero _)
      | succ fu ih =>
        intro i q E2 hfu_ hq hfr51 hi hq1 hq2
        refine g_iload_n F (q := 52) (dk dX7_record 29 rfl) rfl rfl 1 rfl ?_
        refine g_sipush F (q := 55) (v := 346) (dk dX7_record 30 rfl) rfl (by decide) ?_
        refine g_icmp_ge F (q := 58) (tgt := 85) (dk dX7_record 31 rfl) (by decide) rfl (fun c55 => ?_) (fun c55 => ?_)
        · have nc55 : 346 ≤ i := (nI_leI (a := 346) (b := i) (by omega) (by omega)).mp c55
          refine g_aload_n F (q := 86) (dk dX7_record 47 rfl) rfl rfl 0 rfl ?_
          refine g_dup F (q := 87) (dk dX7_record 48 rfl) rfl rfl ?_
          have hc1 := (hfr51 233 (by omega)).trans h233
          refine g_getf F (q := 90) hc1 rfl inX7 (by omega) (j := 4) (by decide) tq_627 rfl rfl (dk dX7_record 49 rfl) rfl ?_
          refine g_iconst F (q := 91) (v := 1) (dk dX7_record 50 rfl) rfl (by decide) ?_
          refine g_iadd F (q := 92) (dk dX7_record 51 rfl) rfl ?_
          refine g_sti (nA rfl rfl) ?_
          refine g_putf F (q := 95) (ty := .int) hc1 rfl inX7 tyX7 tyX7_ok nmX7 (by omega) (j := 4) (by decide) tq_627 rfl rfl (by decide +kernel) rfl rfl (Nat.le_of_ble_eq_true rfl) (dk dX7_record 52 rfl) rfl (fun E92 hE92 hO92 => ?_)
          have hE92 : E92 233 = .inr (7, [.ref (ad 234), .ref (ad 235), .ref (ad 236), .ref (ad 237), .int (nI ((nh + 1))), .int s1, .ref (ad 238), .int s2, .int s3, .int s4, .int s5, .ref (ad 239), .ref (ad 240), .ref (ad 241), .long lo, .long mo, .ref (ad 242)]) := hE92
          have hc2 := (hO92 235 (by omega)).trans hq
          refine hret E92 _ _ (dk dX7_record 53 rfl) ?_
          have h4 : nup nh = nh + 1 := if_neg nc5
          exact ⟨_, (by rw [h4]; exact hE92), hc2, (recB nc5 nc55 hq1 hq2), (fun j hj => ((hO92 j (by omega)).trans (hfr51 j (by omega))))⟩
        · have nc55 : ¬ 346 ≤ i := fun h => c55 ((nI_leI (a := 346) (b := i) (by omega) (by omega)).mpr h)
          refine g_aload_n F (q := 59) (dk dX7_record 32 rfl) rfl rfl 0 rfl ?_
          have hc3 := (hfr51 233 (by omega)).trans h233
          refine g_getf F (q := 62) hc3 rfl inX7 (by omega) (j := 1) (by decide) tq_624 rfl rfl (dk dX7_record 33 rfl) rfl ?_
          refine g_sipush F (q := 65) (v := 346) (dk dX7_record 34 rfl) rfl (by decide) ?_
          refine g_aload_n F (q := 66) (dk dX7_record 35 rfl) rfl rfl 0 rfl ?_
          refine g_getf F (q := 69) hc3 rfl inX7 (by omega) (j := 4) (by decide) tq_627 rfl rfl (dk dX7_record 36 rfl) rfl ?_
          refine g_imul F (q := 70) (dk dX7_record 37 rfl) rfl ?_
          refine g_iload_n F (q := 71) (dk dX7_record 38 rfl) rfl rfl 1 rfl ?_
          refine g_iadd F (q := 72) (dk dX7_record 39 rfl) rfl ?_
          refine g_aload_n F (q := 73) (dk dX7_record 40 rfl) rfl rfl 0 rfl ?_
          refine g_getf F (q := 76) hc3 rfl inX7 (by omega) (j := 3) (by decide) tq_626 rfl rfl (dk dX7_record 41 rfl) rfl ?_
          refine g_iload_n F (q := 77) (dk dX7_record 42 rfl) rfl rfl 1 rfl ?_
          have hc4 := (hfr51 237 (by omega)).trans h237
          refine g_iald F (q := 78) i hc4 (by omega) rfl (by omega) (by decide) (dk dX7_record 43 rfl) rfl ?_
          refine g_iast F (q := 79) (((346 * nh) + i)) hq (by omega) (nA (nM rfl rfl) rfl) (by omega) (by decide) (dk dX7_record 44 rfl) rfl (fun E78 hE78 hO78 => ?_)
          refine g_iinc F (q := 82) (v := (nI ((i + 1)))) (lv' := [(1, .int (nI ((i + 1)))), (0, .ref (ad 233))]) (dk dX7_record 45 rfl) rfl 1 rfl (nI_1 _) (Nat.le_of_ble_eq_true rfl) rfl ?_
          refine g_goto F (tgt := 51) (dk dX7_record 46 rfl) (by decide) ?_
          refine g_lv (lv' := [(0, .ref (ad 233)), (1, .int (nI ((i + 1))))]) [1, 0] rfl ?_
          exact ih (i + 1) (upd q (((346 * nh) + i)) (bef i)) E78 (by omega) hE78 (fun j hj => ((hO78 j (by omega)).trans (hfr51 j (by omega)))) (by omega) (cpP1 hq1) (cpP2 hq2)
    refine g_lv (lv' := [(0, .ref (ad 233)), (1, .int 0)]) [1, 0] rfl ?_
    exact K51 _ 0 past E (Nat.lt_succ_self _) h235 (fun j _ => rfl) (by omega) (fun j hj => absurd hj (Nat.not_lt_zero j)) (fun j _ => rfl)
  · have nc5 : nh = 4 := (nI_eq (a := nh) (b := 4) (by omega) (by omega)).mp c5
    subst nc5
    refine g_iconst F (q := 9) (v := 0) (dk dX7_record 4 rfl) rfl (by decide) ?_
    refine g_istore_n F (q := 10) (lv' := [(1, .int 0), (0, .ref (ad 233))]) (dk dX7_record 5 rfl) rfl rfl (Nat.le_of_ble_eq_true rfl) rfl ?_
    have K10 : ∀ (fu : Nat) (i : Nat) (p1 : Nat → Int32) (E1 : Nat → va_E), 1038 - i < fu → (hp : E1 235 = .inl (cA 0, 1384, .inl p1)) → (hfr10 : ∀ j, (j ≠ 235) → E1 j = E j) → (hi : i ≤ 1038) → (hp1 : ∀ j, j < i → p1 j = past (346 + j)) → (hp2 : ∀ j, i ≤ j → j < 1384 → p1 j = past j) → GG rm_X7_record 2 l D X 0 0 243 ad E1 10 [(0, .ref (ad 233)), (1, .int (nI i))] [] := by
      intro fu
      induction fu with
      | zero => intro i p1 E1 hfu_; exact absurd hfu_ (Nat.not_lt_zero _)
      | succ fu ih =>
        intro i p1 E1 hfu_ hp hfr10 hi hp1 hp2
        refine g_iload_n F (q := 11) (dk dX7_record 6 rfl) rfl rfl 1 rfl ?_
        refine g_sipush F (q := 14) (v := 1038) (dk dX7_record 7 rfl) rfl (by decide) ?_
        refine g_icmp_ge F (q := 17) (tgt := 39) (dk dX7_record 8 rfl) (by decide) rfl (fun c14 => ?_) (fun c14 => ?_)
        · have nc14 : 1038 ≤ i := (nI_leI (a := 1038) (b := i) (by omega) (by omega)).mp c14
          refine g_aload_n F (q := 40) (dk dX7_record 21 rfl) rfl rfl 0 rfl ?_
          refine g_dup F (q := 41) (dk dX7_record 22 rfl) rfl rfl ?_
          have hc5 := (hfr10 233 (by omega)).trans h233
          refine g_getf F (q := 44) hc5 rfl inX7 (by omega) (j := 4) (by decide) tq_627 rfl rfl (dk dX7_record 23 rfl) rfl ?_
          refine g_iconst F (q := 45) (v := 1) (dk dX7_record 24 rfl) rfl (by decide) ?_
          refine g_isub F (q := 46) (dk dX7_record 25 rfl) rfl ?_
          refine g_sti (y := (nI 3)) (by decide) ?_
          refine g_putf F (q := 49) (ty := .int) hc5 rfl inX7 tyX7 tyX7_ok nmX7 (by omega) (j := 4) (by decide) tq_627 rfl rfl (by decide +kernel) rfl rfl (Nat.le_of_ble_eq_true rfl) (dk dX7_record 26 rfl) rfl (fun E46 hE46 hO46 => ?_)
          have hE46 : E46 233 = .inr (7, [.ref (ad 234), .ref (ad 235), .ref (ad 236), .ref (ad 237), .int (nI 3), .int s1, .ref (ad 238), .int s2, .int s3, .int s4, .int s5, .ref (ad 239), .ref (ad 240), .ref (ad 241), .long lo, .long mo, .ref (ad 242)]) := hE46
          refine g_iconst F (q := 50) (v := 0) (dk dX7_record 27 rfl) rfl (by decide) ?_
          refine g_istore_n F (q := 51) (lv' := [(1, .int 0), (0, .ref (ad 233))]) (dk dX7_record 28 rfl) rfl rfl (Nat.le_of_ble_eq_true rfl) rfl ?_
          have hc6 := (hO46 235 (by omega)).trans hp
          have K51 : ∀ (fu : Nat) (i : Nat) (q : Nat → Int32) (E2 : Nat → va_E), 346 - i < fu → (hq : E2 235 = .inl (cA 0, 1384, .inl q)) → (hfr51 : ∀ j, (j ≠ 235) → E2 j = E46 j) → (hi : i ≤ 346) → (hq1 : ∀ j, j < i → q (346 * 3 + j) = bef j) → (hq2 : ∀ j, j < 346 * 3 → q j = p1 j) → GG rm_X7_record 2 l D X 0 0 243 ad E2 51 [(0, .ref (ad 233)), (1, .int (nI i))] [] := by
            intro fu
            induction fu with
            | zero => intro i q E2 hfu_; exact absurd hfu_ (Nat.not_lt_zero _)
            | succ fu ih =>
              intro i q E2 hfu_ hq hfr51 hi hq1 hq2
              refine g_iload_n F (q := 52) (dk dX7_record 29 rfl) rfl rfl 1 rfl ?_
              refine g_sipush F (q := 55) (v := 346) (dk dX7_record 30 rfl) rfl (by decide) ?_
              refine g_icmp_ge F (q := 58) (tgt := 85) (dk dX7_record 31 rfl) (by decide) rfl (fun c55 => ?_) (fun c55 => ?_)
              · have nc55 : 346 ≤ i := (nI_leI (a := 346) (b := i) (by omega) (by omega)).mp c55
                refine g_aload_n F (q := 86) (dk dX7_record 47 rfl) rfl rfl 0 rfl ?_
                refine g_dup F (q := 87) (dk dX7_record 48 rfl) rfl rfl ?_
                have hc7 := (hfr51 233 (by omega)).trans hE46
                refine g_getf F (q := 90) hc7 rfl inX7 (by omega) (j := 4) (by decide) tq_627 rfl rfl (dk dX7_record 49 rfl) rfl ?_
                refine g_iconst F (q := 91) (v := 1) (dk dX7_record 50 rfl) rfl (by decide) ?_
                refine g_iadd F (q := 92) (dk dX7_record 51 rfl) rfl ?_
                refine g_sti (nA rfl rfl) ?_
                refine g_putf F (q := 95) (ty := .int) hc7 rfl inX7 tyX7 tyX7_ok nmX7 (by omega) (j := 4) (by decide) tq_627 rfl rfl (by decide +kernel) rfl rfl (Nat.le_of_ble_eq_true rfl) (dk dX7_record 52 rfl) rfl (fun E92 hE92 hO92 => ?_)
                have hE92 : E92 233 = .inr (7, [.ref (ad 234), .ref (ad 235), .ref (ad 236), .ref (ad 237), .int (nI ((3 + 1))), .int s1, .ref (ad 238), .int s2, .int s3, .int s4, .int s5, .ref (ad 239), .ref (ad 240), .ref (ad 241), .long lo, .long mo, .ref (ad 242)]) := hE92
                have hc8 := (hO92 235 (by omega)).trans hq
                refine hret E92 _ _ (dk dX7_record 53 rfl) ?_
                exact ⟨_, hE92, hc8, (recA nc14 hp1 nc55 hq1 hq2), (fun j hj => ((((hO92 j (by omega)).trans (hfr51 j (by omega))).trans (hO46 j (by omega))).trans (hfr10 j (by omega))))⟩
              · have nc55 : ¬ 346 ≤ i := fun h => c55 ((nI_leI (a := 346) (b := i) (by omega) (by omega)).mpr h)
                refine g_aload_n F (q := 59) (dk dX7_record 32 rfl) rfl rfl 0 rfl ?_
                have hc9 := (hfr51 233 (by omega)).trans hE46
                refine g_getf F (q := 62) hc9 rfl inX7 (by omega) (j := 1) (by decide) tq_624 rfl rfl (dk dX7_record 33 rfl) rfl ?_
                refine g_sipush F (q := 65) (v := 346) (dk dX7_record 34 rfl) rfl (by decide) ?_
                refine g_aload_n F (q := 66) (dk dX7_record 35 rfl) rfl rfl 0 rfl ?_
                refine g_getf F (q := 69) hc9 rfl inX7 (by omega) (j := 4) (by decide) tq_627 rfl rfl (dk dX7_record 36 rfl) rfl ?_
                refine g_imul F (q := 70) (dk dX7_record 37 rfl) rfl ?_
                refine g_iload_n F (q := 71) (dk dX7_record 38 rfl) rfl rfl 1 rfl ?_
                refine g_iadd F (q := 72) (dk dX7_record 39 rfl) rfl ?_
                refine g_aload_n F (q := 73) (dk dX7_record 40 rfl) rfl rfl 0 rfl ?_
                refine g_getf F (q := 76) hc9 rfl inX7 (by omega) (j := 3) (by decide) tq_626 rfl rfl (dk dX7_record 41 rfl) rfl ?_
                refine g_iload_n F (q := 77) (dk dX7_record 42 rfl) rfl rfl 1 rfl ?_
                have hc10 := (hfr10 237 (by omega)).trans h237
                have hc11 := (hO46 237 (by omega)).trans hc10
                have hc12 := (hfr51 237 (by omega)).trans hc11
                refine g_iald F (q := 78) i hc12 (by omega) rfl (by omega) (by decide) (dk dX7_record 43 rfl) rfl ?_
                refine g_iast F (q := 79) (((346 * 3) + i)) hq (by omega) (nA (nM rfl rfl) rfl) (by omega) (by decide) (dk dX7_record 44 rfl) rfl (fun E78 hE78 hO78 => ?_)
                refine g_iinc F (q := 82) (v := (nI ((i + 1)))) (lv' := [(1, .int (nI ((i + 1)))), (0, .ref (ad 233))]) (dk dX7_record 45 rfl) rfl 1 rfl (nI_1 _) (Nat.le_of_ble_eq_true rfl) rfl ?_
                refine g_goto F (tgt := 51) (dk dX7_record 46 rfl) (by decide) ?_
                refine g_lv (lv' := [(0, .ref (ad 233)), (1, .int (nI ((i + 1))))]) [1, 0] rfl ?_
                exact ih (i + 1) (upd q (((346 * 3) + i)) (bef i)) E78 (by omega) hE78 (fun j hj => ((hO78 j (by omega)).trans (hfr51 j (by omega)))) (by omega) (cpP1 hq1) (cpP2 hq2)
          refine g_lv (lv' := [(0, .ref (ad 233)), (1, .int 0)]) [1, 0] rfl ?_
          exact K51 _ 0 p1 E46 (Nat.lt_succ_self _) hc6 (fun j _ => rfl) (by omega) (fun j hj => absurd hj (Nat.not_lt_zero j)) (fun j _ => rfl)
        · have nc14 : ¬ 1038 ≤ i := fun h => c14 ((nI_leI (a := 1038) (b := i) (by omega) (by omega)).mpr h)
          refine g_aload_n F (q := 18) (dk dX7_record 9 rfl) rfl rfl 0 rfl ?_
          have hc13 := (hfr10 233 (by omega)).trans h233
          refine g_getf F (q := 21) hc13 rfl inX7 (by omega) (j := 1) (by decide) tq_624 rfl rfl (dk dX7_record 10 rfl) rfl ?_
          refine g_iload_n F (q := 22) (dk dX7_record 11 rfl) rfl rfl 1 rfl ?_
          refine g_aload_n F (q := 23) (dk dX7_record 12 rfl) rfl rfl 0 rfl ?_
          refine g_getf F (q := 26) hc13 rfl inX7 (by omega) (j := 1) (by decide) tq_624 rfl rfl (dk dX7_record 13 rfl) rfl ?_
          refine g_sipush F (q := 29) (v := 346) (dk dX7_record 14 rfl) rfl (by decide) ?_
          refine g_iload_n F (q := 30) (dk dX7_record 15 rfl) rfl rfl 1 rfl ?_
          refine g_iadd F (q := 31) (dk dX7_record 16 rfl) rfl ?_
          refine g_iald F (q := 32) ((346 + i)) hp (by omega) (nA rfl rfl) (by omega) (by decide) (dk dX7_record 17 rfl) rfl ?_
          refine g_iast F (q := 33) i hp (by omega) rfl (by omega) (by decide) (dk dX7_record 18 rfl) rfl (fun E32 hE32 hO32 => ?_)
          refine g_iinc F (q := 36) (v := (nI ((i + 1)))) (lv' := [(1, .int (nI ((i + 1)))), (0, .ref (ad 233))]) (dk dX7_record 19 rfl) rfl 1 rfl (nI_1 _) (Nat.le_of_ble_eq_true rfl) rfl ?_
          refine g_goto F (tgt := 10) (dk dX7_record 20 rfl) (by decide) ?_
          refine g_lv (lv' := [(0, .ref (ad 233)), (1, .int (nI ((i + 1))))]) [1, 0] rfl ?_
          exact ih (i + 1) (upd p1 i (p1 ((346 + i)))) E32 (by omega) hE32 (fun j hj => ((hO32 j (by omega)).trans (hfr10 j (by omega)))) (by omega) (cpS1 hp1 hp2 (by omega)) (cpS2 hp2)
    refine g_lv (lv' := [(0, .ref (ad 233)), (1, .int 0)]) [1, 0] rfl ?_
    exact K10 _ 0 past E (Nat.lt_succ_self _) h235 (fun j _ => rfl) (by omega) (fun j hj => absurd hj (Nat.not_lt_zero j)) (fun j _ _ => rfl)
theorem kv_X7_record : KV yX7_record "ThumpEarsModel" cX7_record 2 (none) 0 := ⟨tq_701, tq_11, tq_47, tq_702, by decide +kernel⟩
abbrev rm_X7_open : Room := { frames := 1, cells := 0, slots := 0, locals := 21 }
set_option maxHeartbeats 4000000 in
set_option maxRecDepth 100000 in
theorem c_X7_open {l : Launch} {D : va_G} {cA : Nat → ClassId} {ad : Nat → Nat} {E : Nat → va_E} {nh : Nat} {s1 s2 s3 s4 s5 : Int32} {lo mo : Int64} {r past bef : Nat → Int32}  (h233 : E 233 = .inr (7, [.ref (ad 234), .ref (ad 235), .ref (ad 236), .ref (ad 237), .int (nI nh), .int s1, .ref (ad 238), .int s2, .int s3, .int s4, .int s5, .ref (ad 239), .ref (ad 240), .ref (ad 241), .long lo, .long mo, .ref (ad 242)])) (h234 : E 234 = .inl (cA 0, 346, .inl r)) (h235 : E 235 = .inl (cA 0, 1384, .inl past)) (h237 : E 237 = .inl (cA 0, 346, .inl bef))  (hnh : nh ≤ 4) : CtV l D cA yX7_open cX7_open 1 rm_X7_open 243 ad E [.ref (ad 233)] (fun E' => ∃ (q : Nat → Int32) (g : Nat → Int32), E' 233 = .inr (7, [.ref (ad 234), .ref (ad 235), .ref (ad 236), .ref (ad 237), .int (nI ((nup nh))), .int s1, .ref (ad 238), .int s2, .int s3, .int s4, .int s5, .ref (ad 239), .ref (ad 240), .ref (ad 241), .long lo, .long mo, .ref (ad 242)]) ∧ E' 235 = .inl (cA 0, 1384, .inl q) ∧ E' 237 = .inl (cA 0, 346, .inl g) ∧ (eqH (nup nh) (hof q) (hpush nh (hof past) r)) ∧ ∀ j, (j ≠ 233 ∧ j ≠ 235 ∧ j ≠ 237) → E' j = E j) := by
  refine CtV.of (by decide +kernel) (Nat.le_of_ble_eq_true rfl) (fun X F hret => ?_)
  have F : Fr "ThumpEarsModel" cX7_open 1 D cA X := F
  refine (show GG rm_X7_open 1 l D X 0 0 243 ad E 0 [(0, .ref (ad 233))] [] from ?_)
  refine g_aload_n F (q := 1) (dk dX7_open 0 rfl) rfl rfl 0 rfl ?_
  refine g_callVV F (q := 4) (av := []) (st := []) (c_X7_remember h233 h234 h237) kv_X7_remember tq_695 h233 rfl (by omega) ⟨rfl, rfl⟩ (by decide) ⟨Nat.le_refl _, Nat.le_refl _⟩ rfl rfl (Nat.le_of_ble_eq_true rfl) (dk dX7_open 1 rfl) rfl (fun E1 hp1 => ?_)
  obtain ⟨g_1, hK237_1, hg2_1, hF1⟩ := hp1
  refine g_aload_n F (q := 5) (dk dX7_open 2 rfl) rfl rfl 0 rfl ?_
  have hc1 := (hF1 233 (by omega)).trans h233
  have hc2 := (hF1 235 (by omega)).trans h235
  refine g_callVV F (q := 8) (av := []) (st := []) (c_X7_record hc1 hc2 hK237_1 (by first | assumption | decide | omega)) kv_X7_record tq_699 hc1 rfl (by omega) ⟨rfl, rfl⟩ (by decide) ⟨Nat.le_refl _, Nat.le_refl _⟩ rfl rfl (Nat.le_of_ble_eq_true rfl) (dk dX7_open 3 rfl) rfl (fun E5 hp5 => ?_)
  obtain ⟨q_5, hK233_5, hK235_5, hp_5, hF5⟩ := hp5
  have hc3 := (hF5 237 (by omega)).trans hK237_1
  refine hret E5 _ _ (dk dX7_open 4 rfl) ?_
  exact ⟨q_5, g_1, hK233_5, hK235_5, hc3, (hpush_cg hg2_1 hp_5), (fun j hj => ((hF5 j (by omega)).trans (hF1 j (by omega))))⟩
theorem kv_X7_open : KV yX7_open "ThumpEarsModel" cX7_open 1 (none) 0 := ⟨tq_693, tq_9, tq_47, tq_694, by decide +kernel⟩
abbrev rm_X7_undo : Room := { frames := 0, cells := 0, slots := 0, locals := 0 }
set_option maxHeartbeats 4000000 in
set_option maxRecDepth 100000 in
theorem c_X7_undo {l : Launch} {D : va_G} {cA : Nat → ClassId} {ad : Nat → Nat} {E : Nat → va_E} {nh : Nat} {s1 s2 s3 s4 s5 : Int32} {lo mo : Int64} {r past : Nat → Int32}  (h233 : E 233 = .inr (7, [.ref (ad 234), .ref (ad 235), .ref (ad 236), .ref (ad 237), .int (nI nh), .int s1, .ref (ad 238), .int s2, .int s3, .int s4, .int s5, .ref (ad 239), .ref (ad 240), .ref (ad 241), .long lo, .long mo, .ref (ad 242)])) (h234 : E 234 = .inl (cA 0, 346, .inl r)) (h235 : E 235 = .inl (cA 0, 1384, .inl past))  (hnh : nh ≤ 4) : CtI l D cA yX7_undo cX7_undo 2 .int rm_X7_undo 243 ad E [.ref (ad 233)] (fun x E' => ∃ (f : Nat → Int32) (n2 : Nat), (if nh = 0 then (-5 : Int32) else nI (nh - 1)) = x ∧ E' 233 = .inr (7, [.ref (ad 234), .ref (ad 235), .ref (ad 236), .ref (ad 237), .int (nI n2), .int s1, .ref (ad 238), .int s2, .int s3, .int s4, .int s5, .ref (ad 239), .ref (ad 240), .ref (ad 241), .long lo, .long mo, .ref (ad 242)]) ∧ E' 234 = .inl (cA 0, 346, .inl f) ∧ (n2 = nh - 1) ∧ (eqN 346 f (if nh = 0 then r else hof past (nh - 1))) ∧ ∀ j, (j ≠ 233 ∧ j ≠ 234) → E' j = E j) := by
  refine CtI.of (by decide +kernel) (Nat.le_of_ble_eq_true rfl) (fun X F hret => ?_)
  have F : Fr "ThumpEarsModel" cX7_undo 2 D cA X := F
  refine (show GG rm_X7_undo 2 l D X 0 0 243 ad E 0 [(0, .ref (ad 233))] [] from ?_)
  refine g_aload_n F (q := 1) (dk dX7_undo 0 rfl) rfl rfl 0 rfl ?_
  refine g_getf F (q := 4) h233 rfl inX7 (by omega) (j := 4) (by decide) tq_627 rfl rfl (dk dX7_undo 1 rfl) rfl ?_
  refine g_if_ne F (q := 7) (tgt := 10) (dk dX7_undo 2 rfl) (by decide) rfl (fun c4 => ?_) (fun c4 => ?_)
  · have nc4 : ¬ nh = 0 := fun h => c4 ((nI_eq (a := nh) (b := 0) (by omega) (by omega)).mpr h)
    refine g_aload_n F (q := 11) (dk dX7_undo 5 rfl) rfl rfl 0 rfl ?_
    refine g_dup F (q := 12) (dk dX7_undo 6 rfl) rfl rfl ?_
    refine g_getf F (q := 15) h233 rfl inX7 (by omega) (j := 4) (by decide) tq_627 rfl rfl (dk dX7_undo 7 rfl) rfl ?_
    refine g_iconst F (q := 16) (v := 1) (dk dX7_undo 8 rfl) rfl (by decide) ?_
    refine g_isub F (q := 17) (dk dX7_undo 9 rfl) rfl ?_
    refine g_sti (y := (nI ((nh - 1)))) (nI_sub1 (by omega)) ?_
    refine g_putf F (q := 20) (ty := .int) h233 rfl inX7 tyX7 tyX7_ok nmX7 (by omega) (j := 4) (by decide) tq_627 rfl rfl (by decide +kernel) rfl rfl (Nat.le_of_ble_eq_true rfl) (dk dX7_undo 10 rfl) rfl (fun E17 hE17 hO17 => ?_)
    have hE17 : E17 233 = .inr (7, [.ref (ad 234), .ref (ad 235), .ref (ad 236), .ref (ad 237), .int (nI ((nh - 1))), .int s1, .ref (ad 238), .int s2, .int s3, .int s4, .int s5, .ref (ad 239), .ref (ad 240), .ref (ad 241), .long lo, .long mo, .ref (ad 242)]) := hE17
    refine g_iconst F (q := 21) (v := 0) (dk dX7_undo 11 rfl) rfl (by decide) ?_
    refine g_istore_n F (q := 22) (lv' := [(1, .int 0), (0, .ref (ad 233))]) (dk dX7_undo 12 rfl) rfl rfl (Nat.le_of_ble_eq_true rfl) rfl ?_
    have K22 : ∀ (fu : Nat) (i : Nat) (g : Nat → Int32) (E1 : Nat → va_E), 346 - i < fu → (hg : E1 234 = .inl (cA 0, 346, .inl g)) → (hfr22 : ∀ j, (j ≠ 234) → E1 j = E17 j) → (hi : i ≤ 346) → (hg2 : ∀ j, j < i → g j = past (346 * (nh - 1) + j)) → GG rm_X7_undo 2 l D X 0 0 243 ad E1 22 [(0, .ref (ad 233)), (1, .int (nI i))] [] := by
      intro fu
      induction fu with
      | zero => intro i g E1 hfu_; exact absurd hfu_ (Nat.not_lt_zero _)
      | succ fu ih =>
        intro i g E1 hfu_ hg hfr22 hi hg2
        refine g_iload_n F (q := 23) (dk dX7_undo 13 rfl) rfl rfl 1 rfl ?_
        refine g_sipush F (q := 26) (v := 346) (dk dX7_undo 14 rfl) rfl (by decide) ?_
        refine g_icmp_ge F (q := 29) (tgt := 56) (dk dX7_undo 15 rfl) (by decide) rfl (fun c26 => ?_) (fun c26 => ?_)
        · have nc26 : 346 ≤ i := (nI_leI (a := 346) (b := i) (by omega) (by omega)).mp c26
          refine g_aload_n F (q := 57) (dk dX7_undo 31 rfl) rfl rfl 0 rfl ?_
          have hc1 := (hfr22 233 (by omega)).trans hE17
          refine g_getf F (q := 60) hc1 rfl inX7 (by omega) (j := 4) (by decide) tq_627 rfl rfl (dk dX7_undo 32 rfl) rfl ?_
          refine hret (nI ((nh - 1))) E1 _ _ (dk dX7_undo 33 rfl) (nint _) ?_
          exact ⟨g, (nh - 1), (if_neg (by omega)), hc1, hg, (by omega), (by rw [if_neg (by omega)]; exact cpyH (nh := nh) hg2 (by omega)), (fun j hj => ((hfr22 j (by omega)).trans (hO17 j (by omega))))⟩
        · have nc26 : ¬ 346 ≤ i := fun h => c26 ((nI_leI (a := 346) (b := i) (by omega) (by omega)).mpr h)
          refine g_aload_n F (q := 30) (dk dX7_undo 16 rfl) rfl rfl 0 rfl ?_
          have hc2 := (hfr22 233 (by omega)).trans hE17
          refine g_getf F (q := 33) hc2 rfl inX7 (by omega) (j := 0) (by decide) tq_623 rfl rfl (dk dX7_undo 17 rfl) rfl ?_
          refine g_iload_n F (q := 34) (dk dX7_undo 18 rfl) rfl rfl 1 rfl ?_
          refine g_aload_n F (q := 35) (dk dX7_undo 19 rfl) rfl rfl 0 rfl ?_
          refine g_getf F (q := 38) hc2 rfl inX7 (by omega) (j := 1) (by decide) tq_624 rfl rfl (dk dX7_undo 20 rfl) rfl ?_
          refine g_sipush F (q := 41) (v := 346) (dk dX7_undo 21 rfl) rfl (by decide) ?_
          refine g_aload_n F (q := 42) (dk dX7_undo 22 rfl) rfl rfl 0 rfl ?_
          refine g_getf F (q := 45) hc2 rfl inX7 (by omega) (j := 4) (by decide) tq_627 rfl rfl (dk dX7_undo 23 rfl) rfl ?_
          refine g_imul F (q := 46) (dk dX7_undo 24 rfl) rfl ?_
          refine g_iload_n F (q := 47) (dk dX7_undo 25 rfl) rfl rfl 1 rfl ?_
          refine g_iadd F (q := 48) (dk dX7_undo 26 rfl) rfl ?_
          have hc3 := (hO17 235 (by omega)).trans h235
          have hc4 := (hfr22 235 (by omega)).trans hc3
          refine g_iald F (q := 49) (((346 * (nh - 1)) + i)) hc4 (by omega) (nA (nM rfl rfl) rfl) (by omega) (by decide) (dk dX7_undo 27 rfl) rfl ?_
          refine g_iast F (q := 50) i hg (by omega) rfl (by omega) (by decide) (dk dX7_undo 28 rfl) rfl (fun E49 hE49 hO49 => ?_)
          refine g_iinc F (q := 53) (v := (nI ((i + 1)))) (lv' := [(1, .int (nI ((i + 1)))), (0, .ref (ad 233))]) (dk dX7_undo 29 rfl) rfl 1 rfl (nI_1 _) (Nat.le_of_ble_eq_true rfl) rfl ?_
          refine g_goto F (tgt := 22) (dk dX7_undo 30 rfl) (by decide) ?_
          refine g_lv (lv' := [(0, .ref (ad 233)), (1, .int (nI ((i + 1))))]) [1, 0] rfl ?_
          exact ih (i + 1) (upd g i (past (((346 * (nh - 1)) + i)))) E49 (by omega) hE49 (fun j hj => ((hO49 j (by omega)).trans (hfr22 j (by omega)))) (by omega) (cpyS hg2)
    refine g_lv (lv' := [(0, .ref (ad 233)), (1, .int 0)]) [1, 0] rfl ?_
    have hc5 := (hO17 234 (by omega)).trans h234
    exact K22 _ 0 r E17 (Nat.lt_succ_self _) hc5 (fun j _ => rfl) (by omega) (fun k hk => absurd hk (Nat.not_lt_zero k))
  · have nc4 : nh = 0 := (nI_eq (a := nh) (b := 0) (by omega) (by omega)).mp c4
    refine g_bipush F (q := 9) (v := (-5)) (dk dX7_undo 3 rfl) rfl (by decide) ?_
    refine hret (-5) E _ _ (dk dX7_undo 4 rfl) (nint _) ?_
    exact ⟨r, nh, (if_pos (Nat.le_zero.mp (by omega))), h233, h234, (by omega), (by rw [if_pos (Nat.le_zero.mp (by omega))]; exact eqN.rf), (fun j _ => rfl)⟩
theorem kv_X7_undo : KV yX7_undo "ThumpEarsModel" cX7_undo 2 (some .int) 0 := ⟨tq_676, tq_677, tq_47, tq_678, by decide +kernel⟩
abbrev rm_X7_keep : Room := { frames := 1, cells := 0, slots := 0, locals := 20 }
set_option maxHeartbeats 4000000 in
set_option maxRecDepth 100000 in
theorem c_X7_keep {l : Launch} {D : va_G} {cA : Nat → ClassId} {ad : Nat → Nat} {E : Nat → va_E} {s0 s1 s2 s3 s4 s5 : Int32} {lo mo : Int64} {r asd : Nat → Int32}  (h233 : E 233 = .inr (7, [.ref (ad 234), .ref (ad 235), .ref (ad 236), .ref (ad 237), .int s0, .int s1, .ref (ad 238), .int s2, .int s3, .int s4, .int s5, .ref (ad 239), .ref (ad 240), .ref (ad 241), .long lo, .long mo, .ref (ad 242)])) (h234 : E 234 = .inl (cA 0, 346, .inl r)) (h236 : E 236 = .inl (cA 0, 346, .inl asd))   : CtI l D cA yX7_keep cX7_keep 2 .int rm_X7_keep 243 ad E [.ref (ad 233)] (fun x E' => ∃ (g : Nat → Int32), (r 1 + r 2) = x ∧ E' 233 = .inr (7, [.ref (ad 234), .ref (ad 235), .ref (ad 236), .ref (ad 237), .int s0, .int 1, .ref (ad 238), .int s2, .int s3, .int s4, .int s5, .ref (ad 239), .ref (ad 240), .ref (ad 241), .long lo, .long mo, .ref (ad 242)]) ∧ E' 236 = .inl (cA 0, 346, .inl g) ∧ (eqN 346 g r) ∧ ∀ j, (j ≠ 233 ∧ j ≠ 236) → E' j = E j) := by
  refine CtI.of (by decide +kernel) (Nat.le_of_ble_eq_true rfl) (fun X F hret => ?_)
  have F : Fr "ThumpEarsModel" cX7_keep 2 D cA X := F
  refine (show GG rm_X7_keep 2 l D X 0 0 243 ad E 0 [(0, .ref (ad 233))] [] from ?_)
  refine g_iconst F (q := 1) (v := 0) (dk dX7_keep 0 rfl) rfl (by decide) ?_
  refine g_istore_n F (q := 2) (lv' := [(1, .int 0), (0, .ref (ad 233))]) (dk dX7_keep 1 rfl) rfl rfl (Nat.le_of_ble_eq_true rfl) rfl ?_
  have K2 : ∀ (fu : Nat) (i : Nat) (g : Nat → Int32) (E1 : Nat → va_E), 346 - i < fu → (hg : E1 236 = .inl (cA 0, 346, .inl g)) → (hfr2 : ∀ j, (j ≠ 236) → E1 j = E j) → (hi : i ≤ 346) → (hg2 : eqN i g r) → GG rm_X7_keep 2 l D X 0 0 243 ad E1 2 [(0, .ref (ad 233)), (1, .int (nI i))] [] := by
    intro fu
    induction fu with
    | zero => intro i g E1 hfu_; exact absurd hfu_ (Nat.not_lt_zero _)
    | succ fu ih =>
      intro i g E1 hfu_ hg hfr2 hi hg2
      refine g_iload_n F (q := 3) (dk dX7_keep 2 rfl) rfl rfl 1 rfl ?_
      refine g_sipush F (q := 6) (v := 346) (dk dX7_keep 3 rfl) rfl (by decide) ?_
      refine g_icmp_ge F (q := 9) (tgt := 27) (dk dX7_keep 4 rfl) (by decide) rfl (fun c6 => ?_) (fun c6 => ?_)
      · have nc6 : 346 ≤ i := (nI_leI (a := 346) (b := i) (by omega) (by omega)).mp c6
        refine g_aload_n F (q := 28) (dk dX7_keep 15 rfl) rfl rfl 0 rfl ?_
        refine g_iconst F (q := 29) (v := 1) (dk dX7_keep 16 rfl) rfl (by decide) ?_
        have hc1 := (hfr2 233 (by omega)).trans h233
        refine g_putf F (q := 32) (ty := .boolean) hc1 rfl inX7 tyX7 tyX7_ok nmX7 (by omega) (j := 5) (by decide) tq_628 rfl rfl (by decide +kernel) rfl rfl (Nat.le_of_ble_eq_true rfl) (dk dX7_keep 17 rfl) rfl (fun E29 hE29 hO29 => ?_)
        have hE29 : E29 233 = .inr (7, [.ref (ad 234), .ref (ad 235), .ref (ad 236), .ref (ad 237), .int s0, .int 1, .ref (ad 238), .int s2, .int s3, .int s4, .int s5, .ref (ad 239), .ref (ad 240), .ref (ad 241), .long lo, .long mo, .ref (ad 242)]) := hE29
        refine g_aload_n F (q := 33) (dk dX7_keep 18 rfl) rfl rfl 0 rfl ?_
        have hc2 := (hfr2 234 (by omega)).trans h234
        have hc3 := (hO29 234 (by omega)).trans hc2
        refine g_callVI F (q := 36) (av := []) (st := []) (c_X7_came hE29 hc3) kv_X7_came tq_683 hE29 rfl (by omega) ⟨rfl, rfl⟩ (by decide) ⟨Nat.le_refl _, Nat.le_refl _⟩ rfl rfl (Nat.le_of_ble_eq_true rfl) (dk dX7_keep 19 rfl) rfl (fun r33 E33 hp33 => ?_)
        obtain ⟨rfl, rfl⟩ := hp33
        have hc4 := (hO29 236 (by omega)).trans hg
        refine hret (r 1 + r 2) E29 _ _ (dk dX7_keep 20 rfl) (nint _) ?_
        exact ⟨g, rfl, hE29, hc4, (fun k hk => hg2 k (by omega)), (fun j hj => ((hO29 j (by omega)).trans (hfr2 j (by omega))))⟩
      · have nc6 : ¬ 346 ≤ i := fun h => c6 ((nI_leI (a := 346) (b := i) (by omega) (by omega)).mpr h)
        refine g_aload_n F (q := 10) (dk dX7_keep 5 rfl) rfl rfl 0 rfl ?_
        have hc5 := (hfr2 233 (by omega)).trans h233
        refine g_getf F (q := 13) hc5 rfl inX7 (by omega) (j := 2) (by decide) tq_625 rfl rfl (dk dX7_keep 6 rfl) rfl ?_
        refine g_iload_n F (q := 14) (dk dX7_keep 7 rfl) rfl rfl 1 rfl ?_
        refine g_aload_n F (q := 15) (dk dX7_keep 8 rfl) rfl rfl 0 rfl ?_
        refine g_getf F (q := 18) hc5 rfl inX7 (by omega) (j := 0) (by decide) tq_623 rfl rfl (dk dX7_keep 9 rfl) rfl ?_
        refine g_iload_n F (q := 19) (dk dX7_keep 10 rfl) rfl rfl 1 rfl ?_
        have hc6 := (hfr2 234 (by omega)).trans h234
        refine g_iald F (q := 20) i hc6 (by omega) rfl (by omega) (by decide) (dk dX7_keep 11 rfl) rfl ?_
        refine g_iast F (q := 21) i hg (by omega) rfl (by omega) (by decide) (dk dX7_keep 12 rfl) rfl (fun E20 hE20 hO20 => ?_)
        refine g_iinc F (q := 24) (v := (nI ((i + 1)))) (lv' := [(1, .int (nI ((i + 1)))), (0, .ref (ad 233))]) (dk dX7_keep 13 rfl) rfl 1 rfl (nI_1 _) (Nat.le_of_ble_eq_true rfl) rfl ?_
        refine g_goto F (tgt := 2) (dk dX7_keep 14 rfl) (by decide) ?_
        refine g_lv (lv' := [(0, .ref (ad 233)), (1, .int (nI ((i + 1))))]) [1, 0] rfl ?_
        exact ih (i + 1) (upd g i (r i)) E20 (by omega) hE20 (fun j hj => ((hO20 j (by omega)).trans (hfr2 j (by omega)))) (by omega) (eqN_cpy hg2)
  refine g_lv (lv' := [(0, .ref (ad 233)), (1, .int 0)]) [1, 0] rfl ?_
  exact K2 _ 0 asd E (Nat.lt_succ_self _) h236 (fun j _ => rfl) (by omega) (fun k hk => absurd hk (Nat.not_lt_zero k))
theorem kv_X7_keep : KV yX7_keep "ThumpEarsModel" cX7_keep 2 (some .int) 0 := ⟨tq_680, tq_681, tq_47, tq_682, by decide +kernel⟩
abbrev rm_X7_restore : Room := { frames := 2, cells := 0, slots := 0, locals := 41 }
set_option maxHeartbeats 4000000 in
set_option maxRecDepth 100000 in
theorem c_X7_restore {l : Launch} {D : va_G} {cA : Nat → ClassId} {ad : Nat → Nat} {E : Nat → va_E} {nh : Nat} {s1 s2 s3 s4 s5 : Int32} {lo mo : Int64} {r past bef asd : Nat → Int32}  (h233 : E 233 = .inr (7, [.ref (ad 234), .ref (ad 235), .ref (ad 236), .ref (ad 237), .int (nI nh), .int s1, .ref (ad 238), .int s2, .int s3, .int s4, .int s5, .ref (ad 239), .ref (ad 240), .ref (ad 241), .long lo, .long mo, .ref (ad 242)])) (h234 : E 234 = .inl (cA 0, 346, .inl r)) (h235 : E 235 = .inl (cA 0, 1384, .inl past)) (h237 : E 237 = .inl (cA 0, 346, .inl bef)) (h236 : E 236 = .inl (cA 0, 346, .inl asd))  (hnh : nh ≤ 4) : CtI l D cA yX7_restore cX7_restore 2 .int rm_X7_restore 243 ad E [.ref (ad 233)] (fun x E' => ∃ (f : Nat → Int32) (q : Nat → Int32) (g : Nat → Int32) (n2 : Nat), (if s1 = 0 then (-5 : Int32) else asd 1 + asd 2) = x ∧ E' 233 = .inr (7, [.ref (ad 234), .ref (ad 235), .ref (ad 236), .ref (ad 237), .int (nI n2), .int s1, .ref (ad 238), .int s2, .int s3, .int s4, .int s5, .ref (ad 239), .ref (ad 240), .ref (ad 241), .long lo, .long mo, .ref (ad 242)]) ∧ E' 234 = .inl (cA 0, 346, .inl f) ∧ E' 235 = .inl (cA 0, 1384, .inl q) ∧ E' 237 = .inl (cA 0, 346, .inl g) ∧ (NX (if s1 = 0 then none else some asd) r past nh f q n2) ∧ ∀ j, (j ≠ 233 ∧ j ≠ 234 ∧ j ≠ 235 ∧ j ≠ 237) → E' j = E j) := by
  refine CtI.of (by decide +kernel) (Nat.le_of_ble_eq_true rfl) (fun X F hret => ?_)
  have F : Fr "ThumpEarsModel" cX7_restore 2 D cA X := F
  refine (show GG rm_X7_restore 2 l D X 0 0 243 ad E 0 [(0, .ref (ad 233))] [] from ?_)
  refine g_aload_n F (q := 1) (dk dX7_restore 0 rfl) rfl rfl 0 rfl ?_
  refine g_getf F (q := 4) h233 rfl inX7 (by omega) (j := 5) (by decide) tq_628 rfl rfl (dk dX7_restore 1 rfl) rfl ?_
  refine g_if_ne F (q := 7) (tgt := 10) (dk dX7_restore 2 rfl) (by decide) rfl (fun c4 => ?_) (fun c4 => ?_)
  · refine g_aload_n F (q := 11) (dk dX7_restore 5 rfl) rfl rfl 0 rfl ?_
    refine g_callVV F (q := 14) (av := []) (st := []) (c_X7_open h233 h234 h235 h237 (by first | assumption | decide | omega)) kv_X7_open tq_691 h233 rfl (by omega) ⟨rfl, rfl⟩ (by decide) ⟨Nat.le_refl _, Nat.le_refl _⟩ rfl rfl (Nat.le_of_ble_eq_true rfl) (dk dX7_restore 6 rfl) rfl (fun E11 hp11 => ?_)
    obtain ⟨q_11, g_11, hK233_11, hK235_11, hK237_11, hp_11, hF11⟩ := hp11
    refine g_iconst F (q := 15) (v := 0) (dk dX7_restore 7 rfl) rfl (by decide) ?_
    refine g_istore_n F (q := 16) (lv' := [(1, .int 0), (0, .ref (ad 233))]) (dk dX7_restore 8 rfl) rfl rfl (Nat.le_of_ble_eq_true rfl) rfl ?_
    have K16 : ∀ (fu : Nat) (i : Nat) (f : Nat → Int32) (E1 : Nat → va_E), 346 - i < fu → (hf : E1 234 = .inl (cA 0, 346, .inl f)) → (hfr16 : ∀ j, (j ≠ 234) → E1 j = E11 j) → (hi : i ≤ 346) → (hf2 : eqN i f asd) → GG rm_X7_restore 2 l D X 0 0 243 ad E1 16 [(0, .ref (ad 233)), (1, .int (nI i))] [] := by
      intro fu
      induction fu with
      | zero => intro i f E1 hfu_; exact absurd hfu_ (Nat.not_lt_zero _)
      | succ fu ih =>
        intro i f E1 hfu_ hf hfr16 hi hf2
        refine g_iload_n F (q := 17) (dk dX7_restore 9 rfl) rfl rfl 1 rfl ?_
        refine g_sipush F (q := 20) (v := 346) (dk dX7_restore 10 rfl) rfl (by decide) ?_
        refine g_icmp_ge F (q := 23) (tgt := 41) (dk dX7_restore 11 rfl) (by decide) rfl (fun c20 => ?_) (fun c20 => ?_)
        · have nc20 : 346 ≤ i := (nI_leI (a := 346) (b := i) (by omega) (by omega)).mp c20
          refine g_aload_n F (q := 42) (dk dX7_restore 22 rfl) rfl rfl 0 rfl ?_
          have hc1 := (hfr16 233 (by omega)).trans hK233_11
          refine g_callVI F (q := 45) (av := []) (st := []) (c_X7_came hc1 hf) kv_X7_came tq_683 hc1 rfl (by omega) ⟨rfl, rfl⟩ (by decide) ⟨Nat.le_refl _, Nat.le_refl _⟩ rfl rfl (Nat.le_of_ble_eq_true rfl) (dk dX7_restore 23 rfl) rfl (fun r42 E42 hp42 => ?_)
          obtain ⟨rfl, rfl⟩ := hp42
          have hc2 := (hfr16 235 (by omega)).trans hK235_11
          have hc3 := (hfr16 237 (by omega)).trans hK237_11
          refine hret (f 1 + f 2) E1 _ _ (dk dX7_restore 24 rfl) (nint _) ?_
          exact ⟨f, q_11, g_11, (nup nh), (by rw [if_neg c4, hf2 1 (by omega), hf2 2 (by omega)]), hc1, hf, hc2, hc3, (by rw [if_neg c4]; exact ⟨rfl, fun k hk => hf2 k (by omega), hp_11⟩), (fun j hj => ((hfr16 j (by omega)).trans (hF11 j (by omega))))⟩
        · have nc20 : ¬ 346 ≤ i := fun h => c20 ((nI_leI (a := 346) (b := i) (by omega) (by omega)).mpr h)
          refine g_aload_n F (q := 24) (dk dX7_restore 12 rfl) rfl rfl 0 rfl ?_
          have hc4 := (hfr16 233 (by omega)).trans hK233_11
          refine g_getf F (q := 27) hc4 rfl inX7 (by omega) (j := 0) (by decide) tq_623 rfl rfl (dk dX7_restore 13 rfl) rfl ?_
          refine g_iload_n F (q := 28) (dk dX7_restore 14 rfl) rfl rfl 1 rfl ?_
          refine g_aload_n F (q := 29) (dk dX7_restore 15 rfl) rfl rfl 0 rfl ?_
          refine g_getf F (q := 32) hc4 rfl inX7 (by omega) (j := 2) (by decide) tq_625 rfl rfl (dk dX7_restore 16 rfl) rfl ?_
          refine g_iload_n F (q := 33) (dk dX7_restore 17 rfl) rfl rfl 1 rfl ?_
          have hc5 := (hF11 236 (by omega)).trans h236
          have hc6 := (hfr16 236 (by omega)).trans hc5
          refine g_iald F (q := 34) i hc6 (by omega) rfl (by omega) (by decide) (dk dX7_restore 18 rfl) rfl ?_
          refine g_iast F (q := 35) i hf (by omega) rfl (by omega) (by decide) (dk dX7_restore 19 rfl) rfl (fun E34 hE34 hO34 => ?_)
          refine g_iinc F (q := 38) (v := (nI ((i + 1)))) (lv' := [(1, .int (nI ((i + 1)))), (0, .ref (ad 233))]) (dk dX7_restore 20 rfl) rfl 1 rfl (nI_1 _) (Nat.le_of_ble_eq_true rfl) rfl ?_
          refine g_goto F (tgt := 16) (dk dX7_restore 21 rfl) (by decide) ?_
          refine g_lv (lv' := [(0, .ref (ad 233)), (1, .int (nI ((i + 1))))]) [1, 0] rfl ?_
          exact ih (i + 1) (upd f i (asd i)) E34 (by omega) hE34 (fun j hj => ((hO34 j (by omega)).trans (hfr16 j (by omega)))) (by omega) (eqN_cpy hf2)
    refine g_lv (lv' := [(0, .ref (ad 233)), (1, .int 0)]) [1, 0] rfl ?_
    have hc7 := (hF11 234 (by omega)).trans h234
    exact K16 _ 0 r E11 (Nat.lt_succ_self _) hc7 (fun j _ => rfl) (by omega) (fun k hk => absurd hk (Nat.not_lt_zero k))
  · refine g_bipush F (q := 9) (v := (-5)) (dk dX7_restore 3 rfl) rfl (by decide) ?_
    refine hret (-5) E _ _ (dk dX7_restore 4 rfl) (nint _) ?_
    exact ⟨r, past, bef, nh, (if_pos c4), h233, h234, h235, h237, (by rw [if_pos c4]; exact NX.nil), (fun j _ => rfl)⟩
theorem kv_X7_restore : KV yX7_restore "ThumpEarsModel" cX7_restore 2 (some .int) 0 := ⟨tq_688, tq_689, tq_47, tq_690, by decide +kernel⟩
abbrev rm_X7_noEar : Room := { frames := 1, cells := 0, slots := 0, locals := 22 }
set_option maxHeartbeats 4000000 in
set_option maxRecDepth 100000 in
theorem c_X7_noEar {l : Launch} {D : va_G} {cA : Nat → ClassId} {ad : Nat → Nat} {E : Nat → va_E} {s0 s1 s2 s3 s4 s5 : Int32} {lo mo : Int64} {r : Nat → Int32} {ne : Nat} {ear : Int32} (h233 : E 233 = .inr (7, [.ref (ad 234), .ref (ad 235), .ref (ad 236), .ref (ad 237), .int s0, .int s1, .ref (ad 238), .int s2, .int s3, .int s4, .int s5, .ref (ad 239), .ref (ad 240), .ref (ad 241), .long lo, .long mo, .ref (ad 242)])) (h234 : E 234 = .inl (cA 0, 346, .inl r))  (h0 : r 0 = nI ne) (hne : ne ≤ 10) : CtI l D cA yX7_noEar cX7_noEar 2 .boolean rm_X7_noEar 243 ad E [.ref (ad 233), .int ear] (fun x E' => (E = E' ∧ 1 = x ∧ (ear < 0 ∨ ne ≤ ear.toNatClampNeg)) ∨ (E = E' ∧ 0 = x ∧ (∃ e : Nat, e < ne ∧ ear = nI e))) := by
  refine CtI.of (by decide +kernel) (Nat.le_of_ble_eq_true rfl) (fun X F hret => ?_)
  have F : Fr "ThumpEarsModel" cX7_noEar 2 D cA X := F
  refine (show GG rm_X7_noEar 2 l D X 0 0 243 ad E 0 [(0, .ref (ad 233)), (1, .int ear)] [] from ?_)
  refine g_iload_n F (q := 1) (dk dX7_noEar 0 rfl) rfl rfl 1 rfl ?_
  refine g_iconst F (q := 2) (v := 0) (dk dX7_noEar 1 rfl) rfl (by decide) ?_
  refine g_aload_n F (q := 3) (dk dX7_noEar 2 rfl) rfl rfl 0 rfl ?_
  refine g_getf F (q := 6) h233 rfl inX7 (by omega) (j := 0) (by decide) tq_623 rfl rfl (dk dX7_noEar 3 rfl) rfl ?_
  refine g_iconst F (q := 7) (v := 0) (dk dX7_noEar 4 rfl) rfl (by decide) ?_
  refine g_iald F (q := 8) 0 h234 (by omega) rfl (by omega) (by decide) (dk dX7_noEar 5 rfl) rfl ?_
  refine g_sti (y := (nI ne)) h0 ?_
  refine g_iconst F (q := 9) (v := 1) (dk dX7_noEar 6 rfl) rfl (by decide) ?_
  refine g_isub F (q := 10) (dk dX7_noEar 7 rfl) rfl ?_
  refine g_callSI F (q := 13) (av := [.int ear, .int 0, .int ((nI ne) - 1)]) (st := []) (c_X7_in (v := ear) (a := 0) (b := ((nI ne) - 1))) ks_X7_in tq_707 ⟨rfl, rfl⟩ (by decide) ⟨Nat.le_refl _, Nat.le_refl _⟩ rfl rfl (Nat.le_of_ble_eq_true rfl) (dk dX7_noEar 8 rfl) rfl (fun r10 E10 hp10 => ?_)
  rcases hp10 with ⟨rfl, rfl, b10⟩ | ⟨rfl, rfl, b10⟩
  · refine g_if_ne F (q := 16) (tgt := 20) (dk dX7_noEar 9 rfl) (by decide) rfl (fun _ => ?_) (fun h => absurd h (by decide))
    refine g_iconst F (q := 21) (v := 0) (dk dX7_noEar 12 rfl) rfl (by decide) ?_
    refine hret 0 E _ _ (dk dX7_noEar 13 rfl) rfl ?_
    exact Or.inr ⟨rfl, rfl, ixQ (by omega) b10⟩
  · refine g_if_ne F (q := 16) (tgt := 20) (dk dX7_noEar 9 rfl) (by decide) rfl (fun h => absurd h (by decide)) (fun _ => ?_)
    refine g_iconst F (q := 17) (v := 1) (dk dX7_noEar 10 rfl) rfl (by decide) ?_
    refine g_goto F (tgt := 21) (dk dX7_noEar 11 rfl) (by decide) ?_
    refine hret 1 E _ _ (dk dX7_noEar 13 rfl) rfl ?_
    exact Or.inl ⟨rfl, rfl, ixR (by omega) b10⟩
theorem kv_X7_noEar : KV yX7_noEar "ThumpEarsModel" cX7_noEar 2 (some .boolean) 1 := ⟨tq_716, tq_12, tq_47, tq_717, by decide +kernel⟩
abbrev rm_X7_none : Room := { frames := 1, cells := 0, slots := 0, locals := 22 }
set_option maxHeartbeats 4000000 in
set_option maxRecDepth 100000 in
theorem c_X7_none {l : Launch} {D : va_G} {cA : Nat → ClassId} {ad : Nat → Nat} {E : Nat → va_E} {s0 s1 s2 s3 s4 s5 : Int32} {lo mo : Int64} {r : Nat → Int32} {n k : Nat} {a : Int32} (h233 : E 233 = .inr (7, [.ref (ad 234), .ref (ad 235), .ref (ad 236), .ref (ad 237), .int s0, .int s1, .ref (ad 238), .int s2, .int s3, .int s4, .int s5, .ref (ad 239), .ref (ad 240), .ref (ad 241), .long lo, .long mo, .ref (ad 242)])) (h234 : E 234 = .inl (cA 0, 346, .inl r))  (hk : k < 2) (h0 : r (1 + k) = nI n) (hn : n ≤ 10) : CtI l D cA yX7_none cX7_none 3 .boolean rm_X7_none 243 ad E [.ref (ad 233), .int (nI k), .int a] (fun x E' => (E = E' ∧ 1 = x ∧ (a < 0 ∨ n ≤ a.toNatClampNeg)) ∨ (E = E' ∧ 0 = x ∧ (∃ e : Nat, e < n ∧ a = nI e))) := by
  refine CtI.of (by decide +kernel) (Nat.le_of_ble_eq_true rfl) (fun X F hret => ?_)
  have F : Fr "ThumpEarsModel" cX7_none 3 D cA X := F
  refine (show GG rm_X7_none 3 l D X 0 0 243 ad E 0 [(0, .ref (ad 233)), (1, .int (nI k)), (2, .int a)] [] from ?_)
  refine g_iload_n F (q := 1) (dk dX7_none 0 rfl) rfl rfl 2 rfl ?_
  refine g_iconst F (q := 2) (v := 0) (dk dX7_none 1 rfl) rfl (by decide) ?_
  refine g_aload_n F (q := 3) (dk dX7_none 2 rfl) rfl rfl 0 rfl ?_
  refine g_getf F (q := 6) h233 rfl inX7 (by omega) (j := 0) (by decide) tq_623 rfl rfl (dk dX7_none 3 rfl) rfl ?_
  refine g_iconst F (q := 7) (v := 1) (dk dX7_none 4 rfl) rfl (by decide) ?_
  refine g_iload_n F (q := 8) (dk dX7_none 5 rfl) rfl rfl 1 rfl ?_
  refine g_iadd F (q := 9) (dk dX7_none 6 rfl) rfl ?_
  refine g_iald F (q := 10) ((1 + k)) h234 (by omega) (nA rfl rfl) (by omega) (by decide) (dk dX7_none 7 rfl) rfl ?_
  refine g_sti (y := (nI n)) h0 ?_
  refine g_iconst F (q := 11) (v := 1) (dk dX7_none 8 rfl) rfl (by decide) ?_
  refine g_isub F (q := 12) (dk dX7_none 9 rfl) rfl ?_
  refine g_callSI F (q := 15) (av := [.int a, .int 0, .int ((nI n) - 1)]) (st := []) (c_X7_in (v := a) (a := 0) (b := ((nI n) - 1))) ks_X7_in tq_707 ⟨rfl, rfl⟩ (by decide) ⟨Nat.le_refl _, Nat.le_refl _⟩ rfl rfl (Nat.le_of_ble_eq_true rfl) (dk dX7_none 10 rfl) rfl (fun r12 E12 hp12 => ?_)
  rcases hp12 with ⟨rfl, rfl, b12⟩ | ⟨rfl, rfl, b12⟩
  · refine g_if_ne F (q := 18) (tgt := 22) (dk dX7_none 11 rfl) (by decide) rfl (fun _ => ?_) (fun h => absurd h (by decide))
    refine g_iconst F (q := 23) (v := 0) (dk dX7_none 14 rfl) rfl (by decide) ?_
    refine hret 0 E _ _ (dk dX7_none 15 rfl) rfl ?_
    exact Or.inr ⟨rfl, rfl, ixQ (by omega) b12⟩
  · refine g_if_ne F (q := 18) (tgt := 22) (dk dX7_none 11 rfl) (by decide) rfl (fun h => absurd h (by decide)) (fun _ => ?_)
    refine g_iconst F (q := 19) (v := 1) (dk dX7_none 12 rfl) rfl (by decide) ?_
    refine g_goto F (tgt := 23) (dk dX7_none 13 rfl) (by decide) ?_
    refine hret 1 E _ _ (dk dX7_none 15 rfl) rfl ?_
    exact Or.inl ⟨rfl, rfl, ixR (by omega) b12⟩
theorem kv_X7_none : KV yX7_none "ThumpEarsModel" cX7_none 3 (some .boolean) 2 := ⟨tq_768, tq_18, tq_47, tq_769, by decide +kernel⟩
abbrev rm_X7_bury : Room := { frames := 2, cells := 0, slots := 0, locals := 41 }
set_option maxHeartbeats 4000000 in
set_option maxRecDepth 100000 in
theorem c_X7_bury {l : Launch} {D : va_G} {cA : Nat → ClassId} {ad : Nat → Nat} {E : Nat → va_E} {nh : Nat} {s1 s2 s3 s4 s5 : Int32} {lo mo : Int64} {r past bef : Nat → Int32} {ne : Nat} {place : Int32} (h233 : E 233 = .inr (7, [.ref (ad 234), .ref (ad 235), .ref (ad 236), .ref (ad 237), .int (nI nh), .int s1, .ref (ad 238), .int s2, .int s3, .int s4, .int s5, .ref (ad 239), .ref (ad 240), .ref (ad 241), .long lo, .long mo, .ref (ad 242)])) (h234 : E 234 = .inl (cA 0, 346, .inl r)) (h235 : E 235 = .inl (cA 0, 1384, .inl past)) (h237 : E 237 = .inl (cA 0, 346, .inl bef))  (hnh : nh ≤ 4) (h0 : r 0 = nI ne) (hne : ne ≤ 10) : CtI l D cA yX7_bury cX7_bury 4 .int rm_X7_bury 243 ad E [.ref (ad 233), .int place] (fun x E' => ∃ (f : Nat → Int32) (q : Nat → Int32) (g : Nat → Int32) (n2 : Nat), (sBury r ne place).1 = x ∧ E' 233 = .inr (7, [.ref (ad 234), .ref (ad 235), .ref (ad 236), .ref (ad 237), .int (nI n2), .int s1, .ref (ad 238), .int s2, .int s3, .int s4, .int s5, .ref (ad 239), .ref (ad 240), .ref (ad 241), .long lo, .long mo, .ref (ad 242)]) ∧ E' 234 = .inl (cA 0, 346, .inl f) ∧ E' 235 = .inl (cA 0, 1384, .inl q) ∧ E' 237 = .inl (cA 0, 346, .inl g) ∧ (NX ((sBury r ne place).2) r past nh f q n2) ∧ ∀ j, (j ≠ 233 ∧ j ≠ 234 ∧ j ≠ 235 ∧ j ≠ 237) → E' j = E j) := by
  refine CtI.of (by decide +kernel) (Nat.le_of_ble_eq_true rfl) (fun X F hret => ?_)
  have F : Fr "ThumpEarsModel" cX7_bury 4 D cA X := F
  refine (show GG rm_X7_bury 4 l D X 0 0 243 ad E 0 [(0, .ref (ad 233)), (1, .int place)] [] from ?_)
  refine g_iload_n F (q := 1) (dk dX7_bury 0 rfl) rfl rfl 1 rfl ?_
  refine g_iconst F (q := 2) (v := 0) (dk dX7_bury 1 rfl) rfl (by decide) ?_
  refine g_sipush F (q := 5) (v := 1000) (dk dX7_bury 2 rfl) rfl (by decide) ?_
  refine g_callSI F (q := 8) (av := [.int place, .int 0, .int 1000]) (st := []) (c_X7_in (v := place) (a := 0) (b := 1000)) ks_X7_in tq_707 ⟨rfl, rfl⟩ (by decide) ⟨Nat.le_refl _, Nat.le_refl _⟩ rfl rfl (Nat.le_of_ble_eq_true rfl) (dk dX7_bury 3 rfl) rfl (fun r5 E5 hp5 => ?_)
  rcases hp5 with ⟨rfl, rfl, b5⟩ | ⟨rfl, rfl, b5⟩
  · refine g_if_ne F (q := 11) (tgt := 14) (dk dX7_bury 4 rfl) (by decide) rfl (fun _ => ?_) (fun h => absurd h (by decide))
    refine g_aload_n F (q := 15) (dk dX7_bury 7 rfl) rfl rfl 0 rfl ?_
    refine g_getf F (q := 18) h233 rfl inX7 (by omega) (j := 0) (by decide) tq_623 rfl rfl (dk dX7_bury 8 rfl) rfl ?_
    refine g_iconst F (q := 19) (v := 0) (dk dX7_bury 9 rfl) rfl (by decide) ?_
    refine g_iald F (q := 20) 0 h234 (by omega) rfl (by omega) (by decide) (dk dX7_bury 10 rfl) rfl ?_
    refine g_sti (y := (nI ne)) h0 ?_
    refine g_istore_n F (q := 21) (lv' := [(2, .int (nI ne)), (0, .ref (ad 233)), (1, .int place)]) (dk dX7_bury 11 rfl) rfl rfl (Nat.le_of_ble_eq_true rfl) rfl ?_
    refine g_iload_n F (q := 22) (dk dX7_bury 12 rfl) rfl rfl 0 rfl ?_
    refine g_bipush F (q := 24) (v := 10) (dk dX7_bury 13 rfl) rfl (by decide) ?_
    refine g_icmp_ne F (q := 27) (tgt := 30) (dk dX7_bury 14 rfl) (by decide) rfl (fun c24 => ?_) (fun c24 => ?_)
    · have nc24 : ¬ ne = 10 := fun h => c24 ((nI_eq (a := ne) (b := 10) (by omega) (by omega)).mpr h)
      refine g_aload_n F (q := 31) (dk dX7_bury 17 rfl) rfl rfl 1 rfl ?_
      refine g_callVV F (q := 34) (av := []) (st := []) (c_X7_open h233 h234 h235 h237 (by first | assumption | decide | omega)) kv_X7_open tq_691 h233 rfl (by omega) ⟨rfl, rfl⟩ (by decide) ⟨Nat.le_refl _, Nat.le_refl _⟩ rfl rfl (Nat.le_of_ble_eq_true rfl) (dk dX7_bury 18 rfl) rfl (fun E31 hp31 => ?_)
      obtain ⟨q_31, g_31, hK233_31, hK235_31, hK237_31, hp_31, hF31⟩ := hp31
      refine g_aload_n F (q := 35) (dk dX7_bury 19 rfl) rfl rfl 1 rfl ?_
      refine g_getf F (q := 38) hK233_31 rfl inX7 (by omega) (j := 0) (by decide) tq_623 rfl rfl (dk dX7_bury 20 rfl) rfl ?_
      refine g_bipush F (q := 40) (v := 6) (dk dX7_bury 21 rfl) rfl (by decide) ?_
      refine g_iconst F (q := 41) (v := 4) (dk dX7_bury 22 rfl) rfl (by decide) ?_
      refine g_iload_n F (q := 42) (dk dX7_bury 23 rfl) rfl rfl 0 rfl ?_
      refine g_imul F (q := 43) (dk dX7_bury 24 rfl) rfl ?_
      refine g_iadd F (q := 44) (dk dX7_bury 25 rfl) rfl ?_
      refine g_iload_n F (q := 45) (dk dX7_bury 26 rfl) rfl rfl 2 rfl ?_
      have hc1 := (hF31 234 (by omega)).trans h234
      refine g_iast F (q := 46) ((6 + (4 * ne))) hc1 (by omega) (nA rfl (nM rfl rfl)) (by omega) (by decide) (dk dX7_bury 27 rfl) rfl (fun E45 hE45 hO45 => ?_)
      refine g_iconst F (q := 47) (v := 1) (dk dX7_bury 28 rfl) rfl (by decide) ?_
      refine g_istore_n F (q := 48) (lv' := [(3, .int 1), (2, .int (nI ne)), (0, .ref (ad 233)), (1, .int place)]) (dk dX7_bury 29 rfl) rfl rfl (Nat.le_of_ble_eq_true rfl) rfl ?_
      refine g_iload_n F (q := 49) (dk dX7_bury 30 rfl) rfl rfl 0 rfl ?_
      refine g_iconst F (q := 50) (v := 4) (dk dX7_bury 31 rfl) rfl (by decide) ?_
      refine g_icmp_ge F (q := 53) (tgt := 73) (dk dX7_bury 32 rfl) (by decide) rfl (fun h => absurd h (by decide)) (fun _ => ?_)
      refine g_aload_n F (q := 54) (dk dX7_bury 33 rfl) rfl rfl 2 rfl ?_
      have hc2 := (hO45 233 (by omega)).trans hK233_31
      refine g_getf F (q := 57) hc2 rfl inX7 (by omega) (j := 0) (by decide) tq_623 rfl rfl (dk dX7_bury 34 rfl) rfl ?_
      refine g_bipush F (q := 59) (v := 6) (dk dX7_bury 35 rfl) rfl (by decide) ?_
      refine g_iconst F (q := 60) (v := 4) (dk dX7_bury 36 rfl) rfl (by decide) ?_
      refine g_iload_n F (q := 61) (dk dX7_bury 37 rfl) rfl rfl 1 rfl ?_
      refine g_imul F (q := 62) (dk dX7_bury 38 rfl) rfl ?_
      refine g_iadd F (q := 63) (dk dX7_bury 39 rfl) rfl ?_
      refine g_iload_n F (q := 64) (dk dX7_bury 40 rfl) rfl rfl 0 rfl ?_
      refine g_iadd F (q := 65) (dk dX7_bury 41 rfl) rfl ?_
      refine g_iconst F (q := 66) (v := 0) (dk dX7_bury 42 rfl) rfl (by decide) ?_
      refine g_iast F (q := 67) (((6 + (4 * ne)) + 1)) hE45 (by omega) (nA (nA rfl (nM rfl rfl)) rfl) (by omega) (by decide) (dk dX7_bury 43 rfl) rfl (fun E66 hE66 hO66 => ?_)
      refine g_iinc F (q := 70) (v := 2) (lv' := [(3, .int 2), (2, .int (nI ne)), (0, .ref (ad 233)), (1, .int place)]) (dk dX7_bury 44 rfl) rfl 0 rfl (by decide) (Nat.le_of_ble_eq_true rfl) rfl ?_
      refine g_goto F (tgt := 48) (dk dX7_bury 45 rfl) (by decide) ?_
      refine g_iload_n F (q := 49) (dk dX7_bury 30 rfl) rfl rfl 0 rfl ?_
      refine g_iconst F (q := 50) (v := 4) (dk dX7_bury 31 rfl) rfl (by decide) ?_
      refine g_icmp_ge F (q := 53) (tgt := 73) (dk dX7_bury 32 rfl) (by decide) rfl (fun h => absurd h (by decide)) (fun _ => ?_)
      refine g_aload_n F (q := 54) (dk dX7_bury 33 rfl) rfl rfl 2 rfl ?_
      have hc3 := (hO66 233 (by omega)).trans hc2
      refine g_getf F (q := 57) hc3 rfl inX7 (by omega) (j := 0) (by decide) tq_623 rfl rfl (dk dX7_bury 34 rfl) rfl ?_
      refine g_bipush F (q := 59) (v := 6) (dk dX7_bury 35 rfl) rfl (by decide) ?_
      refine g_iconst F (q := 60) (v := 4) (dk dX7_bury 36 rfl) rfl (by decide) ?_
      refine g_iload_n F (q := 61) (dk dX7_bury 37 rfl) rfl rfl 1 rfl ?_
      refine g_imul F (q := 62) (dk dX7_bury 38 rfl) rfl ?_
      refine g_iadd F (q := 63) (dk dX7_bury 39 rfl) rfl ?_
      refine g_iload_n F (q := 64) (dk dX7_bury 40 rfl) rfl rfl 0 rfl ?_
      refine g_iadd F (q := 65) (dk dX7_bury 41 rfl) rfl ?_
      refine g_iconst F (q := 66) (v := 0) (dk dX7_bury 42 rfl) rfl (by decide) ?_
      refine g_iast F (q := 67) (((6 + (4 * ne)) + 2)) hE66 (by omega) (nA (nA rfl (nM rfl rfl)) rfl) (by omega) (by decide) (dk dX7_bury 43 rfl) rfl (fun E66x hE66x hO66x => ?_)
      refine g_iinc F (q := 70) (v := 3) (lv' := [(3, .int 3), (2, .int (nI ne)), (0, .ref (ad 233)), (1, .int place)]) (dk dX7_bury 44 rfl) rfl 0 rfl (by decide) (Nat.le_of_ble_eq_true rfl) rfl ?_
      refine g_goto F (tgt := 48) (dk dX7_bury 45 rfl) (by decide) ?_
      refine g_iload_n F (q := 49) (dk dX7_bury 30 rfl) rfl rfl 0 rfl ?_
      refine g_iconst F (q := 50) (v := 4) (dk dX7_bury 31 rfl) rfl (by decide) ?_
      refine g_icmp_ge F (q := 53) (tgt := 73) (dk dX7_bury 32 rfl) (by decide) rfl (fun h => absurd h (by decide)) (fun _ => ?_)
      refine g_aload_n F (q := 54) (dk dX7_bury 33 rfl) rfl rfl 2 rfl ?_
      have hc4 := (hO66x 233 (by omega)).trans hc3
      refine g_getf F (q := 57) hc4 rfl inX7 (by omega) (j := 0) (by decide) tq_623 rfl rfl (dk dX7_bury 34 rfl) rfl ?_
      refine g_bipush F (q := 59) (v := 6) (dk dX7_bury 35 rfl) rfl (by decide) ?_
      refine g_iconst F (q := 60) (v := 4) (dk dX7_bury 36 rfl) rfl (by decide) ?_
      refine g_iload_n F (q := 61) (dk dX7_bury 37 rfl) rfl rfl 1 rfl ?_
      refine g_imul F (q := 62) (dk dX7_bury 38 rfl) rfl ?_
      refine g_iadd F (q := 63) (dk dX7_bury 39 rfl) rfl ?_
      refine g_iload_n F (q := 64) (dk dX7_bury 40 rfl) rfl rfl 0 rfl ?_
      refine g_iadd F (q := 65) (dk dX7_bury 41 rfl) rfl ?_
      refine g_iconst F (q := 66) (v := 0) (dk dX7_bury 42 rfl) rfl (by decide) ?_
      refine g_iast F (q := 67) (((6 + (4 * ne)) + 3)) hE66x (by omega) (nA (nA rfl (nM rfl rfl)) rfl) (by omega) (by decide) (dk dX7_bury 43 rfl) rfl (fun E66xx hE66xx hO66xx => ?_)
      refine g_iinc F (q := 70) (v := 4) (lv' := [(3, .int 4), (2, .int (nI ne)), (0, .ref (ad 233)), (1, .int place)]) (dk dX7_bury 44 rfl) rfl 0 rfl (by decide) (Nat.le_of_ble_eq_true rfl) rfl ?_
      refine g_goto F (tgt := 48) (dk dX7_bury 45 rfl) (by decide) ?_
      refine g_iload_n F (q := 49) (dk dX7_bury 30 rfl) rfl rfl 0 rfl ?_
      refine g_iconst F (q := 50) (v := 4) (dk dX7_bury 31 rfl) rfl (by decide) ?_
      refine g_icmp_ge F (q := 53) (tgt := 73) (dk dX7_bury 32 rfl) (by decide) rfl (fun _ => ?_) (fun h => absurd h (by decide))
      refine g_aload_n F (q := 74) (dk dX7_bury 46 rfl) rfl rfl 2 rfl ?_
      have hc5 := (hO66xx 233 (by omega)).trans hc4
      refine g_getf F (q := 77) hc5 rfl inX7 (by omega) (j := 0) (by decide) tq_623 rfl rfl (dk dX7_bury 47 rfl) rfl ?_
      refine g_iconst F (q := 78) (v := 0) (dk dX7_bury 48 rfl) rfl (by decide) ?_
      refine g_dup2 F (q := 79) (dk dX7_bury 49 rfl) rfl rfl rfl ?_
      refine g_iald F (q := 80) 0 hE66xx (by omega) rfl (by omega) (by decide) (dk dX7_bury 50 rfl) rfl ?_
      refine g_sti (y := (nI ne)) (by rw [upd_n (by omega), upd_n (by omega), upd_n (by omega), upd_n (by omega)]; exact h0) ?_
      refine g_iconst F (q := 81) (v := 1) (dk dX7_bury 51 rfl) rfl (by decide) ?_
      refine g_iadd F (q := 82) (dk dX7_bury 52 rfl) rfl ?_
      refine g_sti (nA rfl rfl) ?_
      refine g_iast F (q := 83) 0 hE66xx (by omega) rfl (by omega) (by decide) (dk dX7_bury 53 rfl) rfl (fun E82 hE82 hO82 => ?_)
      refine g_iload_n F (q := 84) (dk dX7_bury 54 rfl) rfl rfl 1 rfl ?_
      have hs : sBury r ne place = (nI ne, some (upd (upd (upd (upd (upd r ((6 + (4 * ne))) place) (((6 + (4 * ne)) + 1)) 0) (((6 + (4 * ne)) + 2)) 0) (((6 + (4 * ne)) + 3)) 0) 0 (nI ((ne + 1))))) := by unfold sBury; rw [if_pos b5, if_neg nc24]
      have hc6 := (hO82 233 (by omega)).trans hc5
      have hc7 := (hO45 235 (by omega)).trans hK235_31
      have hc8 := (hO66 235 (by omega)).trans hc7
      have hc9 := (hO66x 235 (by omega)).trans hc8
      have hc10 := (hO66xx 235 (by omega)).trans hc9
      have hc11 := (hO82 235 (by omega)).trans hc10
      have hc12 := (hO45 237 (by omega)).trans hK237_31
      have hc13 := (hO66 237 (by omega)).trans hc12
      have hc14 := (hO66x 237 (by omega)).trans hc13
      have hc15 := (hO66xx 237 (by omega)).trans hc14
      have hc16 := (hO82 237 (by omega)).trans hc15
      refine hret (nI ne) E82 _ _ (dk dX7_bury 55 rfl) (nint _) ?_
      exact ⟨(upd (upd (upd (upd (upd r ((6 + (4 * ne))) place) (((6 + (4 * ne)) + 1)) 0) (((6 + (4 * ne)) + 2)) 0) (((6 + (4 * ne)) + 3)) 0) 0 (nI ((ne + 1)))), q_31, g_31, (nup nh), (by rw [hs]), hc6, hE82, hc11, hc16, (by rw [hs]; exact ⟨rfl, eqN.rf, hp_31⟩), (fun j hj => ((((((hO82 j (by omega)).trans (hO66xx j (by omega))).trans (hO66x j (by omega))).trans (hO66 j (by omega))).trans (hO45 j (by omega))).trans (hF31 j (by omega))))⟩
    · have nc24 : ne = 10 := (nI_eq (a := ne) (b := 10) (by omega) (by omega)).mp c24
      refine g_bipush F (q := 29) (v := (-3)) (dk dX7_bury 15 rfl) rfl (by decide) ?_
      have hs : sBury r ne place = (-3, none) := by unfold sBury; rw [if_pos b5, if_pos nc24]
      refine hret (-3) E _ _ (dk dX7_bury 16 rfl) (nint _) ?_
      exact ⟨r, past, bef, nh, (by rw [hs]), h233, h234, h235, h237, (by rw [hs]; exact NX.nil), (fun j _ => rfl)⟩
  · refine g_if_ne F (q := 11) (tgt := 14) (dk dX7_bury 4 rfl) (by decide) rfl (fun h => absurd h (by decide)) (fun _ => ?_)
    refine g_bipush F (q := 13) (v := (-2)) (dk dX7_bury 5 rfl) rfl (by decide) ?_
    have hs : sBury r ne place = (-2, none) := if_neg b5
    refine hret (-2) E _ _ (dk dX7_bury 6 rfl) (nint _) ?_
    exact ⟨r, past, bef, nh, (by rw [hs]), h233, h234, h235, h237, (by rw [hs]; exact NX.nil), (fun j _ => rfl)⟩
theorem kv_X7_bury : KV yX7_bury "ThumpEarsModel" cX7_bury 4 (some .int) 1 := ⟨tq_704, tq_705, tq_47, tq_706, by decide +kernel⟩
abbrev rm_X7_setClock : Room := { frames := 2, cells := 0, slots := 0, locals := 43 }
set_option maxHeartbeats 4000000 in
set_option maxRecDepth 100000 in
theorem c_X7_setClock {l : Launch} {D : va_G} {cA : Nat → ClassId} {ad : Nat → Nat} {E : Nat → va_E} {nh : Nat} {s1 s2 s3 s4 s5 : Int32} {lo mo : Int64} {r past bef : Nat → Int32} {ne : Nat} {ear off dr : Int32} (h233 : E 233 = .inr (7, [.ref (ad 234), .ref (ad 235), .ref (ad 236), .ref (ad 237), .int (nI nh), .int s1, .ref (ad 238), .int s2, .int s3, .int s4, .int s5, .ref (ad 239), .ref (ad 240), .ref (ad 241), .long lo, .long mo, .ref (ad 242)])) (h234 : E 234 = .inl (cA 0, 346, .inl r)) (h235 : E 235 = .inl (cA 0, 1384, .inl past)) (h237 : E 237 = .inl (cA 0, 346, .inl bef))  (hnh : nh ≤ 4) (h0 : r 0 = nI ne) (hne : ne ≤ 10) : CtI l D cA yX7_setClock cX7_setClock 4 .int rm_X7_setClock 243 ad E [.ref (ad 233), .int ear, .int off, .int dr] (fun x E' => ∃ (f : Nat → Int32) (q : Nat → Int32) (g : Nat → Int32) (n2 : Nat), (sClock r ne ear off dr).1 = x ∧ E' 233 = .inr (7, [.ref (ad 234), .ref (ad 235), .ref (ad 236), .ref (ad 237), .int (nI n2), .int s1, .ref (ad 238), .int s2, .int s3, .int s4, .int s5, .ref (ad 239), .ref (ad 240), .ref (ad 241), .long lo, .long mo, .ref (ad 242)]) ∧ E' 234 = .inl (cA 0, 346, .inl f) ∧ E' 235 = .inl (cA 0, 1384, .inl q) ∧ E' 237 = .inl (cA 0, 346, .inl g) ∧ (NX ((sClock r ne ear off dr).2) r past nh f q n2) ∧ ∀ j, (j ≠ 233 ∧ j ≠ 234 ∧ j ≠ 235 ∧ j ≠ 237) → E' j = E j) := by
  refine CtI.of (by decide +kernel) (Nat.le_of_ble_eq_true rfl) (fun X F hret => ?_)
  have F : Fr "ThumpEarsModel" cX7_setClock 4 D cA X := F
  refine (show GG rm_X7_setClock 4 l D X 0 0 243 ad E 0 [(0, .ref (ad 233)), (1, .int ear), (2, .int off), (3, .int dr)] [] from ?_)
  refine g_aload_n F (q := 1) (dk dX7_setClock 0 rfl) rfl rfl 0 rfl ?_
  refine g_iload_n F (q := 2) (dk dX7_setClock 1 rfl) rfl rfl 1 rfl ?_
  refine g_callVI F (q := 5) (av := [.int ear]) (st := []) (c_X7_noEar (ear := ear) h233 h234 (by first | assumption | decide | omega) (by first | assumption | decide | omega)) kv_X7_noEar tq_714 h233 rfl (by omega) ⟨rfl, rfl⟩ (by decide) ⟨Nat.le_refl _, Nat.le_refl _⟩ rfl rfl (Nat.le_of_ble_eq_true rfl) (dk dX7_setClock 2 rfl) rfl (fun r2 E2 hp2 => ?_)
  rcases hp2 with ⟨rfl, rfl, b2⟩ | ⟨rfl, rfl, b2⟩
  · refine g_if_eq F (q := 8) (tgt := 10) (dk dX7_setClock 3 rfl) (by decide) rfl (fun h => absurd h (by decide)) (fun _ => ?_)
    refine g_iconst F (q := 9) (v := (-1)) (dk dX7_setClock 4 rfl) rfl (by decide) ?_
    have hs : sClock r ne ear off dr = (-1, none) := if_pos b2
    refine hret (-1) E _ _ (dk dX7_setClock 5 rfl) (nint _) ?_
    exact ⟨r, past, bef, nh, (by rw [hs]), h233, h234, h235, h237, (by rw [hs]; exact NX.nil), (fun j _ => rfl)⟩
  · obtain ⟨e, he, rfl⟩ := b2
    refine g_if_eq F (q := 8) (tgt := 10) (dk dX7_setClock 3 rfl) (by decide) rfl (fun _ => ?_) (fun h => absurd h (by decide))
    refine g_iload_n F (q := 11) (dk dX7_setClock 6 rfl) rfl rfl 2 rfl ?_
    refine g_sipush F (q := 14) (v := (-500)) (dk dX7_setClock 7 rfl) rfl (by decide) ?_
    refine g_sipush F (q := 17) (v := 500) (dk dX7_setClock 8 rfl) rfl (by decide) ?_
    refine g_callSI F (q := 20) (av := [.int off, .int (-500), .int 500]) (st := []) (c_X7_in (v := off) (a := (-500)) (b := 500)) ks_X7_in tq_707 ⟨rfl, rfl⟩ (by decide) ⟨Nat.le_refl _, Nat.le_refl _⟩ rfl rfl (Nat.le_of_ble_eq_true rfl) (dk dX7_setClock 9 rfl) rfl (fun r17 E17 hp17 => ?_)
    rcases hp17 with ⟨rfl, rfl, b17⟩ | ⟨rfl, rfl, b17⟩
    · refine g_if_eq F (q := 23) (tgt := 34) (dk dX7_setClock 10 rfl) (by decide) rfl (fun h => absurd h (by decide)) (fun _ => ?_)
      refine g_iload_n F (q := 24) (dk dX7_setClock 11 rfl) rfl rfl 3 rfl ?_
      refine g_bipush F (q := 26) (v := (-50)) (dk dX7_setClock 12 rfl) rfl (by decide) ?_
      refine g_bipush F (q := 28) (v := 50) (dk dX7_setClock 13 rfl) rfl (by decide) ?_
      refine g_callSI F (q := 31) (av := [.int dr, .int (-50), .int 50]) (st := []) (c_X7_in (v := dr) (a := (-50)) (b := 50)) ks_X7_in tq_707 ⟨rfl, rfl⟩ (by decide) ⟨Nat.le_refl _, Nat.le_refl _⟩ rfl rfl (Nat.le_of_ble_eq_true rfl) (dk dX7_setClock 14 rfl) rfl (fun r28 E28 hp28 => ?_)
      rcases hp28 with ⟨rfl, rfl, b28⟩ | ⟨rfl, rfl, b28⟩
      · refine g_if_ne F (q := 34) (tgt := 37) (dk dX7_setClock 15 rfl) (by decide) rfl (fun _ => ?_) (fun h => absurd h (by decide))
        refine g_aload_n F (q := 38) (dk dX7_setClock 18 rfl) rfl rfl 0 rfl ?_
        refine g_iload_n F (q := 39) (dk dX7_setClock 19 rfl) rfl rfl 1 rfl ?_
        refine g_iconst F (q := 40) (v := 2) (dk dX7_setClock 20 rfl) rfl (by decide) ?_
        refine g_callVI F (q := 43) (av := [.int (nI e), .int 2]) (st := []) (c_X7_of (e := e) (w := 2) h233 h234 (by first | assumption | decide | omega)) kv_X7_of tq_718 h233 rfl (by omega) ⟨rfl, rfl⟩ (by decide) ⟨Nat.le_refl _, Nat.le_refl _⟩ rfl rfl (Nat.le_of_ble_eq_true rfl) (dk dX7_setClock 21 rfl) rfl (fun r40 E40 hp40 => ?_)
        obtain ⟨rfl, rfl⟩ := hp40
        refine g_iload_n F (q := 44) (dk dX7_setClock 22 rfl) rfl rfl 2 rfl ?_
        refine g_icmp_ne F (q := 47) (tgt := 60) (dk dX7_setClock 23 rfl) (by decide) rfl (fun c44 => ?_) (fun c44 => ?_)
        · refine g_aload_n F (q := 61) (dk dX7_setClock 32 rfl) rfl rfl 0 rfl ?_
          refine g_callVV F (q := 64) (av := []) (st := []) (c_X7_open h233 h234 h235 h237 (by first | assumption | decide | omega)) kv_X7_open tq_691 h233 rfl (by omega) ⟨rfl, rfl⟩ (by decide) ⟨Nat.le_refl _, Nat.le_refl _⟩ rfl rfl (Nat.le_of_ble_eq_true rfl) (dk dX7_setClock 33 rfl) rfl (fun E61 hp61 => ?_)
          obtain ⟨q_61, g_61, hK233_61, hK235_61, hK237_61, hp_61, hF61⟩ := hp61
          refine g_aload_n F (q := 65) (dk dX7_setClock 34 rfl) rfl rfl 0 rfl ?_
          refine g_getf F (q := 68) hK233_61 rfl inX7 (by omega) (j := 0) (by decide) tq_623 rfl rfl (dk dX7_setClock 35 rfl) rfl ?_
          refine g_bipush F (q := 70) (v := 6) (dk dX7_setClock 36 rfl) rfl (by decide) ?_
          refine g_iconst F (q := 71) (v := 4) (dk dX7_setClock 37 rfl) rfl (by decide) ?_
          refine g_iload_n F (q := 72) (dk dX7_setClock 38 rfl) rfl rfl 1 rfl ?_
          refine g_imul F (q := 73) (dk dX7_setClock 39 rfl) rfl ?_
          refine g_iadd F (q := 74) (dk dX7_setClock 40 rfl) rfl ?_
          refine g_iconst F (q := 75) (v := 2) (dk dX7_setClock 41 rfl) rfl (by decide) ?_
          refine g_iadd F (q := 76) (dk dX7_setClock 42 rfl) rfl ?_
          refine g_iload_n F (q := 77) (dk dX7_setClock 43 rfl) rfl rfl 2 rfl ?_
          have hc1 := (hF61 234 (by omega)).trans h234
          refine g_iast F (q := 78) (((6 + (4 * e)) + 2)) hc1 (by omega) (nA (nA rfl (nM rfl rfl)) rfl) (by omega) (by decide) (dk dX7_setClock 44 rfl) rfl (fun E77 hE77 hO77 => ?_)
          refine g_aload_n F (q := 79) (dk dX7_setClock 45 rfl) rfl rfl 0 rfl ?_
          have hc2 := (hO77 233 (by omega)).trans hK233_61
          refine g_getf F (q := 82) hc2 rfl inX7 (by omega) (j := 0) (by decide) tq_623 rfl rfl (dk dX7_setClock 46 rfl) rfl ?_
          refine g_bipush F (q := 84) (v := 6) (dk dX7_setClock 47 rfl) rfl (by decide) ?_
          refine g_iconst F (q := 85) (v := 4) (dk dX7_setClock 48 rfl) rfl (by decide) ?_
          refine g_iload_n F (q := 86) (dk dX7_setClock 49 rfl) rfl rfl 1 rfl ?_
          refine g_imul F (q := 87) (dk dX7_setClock 50 rfl) rfl ?_
          refine g_iadd F (q := 88) (dk dX7_setClock 51 rfl) rfl ?_
          refine g_iconst F (q := 89) (v := 3) (dk dX7_setClock 52 rfl) rfl (by decide) ?_
          refine g_iadd F (q := 90) (dk dX7_setClock 53 rfl) rfl ?_
          refine g_iload_n F (q := 91) (dk dX7_setClock 54 rfl) rfl rfl 3 rfl ?_
          refine g_iast F (q := 92) (((6 + (4 * e)) + 3)) hE77 (by omega) (nA (nA rfl (nM rfl rfl)) rfl) (by omega) (by decide) (dk dX7_setClock 55 rfl) rfl (fun E91 hE91 hO91 => ?_)
          refine g_iconst F (q := 93) (v := 1) (dk dX7_setClock 56 rfl) rfl (by decide) ?_
          have hs : sClock r ne (nI e) off dr = (1, some (upd (upd r (((6 + (4 * e)) + 2)) off) (((6 + (4 * e)) + 3)) dr)) := by unfold sClock; rw [if_neg (ixN he (by omega)), if_neg (fun h => h ⟨b17, b28⟩), nI_c (by omega), if_neg (fun h => c44 h.1)]
          have hc3 := (hO91 233 (by omega)).trans hc2
          have hc4 := (hO77 235 (by omega)).trans hK235_61
          have hc5 := (hO91 235 (by omega)).trans hc4
          have hc6 := (hO77 237 (by omega)).trans hK237_61
          have hc7 := (hO91 237 (by omega)).trans hc6
          refine hret 1 E91 _ _ (dk dX7_setClock 57 rfl) (nint _) ?_
          exact ⟨(upd (upd r (((6 + (4 * e)) + 2)) off) (((6 + (4 * e)) + 3)) dr), q_61, g_61, (nup nh), (by rw [hs]), hc3, hE91, hc5, hc7, (by rw [hs]; exact ⟨rfl, eqN.rf, hp_61⟩), (fun j hj => (((hO91 j (by omega)).trans (hO77 j (by omega))).trans (hF61 j (by omega))))⟩
        · refine g_aload_n F (q := 48) (dk dX7_setClock 24 rfl) rfl rfl 0 rfl ?_
          refine g_iload_n F (q := 49) (dk dX7_setClock 25 rfl) rfl rfl 1 rfl ?_
          refine g_iconst F (q := 50) (v := 3) (dk dX7_setClock 26 rfl) rfl (by decide) ?_
          refine g_callVI F (q := 53) (av := [.int (nI e), .int 3]) (st := []) (c_X7_of (e := e) (w := 3) h233 h234 (by first | assumption | decide | omega)) kv_X7_of tq_718 h233 rfl (by omega) ⟨rfl, rfl⟩ (by decide) ⟨Nat.le_refl _, Nat.le_refl _⟩ rfl rfl (Nat.le_of_ble_eq_true rfl) (dk dX7_setClock 27 rfl) rfl (fun r50 E50 hp50 => ?_)
          obtain ⟨rfl, rfl⟩ := hp50
          refine g_iload_n F (q := 54) (dk dX7_setClock 28 rfl) rfl rfl 3 rfl ?_
          refine g_icmp_ne F (q := 57) (tgt := 60) (dk dX7_setClock 29 rfl) (by decide) rfl (fun c54 => ?_) (fun c54 => ?_)
          · refine g_aload_n F (q := 61) (dk dX7_setClock 32 rfl) rfl rfl 0 rfl ?_
            refine g_callVV F (q := 64) (av := []) (st := []) (c_X7_open h233 h234 h235 h237 (by first | assumption | decide | omega)) kv_X7_open tq_691 h233 rfl (by omega) ⟨rfl, rfl⟩ (by decide) ⟨Nat.le_refl _, Nat.le_refl _⟩ rfl rfl (Nat.le_of_ble_eq_true rfl) (dk dX7_setClock 33 rfl) rfl (fun E61 hp61 => ?_)
            obtain ⟨q_61, g_61, hK233_61, hK235_61, hK237_61, hp_61, hF61⟩ := hp61
            refine g_aload_n F (q := 65) (dk dX7_setClock 34 rfl) rfl rfl 0 rfl ?_
            refine g_getf F (q := 68) hK233_61 rfl inX7 (by omega) (j := 0) (by decide) tq_623 rfl rfl (dk dX7_setClock 35 rfl) rfl ?_
            refine g_bipush F (q := 70) (v := 6) (dk dX7_setClock 36 rfl) rfl (by decide) ?_
            refine g_iconst F (q := 71) (v := 4) (dk dX7_setClock 37 rfl) rfl (by decide) ?_
            refine g_iload_n F (q := 72) (dk dX7_setClock 38 rfl) rfl rfl 1 rfl ?_
            refine g_imul F (q := 73) (dk dX7_setClock 39 rfl) rfl ?_
            refine g_iadd F (q := 74) (dk dX7_setClock 40 rfl) rfl ?_
            refine g_iconst F (q := 75) (v := 2) (dk dX7_setClock 41 rfl) rfl (by decide) ?_
            refine g_iadd F (q := 76) (dk dX7_setClock 42 rfl) rfl ?_
            refine g_iload_n F (q := 77) (dk dX7_setClock 43 rfl) rfl rfl 2 rfl ?_
            have hc8 := (hF61 234 (by omega)).trans h234
            refine g_iast F (q := 78) (((6 + (4 * e)) + 2)) hc8 (by omega) (nA (nA rfl (nM rfl rfl)) rfl) (by omega) (by decide) (dk dX7_setClock 44 rfl) rfl (fun E77 hE77 hO77 => ?_)
            refine g_aload_n F (q := 79) (dk dX7_setClock 45 rfl) rfl rfl 0 rfl ?_
            have hc9 := (hO77 233 (by omega)).trans hK233_61
            refine g_getf F (q := 82) hc9 rfl inX7 (by omega) (j := 0) (by decide) tq_623 rfl rfl (dk dX7_setClock 46 rfl) rfl ?_
            refine g_bipush F (q := 84) (v := 6) (dk dX7_setClock 47 rfl) rfl (by decide) ?_
            refine g_iconst F (q := 85) (v := 4) (dk dX7_setClock 48 rfl) rfl (by decide) ?_
            refine g_iload_n F (q := 86) (dk dX7_setClock 49 rfl) rfl rfl 1 rfl ?_
            refine g_imul F (q := 87) (dk dX7_setClock 50 rfl) rfl ?_
            refine g_iadd F (q := 88) (dk dX7_setClock 51 rfl) rfl ?_
            refine g_iconst F (q := 89) (v := 3) (dk dX7_setClock 52 rfl) rfl (by decide) ?_
            refine g_iadd F (q := 90) (dk dX7_setClock 53 rfl) rfl ?_
            refine g_iload_n F (q := 91) (dk dX7_setClock 54 rfl) rfl rfl 3 rfl ?_
            refine g_iast F (q := 92) (((6 + (4 * e)) + 3)) hE77 (by omega) (nA (nA rfl (nM rfl rfl)) rfl) (by omega) (by decide) (dk dX7_setClock 55 rfl) rfl (fun E91 hE91 hO91 => ?_)
            refine g_iconst F (q := 93) (v := 1) (dk dX7_setClock 56 rfl) rfl (by decide) ?_
            have hs : sClock r ne (nI e) off dr = (1, some (upd (upd r (((6 + (4 * e)) + 2)) off) (((6 + (4 * e)) + 3)) dr)) := by unfold sClock; rw [if_neg (ixN he (by omega)), if_neg (fun h => h ⟨b17, b28⟩), nI_c (by omega), if_neg (fun h => c54 h.2)]
            have hc10 := (hO91 233 (by omega)).trans hc9
            have hc11 := (hO77 235 (by omega)).trans hK235_61
            have hc12 := (hO91 235 (by omega)).trans hc11
            have hc13 := (hO77 237 (by omega)).trans hK237_61
            have hc14 := (hO91 237 (by omega)).trans hc13
            refine hret 1 E91 _ _ (dk dX7_setClock 57 rfl) (nint _) ?_
            exact ⟨(upd (upd r (((6 + (4 * e)) + 2)) off) (((6 + (4 * e)) + 3)) dr), q_61, g_61, (nup nh), (by rw [hs]), hc10, hE91, hc12, hc14, (by rw [hs]; exact ⟨rfl, eqN.rf, hp_61⟩), (fun j hj => (((hO91 j (by omega)).trans (hO77 j (by omega))).trans (hF61 j (by omega))))⟩
          · refine g_bipush F (q := 59) (v := (-5)) (dk dX7_setClock 30 rfl) rfl (by decide) ?_
            have hs : sClock r ne (nI e) off dr = (-5, none) := by unfold sClock; rw [if_neg (ixN he (by omega)), if_neg (fun h => h ⟨b17, b28⟩), nI_c (by omega), if_pos ⟨c44, c54⟩]
            refine hret (-5) E _ _ (dk dX7_setClock 31 rfl) (nint _) ?_
            exact ⟨r, past, bef, nh, (by rw [hs]), h233, h234, h235, h237, (by rw [hs]; exact NX.nil), (fun j _ => rfl)⟩
      · refine g_if_ne F (q := 34) (tgt := 37) (dk dX7_setClock 15 rfl) (by decide) rfl (fun h => absurd h (by decide)) (fun _ => ?_)
        refine g_bipush F (q := 36) (v := (-2)) (dk dX7_setClock 16 rfl) rfl (by decide) ?_
        have hs : sClock r ne (nI e) off dr = (-2, none) := by unfold sClock; rw [if_neg (ixN he (by omega)), if_pos (fun h => b28 h.2)]
        refine hret (-2) E _ _ (dk dX7_setClock 17 rfl) (nint _) ?_
        exact ⟨r, past, bef, nh, (by rw [hs]), h233, h234, h235, h237, (by rw [hs]; exact NX.nil), (fun j _ => rfl)⟩
    · refine g_if_eq F (q := 23) (tgt := 34) (dk dX7_setClock 10 rfl) (by decide) rfl (fun _ => ?_) (fun h => absurd h (by decide))
      refine g_bipush F (q := 36) (v := (-2)) (dk dX7_setClock 16 rfl) rfl (by decide) ?_
      have hs : sClock r ne (nI e) off dr = (-2, none) := by unfold sClock; rw [if_neg (ixN he (by omega)), if_pos (fun h => b17 h.1)]
      refine hret (-2) E _ _ (dk dX7_setClock 17 rfl) (nint _) ?_
      exact ⟨r, past, bef, nh, (by rw [hs]), h233, h234, h235, h237, (by rw [hs]; exact NX.nil), (fun j _ => rfl)⟩
theorem kv_X7_setClock : KV yX7_setClock "ThumpEarsModel" cX7_setClock 4 (some .int) 3 := ⟨tq_711, tq_712, tq_47, tq_713, by decide +kernel⟩
abbrev rm_X7_mutes : Room := { frames := 1, cells := 0, slots := 0, locals := 22 }
set_option maxHeartbeats 4000000 in
set_option maxRecDepth 100000 in
theorem c_X7_mutes {l : Launch} {D : va_G} {cA : Nat → ClassId} {ad : Nat → Nat} {E : Nat → va_E} {s0 s1 s2 s3 s4 s5 : Int32} {lo mo : Int64} {r : Nat → Int32} {n : Nat} (h233 : E 233 = .inr (7, [.ref (ad 234), .ref (ad 235), .ref (ad 236), .ref (ad 237), .int s0, .int s1, .ref (ad 238), .int s2, .int s3, .int s4, .int s5, .ref (ad 239), .ref (ad 240), .ref (ad 241), .long lo, .long mo, .ref (ad 242)])) (h234 : E 234 = .inl (cA 0, 346, .inl r))  (h0 : r 0 = nI n) (hn : n ≤ 10) : CtI l D cA yX7_mutes cX7_mutes 3 .int rm_X7_mutes 243 ad E [.ref (ad 233)] (fun x E' => (sumN (fun ee => r (6 + 4 * ee + 1)) n) = x ∧ E = E') := by
  refine CtI.of (by decide +kernel) (Nat.le_of_ble_eq_true rfl) (fun X F hret => ?_)
  have F : Fr "ThumpEarsModel" cX7_mutes 3 D cA X := F
  refine (show GG rm_X7_mutes 3 l D X 0 0 243 ad E 0 [(0, .ref (ad 233))] [] from ?_)
  refine g_iconst F (q := 1) (v := 0) (dk dX7_mutes 0 rfl) rfl (by decide) ?_
  refine g_istore_n F (q := 2) (lv' := [(1, .int 0), (0, .ref (ad 233))]) (dk dX7_mutes 1 rfl) rfl rfl (Nat.le_of_ble_eq_true rfl) rfl ?_
  refine g_iconst F (q := 3) (v := 0) (dk dX7_mutes 2 rfl) rfl (by decide) ?_
  refine g_istore_n F (q := 4) (lv' := [(2, .int 0), (1, .int 0), (0, .ref (ad 233))]) (dk dX7_mutes 3 rfl) rfl rfl (Nat.le_of_ble_eq_true rfl) rfl ?_
  have K4 : ∀ (fu : Nat) (i : Nat), n - i < fu → (hi : i ≤ n) → GG rm_X7_mutes 3 l D X 0 0 243 ad E 4 [(0, .ref (ad 233)), (1, .int (sumN (fun ee => r (6 + 4 * ee + 1)) i)), (2, .int (nI i))] [] := by
    intro fu
    induction fu with
    | zero => intro i hfu_; exact absurd hfu_ (Nat.not_lt_zero _)
    | succ fu ih =>
      intro i hfu_ hi
      refine g_iload_n F (q := 5) (dk dX7_mutes 4 rfl) rfl rfl 2 rfl ?_
      refine g_aload_n F (q := 6) (dk dX7_mutes 5 rfl) rfl rfl 0 rfl ?_
      refine g_getf F (q := 9) h233 rfl inX7 (by omega) (j := 0) (by decide) tq_623 rfl rfl (dk dX7_mutes 6 rfl) rfl ?_
      refine g_iconst F (q := 10) (v := 0) (dk dX7_mutes 7 rfl) rfl (by decide) ?_
      refine g_iald F (q := 11) 0 h234 (by omega) rfl (by omega) (by decide) (dk dX7_mutes 8 rfl) rfl ?_
      refine g_sti (y := (nI n)) h0 ?_
      refine g_icmp_ge F (q := 14) (tgt := 29) (dk dX7_mutes 9 rfl) (by decide) rfl (fun c11 => ?_) (fun c11 => ?_)
      · have nc11 : n ≤ i := (nI_leI (a := n) (b := i) (by omega) (by omega)).mp c11
        refine g_iload_n F (q := 30) (dk dX7_mutes 19 rfl) rfl rfl 1 rfl ?_
        refine hret (sumN (fun ee => r (6 + 4 * ee + 1)) i) E _ _ (dk dX7_mutes 20 rfl) (nint _) ?_
        exact ⟨by rw [show n = i by omega], rfl⟩
      · have nc11 : ¬ n ≤ i := fun h => c11 ((nI_leI (a := n) (b := i) (by omega) (by omega)).mpr h)
        refine g_iload_n F (q := 15) (dk dX7_mutes 10 rfl) rfl rfl 1 rfl ?_
        refine g_aload_n F (q := 16) (dk dX7_mutes 11 rfl) rfl rfl 0 rfl ?_
        refine g_iload_n F (q := 17) (dk dX7_mutes 12 rfl) rfl rfl 2 rfl ?_
        refine g_iconst F (q := 18) (v := 1) (dk dX7_mutes 13 rfl) rfl (by decide) ?_
        refine g_callVI F (q := 21) (av := [.int (nI i), .int 1]) (st := [.int (sumN (fun ee => r (6 + 4 * ee + 1)) i)]) (c_X7_of (e := i) (w := 1) h233 h234 (by first | assumption | decide | omega)) kv_X7_of tq_718 h233 rfl (by omega) ⟨rfl, rfl⟩ (by decide) ⟨Nat.le_refl _, Nat.le_refl _⟩ rfl rfl (Nat.le_of_ble_eq_true rfl) (dk dX7_mutes 14 rfl) rfl (fun r18 E18 hp18 => ?_)
        obtain ⟨rfl, rfl⟩ := hp18
        refine g_iadd F (q := 22) (dk dX7_mutes 15 rfl) rfl ?_
        refine g_istore_n F (q := 23) (lv' := [(1, .int ((sumN (fun ee => r (6 + 4 * ee + 1)) i) + (r (6 + 4 * i + 1)))), (0, .ref (ad 233)), (2, .int (nI i))]) (dk dX7_mutes 16 rfl) rfl rfl (Nat.le_of_ble_eq_true rfl) rfl ?_
        refine g_iinc F (q := 26) (v := (nI ((i + 1)))) (lv' := [(2, .int (nI ((i + 1)))), (1, .int ((sumN (fun ee => r (6 + 4 * ee + 1)) i) + (r (6 + 4 * i + 1)))), (0, .ref (ad 233))]) (dk dX7_mutes 17 rfl) rfl 2 rfl (nI_1 _) (Nat.le_of_ble_eq_true rfl) rfl ?_
        refine g_goto F (tgt := 4) (dk dX7_mutes 18 rfl) (by decide) ?_
        refine g_lv (lv' := [(0, .ref (ad 233)), (1, .int ((sumN (fun ee => r (6 + 4 * ee + 1)) i) + (r (6 + 4 * i + 1)))), (2, .int (nI ((i + 1))))]) [2, 1, 0] rfl ?_
        exact ih (i + 1) (by omega) (by omega)
  refine g_lv (lv' := [(0, .ref (ad 233)), (1, .int 0), (2, .int 0)]) [2, 1, 0] rfl ?_
  exact K4 _ 0 (Nat.lt_succ_self _) (by omega)
theorem kv_X7_mutes : KV yX7_mutes "ThumpEarsModel" cX7_mutes 3 (some .int) 0 := ⟨tq_728, tq_14, tq_47, tq_729, by decide +kernel⟩
abbrev rm_X7_outs : Room := { frames := 1, cells := 0, slots := 0, locals := 23 }
set_option maxHeartbeats 4000000 in
set_option maxRecDepth 100000 in
theorem c_X7_outs {l : Launch} {D : va_G} {cA : Nat → ClassId} {ad : Nat → Nat} {E : Nat → va_E} {s0 s1 s2 s3 s4 s5 : Int32} {lo mo : Int64} {r : Nat → Int32} {n : Nat} (h233 : E 233 = .inr (7, [.ref (ad 234), .ref (ad 235), .ref (ad 236), .ref (ad 237), .int s0, .int s1, .ref (ad 238), .int s2, .int s3, .int s4, .int s5, .ref (ad 239), .ref (ad 240), .ref (ad 241), .long lo, .long mo, .ref (ad 242)])) (h234 : E 234 = .inl (cA 0, 346, .inl r))  (h0 : r 1 = nI n) (hn : n ≤ 10) : CtI l D cA yX7_outs cX7_outs 3 .int rm_X7_outs 243 ad E [.ref (ad 233)] (fun x E' => (sumN (fun ee => r (46 + 5 * ee + 4)) n) = x ∧ E = E') := by
  refine CtI.of (by decide +kernel) (Nat.le_of_ble_eq_true rfl) (fun X F hret => ?_)
  have F : Fr "ThumpEarsModel" cX7_outs 3 D cA X := F
  refine (show GG rm_X7_outs 3 l D X 0 0 243 ad E 0 [(0, .ref (ad 233))] [] from ?_)
  refine g_iconst F (q := 1) (v := 0) (dk dX7_outs 0 rfl) rfl (by decide) ?_
  refine g_istore_n F (q := 2) (lv' := [(1, .int 0), (0, .ref (ad 233))]) (dk dX7_outs 1 rfl) rfl rfl (Nat.le_of_ble_eq_true rfl) rfl ?_
  refine g_iconst F (q := 3) (v := 0) (dk dX7_outs 2 rfl) rfl (by decide) ?_
  refine g_istore_n F (q := 4) (lv' := [(2, .int 0), (1, .int 0), (0, .ref (ad 233))]) (dk dX7_outs 3 rfl) rfl rfl (Nat.le_of_ble_eq_true rfl) rfl ?_
  have K4 : ∀ (fu : Nat) (i : Nat), n - i < fu → (hi : i ≤ n) → GG rm_X7_outs 3 l D X 0 0 243 ad E 4 [(0, .ref (ad 233)), (1, .int (sumN (fun ee => r (46 + 5 * ee + 4)) i)), (2, .int (nI i))] [] := by
    intro fu
    induction fu with
    | zero => intro i hfu_; exact absurd hfu_ (Nat.not_lt_zero _)
    | succ fu ih =>
      intro i hfu_ hi
      refine g_iload_n F (q := 5) (dk dX7_outs 4 rfl) rfl rfl 2 rfl ?_
      refine g_aload_n F (q := 6) (dk dX7_outs 5 rfl) rfl rfl 0 rfl ?_
      refine g_getf F (q := 9) h233 rfl inX7 (by omega) (j := 0) (by decide) tq_623 rfl rfl (dk dX7_outs 6 rfl) rfl ?_
      refine g_iconst F (q := 10) (v := 1) (dk dX7_outs 7 rfl) rfl (by decide) ?_
      refine g_iald F (q := 11) 1 h234 (by omega) rfl (by omega) (by decide) (dk dX7_outs 8 rfl) rfl ?_
      refine g_sti (y := (nI n)) h0 ?_
      refine g_icmp_ge F (q := 14) (tgt := 30) (dk dX7_outs 9 rfl) (by decide) rfl (fun c11 => ?_) (fun c11 => ?_)
      · have nc11 : n ≤ i := (nI_leI (a := n) (b := i) (by omega) (by omega)).mp c11
        refine g_iload_n F (q := 31) (dk dX7_outs 20 rfl) rfl rfl 1 rfl ?_
        refine hret (sumN (fun ee => r (46 + 5 * ee + 4)) i) E _ _ (dk dX7_outs 21 rfl) (nint _) ?_
        exact ⟨by rw [show n = i by omega], rfl⟩
      · have nc11 : ¬ n ≤ i := fun h => c11 ((nI_leI (a := n) (b := i) (by omega) (by omega)).mpr h)
        refine g_iload_n F (q := 15) (dk dX7_outs 10 rfl) rfl rfl 1 rfl ?_
        refine g_aload_n F (q := 16) (dk dX7_outs 11 rfl) rfl rfl 0 rfl ?_
        refine g_iconst F (q := 17) (v := 0) (dk dX7_outs 12 rfl) rfl (by decide) ?_
        refine g_iload_n F (q := 18) (dk dX7_outs 13 rfl) rfl rfl 2 rfl ?_
        refine g_iconst F (q := 19) (v := 4) (dk dX7_outs 14 rfl) rfl (by decide) ?_
        refine g_callVI F (q := 22) (av := [.int 0, .int (nI i), .int 4]) (st := [.int (sumN (fun ee => r (46 + 5 * ee + 4)) i)]) (c_X7_come (k := 0) (m := i) (w := 4) h233 h234 (by first | assumption | decide | omega)) kv_X7_come tq_770 h233 rfl (by omega) ⟨rfl, rfl⟩ (by decide) ⟨Nat.le_refl _, Nat.le_refl _⟩ rfl rfl (Nat.le_of_ble_eq_true rfl) (dk dX7_outs 15 rfl) rfl (fun r19 E19 hp19 => ?_)
        obtain ⟨rfl, rfl⟩ := hp19
        refine g_iadd F (q := 23) (dk dX7_outs 16 rfl) rfl ?_
        refine g_istore_n F (q := 24) (lv' := [(1, .int ((sumN (fun ee => r (46 + 5 * ee + 4)) i) + (r (46 + 50 * 0 + 5 * i + 4)))), (0, .ref (ad 233)), (2, .int (nI i))]) (dk dX7_outs 17 rfl) rfl rfl (Nat.le_of_ble_eq_true rfl) rfl ?_
        refine g_iinc F (q := 27) (v := (nI ((i + 1)))) (lv' := [(2, .int (nI ((i + 1)))), (1, .int ((sumN (fun ee => r (46 + 5 * ee + 4)) i) + (r (46 + 50 * 0 + 5 * i + 4)))), (0, .ref (ad 233))]) (dk dX7_outs 18 rfl) rfl 2 rfl (nI_1 _) (Nat.le_of_ble_eq_true rfl) rfl ?_
        refine g_goto F (tgt := 4) (dk dX7_outs 19 rfl) (by decide) ?_
        refine g_lv (lv' := [(0, .ref (ad 233)), (1, .int ((sumN (fun ee => r (46 + 5 * ee + 4)) i) + (r (46 + 50 * 0 + 5 * i + 4)))), (2, .int (nI ((i + 1))))]) [2, 1, 0] rfl ?_
        exact ih (i + 1) (by omega) (by omega)
  refine g_lv (lv' := [(0, .ref (ad 233)), (1, .int 0), (2, .int 0)]) [2, 1, 0] rfl ?_
  exact K4 _ 0 (Nat.lt_succ_self _) (by omega)
theorem kv_X7_outs : KV yX7_outs "ThumpEarsModel" cX7_outs 3 (some .int) 0 := ⟨tq_776, tq_20, tq_47, tq_777, by decide +kernel⟩
abbrev rm_X7_mute : Room := { frames := 2, cells := 0, slots := 0, locals := 44 }
set_option maxHeartbeats 4000000 in
set_option maxRecDepth 100000 in
theorem c_X7_mute {l : Launch} {D : va_G} {cA : Nat → ClassId} {ad : Nat → Nat} {E : Nat → va_E} {nh : Nat} {s1 s2 s3 s4 s5 : Int32} {lo mo : Int64} {r past bef : Nat → Int32} {ne : Nat} {ear b : Int32} (h233 : E 233 = .inr (7, [.ref (ad 234), .ref (ad 235), .ref (ad 236), .ref (ad 237), .int (nI nh), .int s1, .ref (ad 238), .int s2, .int s3, .int s4, .int s5, .ref (ad 239), .ref (ad 240), .ref (ad 241), .long lo, .long mo, .ref (ad 242)])) (h234 : E 234 = .inl (cA 0, 346, .inl r)) (h235 : E 235 = .inl (cA 0, 1384, .inl past)) (h237 : E 237 = .inl (cA 0, 346, .inl bef))  (hnh : nh ≤ 4) (h0 : r 0 = nI ne) (hne : ne ≤ 10) : CtI l D cA yX7_mute cX7_mute 4 .int rm_X7_mute 243 ad E [.ref (ad 233), .int ear, .int b] (fun x E' => ∃ (f : Nat → Int32) (q : Nat → Int32) (g : Nat → Int32) (n2 : Nat), (sMute r ne ear b).1 = x ∧ E' 233 = .inr (7, [.ref (ad 234), .ref (ad 235), .ref (ad 236), .ref (ad 237), .int (nI n2), .int s1, .ref (ad 238), .int s2, .int s3, .int s4, .int s5, .ref (ad 239), .ref (ad 240), .ref (ad 241), .long lo, .long mo, .ref (ad 242)]) ∧ E' 234 = .inl (cA 0, 346, .inl f) ∧ E' 235 = .inl (cA 0, 1384, .inl q) ∧ E' 237 = .inl (cA 0, 346, .inl g) ∧ (NX ((sMute r ne ear b).2) r past nh f q n2) ∧ ∀ j, (j ≠ 233 ∧ j ≠ 234 ∧ j ≠ 235 ∧ j ≠ 237) → E' j = E j) := by
  refine CtI.of (by decide +kernel) (Nat.le_of_ble_eq_true rfl) (fun X F hret => ?_)
  have F : Fr "ThumpEarsModel" cX7_mute 4 D cA X := F
  refine (show GG rm_X7_mute 4 l D X 0 0 243 ad E 0 [(0, .ref (ad 233)), (1, .int ear), (2, .int b)] [] from ?_)
  refine g_aload_n F (q := 1) (dk dX7_mute 0 rfl) rfl rfl 0 rfl ?_
  refine g_iload_n F (q := 2) (dk dX7_mute 1 rfl) rfl rfl 1 rfl ?_
  refine g_callVI F (q := 5) (av := [.int ear]) (st := []) (c_X7_noEar (ear := ear) h233 h234 (by first | assumption | decide | omega) (by first | assumption | decide | omega)) kv_X7_noEar tq_714 h233 rfl (by omega) ⟨rfl, rfl⟩ (by decide) ⟨Nat.le_refl _, Nat.le_refl _⟩ rfl rfl (Nat.le_of_ble_eq_true rfl) (dk dX7_mute 2 rfl) rfl (fun r2 E2 hp2 => ?_)
  rcases hp2 with ⟨rfl, rfl, b2⟩ | ⟨rfl, rfl, b2⟩
  · refine g_if_eq F (q := 8) (tgt := 10) (dk dX7_mute 3 rfl) (by decide) rfl (fun h => absurd h (by decide)) (fun _ => ?_)
    refine g_iconst F (q := 9) (v := (-1)) (dk dX7_mute 4 rfl) rfl (by decide) ?_
    have hs : sMute r ne ear b = (-1, none) := if_pos b2
    refine hret (-1) E _ _ (dk dX7_mute 5 rfl) (nint _) ?_
    exact ⟨r, past, bef, nh, (by rw [hs]), h233, h234, h235, h237, (by rw [hs]; exact NX.nil), (fun j _ => rfl)⟩
  · obtain ⟨e, he, rfl⟩ := b2
    refine g_if_eq F (q := 8) (tgt := 10) (dk dX7_mute 3 rfl) (by decide) rfl (fun _ => ?_) (fun h => absurd h (by decide))
    refine g_iload_n F (q := 11) (dk dX7_mute 6 rfl) rfl rfl 2 rfl ?_
    refine g_if_eq F (q := 14) (tgt := 18) (dk dX7_mute 7 rfl) (by decide) rfl (fun c11 => ?_) (fun c11 => ?_)
    · refine g_iconst F (q := 19) (v := 0) (dk dX7_mute 10 rfl) rfl (by decide) ?_
      refine g_istore_n F (q := 20) (lv' := [(3, .int 0), (0, .ref (ad 233)), (1, .int (nI e)), (2, .int b)]) (dk dX7_mute 11 rfl) rfl rfl (Nat.le_of_ble_eq_true rfl) rfl ?_
      refine g_aload_n F (q := 21) (dk dX7_mute 12 rfl) rfl rfl 1 rfl ?_
      refine g_iload_n F (q := 22) (dk dX7_mute 13 rfl) rfl rfl 2 rfl ?_
      refine g_iconst F (q := 23) (v := 1) (dk dX7_mute 14 rfl) rfl (by decide) ?_
      refine g_callVI F (q := 26) (av := [.int (nI e), .int 1]) (st := []) (c_X7_of (e := e) (w := 1) h233 h234 (by first | assumption | decide | omega)) kv_X7_of tq_718 h233 rfl (by omega) ⟨rfl, rfl⟩ (by decide) ⟨Nat.le_refl _, Nat.le_refl _⟩ rfl rfl (Nat.le_of_ble_eq_true rfl) (dk dX7_mute 15 rfl) rfl (fun r23 E23 hp23 => ?_)
      obtain ⟨rfl, rfl⟩ := hp23
      refine g_iload_n F (q := 27) (dk dX7_mute 16 rfl) rfl rfl 0 rfl ?_
      refine g_icmp_ne F (q := 30) (tgt := 33) (dk dX7_mute 17 rfl) (by decide) rfl (fun c27 => ?_) (fun c27 => ?_)
      · refine g_aload_n F (q := 34) (dk dX7_mute 20 rfl) rfl rfl 1 rfl ?_
        refine g_callVV F (q := 37) (av := []) (st := []) (c_X7_open h233 h234 h235 h237 (by first | assumption | decide | omega)) kv_X7_open tq_691 h233 rfl (by omega) ⟨rfl, rfl⟩ (by decide) ⟨Nat.le_refl _, Nat.le_refl _⟩ rfl rfl (Nat.le_of_ble_eq_true rfl) (dk dX7_mute 21 rfl) rfl (fun E34 hp34 => ?_)
        obtain ⟨q_34, g_34, hK233_34, hK235_34, hK237_34, hp_34, hF34⟩ := hp34
        refine g_aload_n F (q := 38) (dk dX7_mute 22 rfl) rfl rfl 1 rfl ?_
        refine g_getf F (q := 41) hK233_34 rfl inX7 (by omega) (j := 0) (by decide) tq_623 rfl rfl (dk dX7_mute 23 rfl) rfl ?_
        refine g_bipush F (q := 43) (v := 6) (dk dX7_mute 24 rfl) rfl (by decide) ?_
        refine g_iconst F (q := 44) (v := 4) (dk dX7_mute 25 rfl) rfl (by decide) ?_
        refine g_iload_n F (q := 45) (dk dX7_mute 26 rfl) rfl rfl 2 rfl ?_
        refine g_imul F (q := 46) (dk dX7_mute 27 rfl) rfl ?_
        refine g_iadd F (q := 47) (dk dX7_mute 28 rfl) rfl ?_
        refine g_iconst F (q := 48) (v := 1) (dk dX7_mute 29 rfl) rfl (by decide) ?_
        refine g_iadd F (q := 49) (dk dX7_mute 30 rfl) rfl ?_
        refine g_iload_n F (q := 50) (dk dX7_mute 31 rfl) rfl rfl 0 rfl ?_
        have hc1 := (hF34 234 (by omega)).trans h234
        refine g_iast F (q := 51) (((6 + (4 * e)) + 1)) hc1 (by omega) (nA (nA rfl (nM rfl rfl)) rfl) (by omega) (by decide) (dk dX7_mute 32 rfl) rfl (fun E50 hE50 hO50 => ?_)
        refine g_aload_n F (q := 52) (dk dX7_mute 33 rfl) rfl rfl 1 rfl ?_
        have hc2 := (hO50 233 (by omega)).trans hK233_34
        refine g_callVI F (q := 55) (av := []) (st := []) (c_X7_mutes hc2 hE50 (by rw [upd_n (by omega)]; exact h0) (by first | assumption | decide | omega)) kv_X7_mutes tq_726 hc2 rfl (by omega) ⟨rfl, rfl⟩ (by decide) ⟨Nat.le_refl _, Nat.le_refl _⟩ rfl rfl (Nat.le_of_ble_eq_true rfl) (dk dX7_mute 34 rfl) rfl (fun r52 E52 hp52 => ?_)
        obtain ⟨rfl, rfl⟩ := hp52
        have hs : sMute r ne (nI e) b = ((sumN (fun ee => (upd r (((6 + (4 * e)) + 1)) 0) (6 + 4 * ee + 1)) ne), some (upd r (((6 + (4 * e)) + 1)) 0)) := by unfold sMute; rw [if_neg (ixN he (by omega)), nI_c (by omega), show flg b = 0 from if_pos c11, if_neg c27]
        have hc3 := (hO50 235 (by omega)).trans hK235_34
        have hc4 := (hO50 237 (by omega)).trans hK237_34
        refine hret (sumN (fun ee => (upd r (((6 + (4 * e)) + 1)) 0) (6 + 4 * ee + 1)) ne) E50 _ _ (dk dX7_mute 35 rfl) (nint _) ?_
        exact ⟨(upd r (((6 + (4 * e)) + 1)) 0), q_34, g_34, (nup nh), (by rw [hs]), hc2, hE50, hc3, hc4, (by rw [hs]; exact ⟨rfl, eqN.rf, hp_34⟩), (fun j hj => ((hO50 j (by omega)).trans (hF34 j (by omega))))⟩
      · refine g_bipush F (q := 32) (v := (-5)) (dk dX7_mute 18 rfl) rfl (by decide) ?_
        have hs : sMute r ne (nI e) b = (-5, none) := by unfold sMute; rw [if_neg (ixN he (by omega)), nI_c (by omega), show flg b = 0 from if_pos c11, if_pos c27]
        refine hret (-5) E _ _ (dk dX7_mute 19 rfl) (nint _) ?_
        exact ⟨r, past, bef, nh, (by rw [hs]), h233, h234, h235, h237, (by rw [hs]; exact NX.nil), (fun j _ => rfl)⟩
    · refine g_iconst F (q := 15) (v := 1) (dk dX7_mute 8 rfl) rfl (by decide) ?_
      refine g_goto F (tgt := 19) (dk dX7_mute 9 rfl) (by decide) ?_
      refine g_istore_n F (q := 20) (lv' := [(3, .int 1), (0, .ref (ad 233)), (1, .int (nI e)), (2, .int b)]) (dk dX7_mute 11 rfl) rfl rfl (Nat.le_of_ble_eq_true rfl) rfl ?_
      refine g_aload_n F (q := 21) (dk dX7_mute 12 rfl) rfl rfl 1 rfl ?_
      refine g_iload_n F (q := 22) (dk dX7_mute 13 rfl) rfl rfl 2 rfl ?_
      refine g_iconst F (q := 23) (v := 1) (dk dX7_mute 14 rfl) rfl (by decide) ?_
      refine g_callVI F (q := 26) (av := [.int (nI e), .int 1]) (st := []) (c_X7_of (e := e) (w := 1) h233 h234 (by first | assumption | decide | omega)) kv_X7_of tq_718 h233 rfl (by omega) ⟨rfl, rfl⟩ (by decide) ⟨Nat.le_refl _, Nat.le_refl _⟩ rfl rfl (Nat.le_of_ble_eq_true rfl) (dk dX7_mute 15 rfl) rfl (fun r23 E23 hp23 => ?_)
      obtain ⟨rfl, rfl⟩ := hp23
      refine g_iload_n F (q := 27) (dk dX7_mute 16 rfl) rfl rfl 0 rfl ?_
      refine g_icmp_ne F (q := 30) (tgt := 33) (dk dX7_mute 17 rfl) (by decide) rfl (fun c27 => ?_) (fun c27 => ?_)
      · refine g_aload_n F (q := 34) (dk dX7_mute 20 rfl) rfl rfl 1 rfl ?_
        refine g_callVV F (q := 37) (av := []) (st := []) (c_X7_open h233 h234 h235 h237 (by first | assumption | decide | omega)) kv_X7_open tq_691 h233 rfl (by omega) ⟨rfl, rfl⟩ (by decide) ⟨Nat.le_refl _, Nat.le_refl _⟩ rfl rfl (Nat.le_of_ble_eq_true rfl) (dk dX7_mute 21 rfl) rfl (fun E34 hp34 => ?_)
        obtain ⟨q_34, g_34, hK233_34, hK235_34, hK237_34, hp_34, hF34⟩ := hp34
        refine g_aload_n F (q := 38) (dk dX7_mute 22 rfl) rfl rfl 1 rfl ?_
        refine g_getf F (q := 41) hK233_34 rfl inX7 (by omega) (j := 0) (by decide) tq_623 rfl rfl (dk dX7_mute 23 rfl) rfl ?_
        refine g_bipush F (q := 43) (v := 6) (dk dX7_mute 24 rfl) rfl (by decide) ?_
        refine g_iconst F (q := 44) (v := 4) (dk dX7_mute 25 rfl) rfl (by decide) ?_
        refine g_iload_n F (q := 45) (dk dX7_mute 26 rfl) rfl rfl 2 rfl ?_
        refine g_imul F (q := 46) (dk dX7_mute 27 rfl) rfl ?_
        refine g_iadd F (q := 47) (dk dX7_mute 28 rfl) rfl ?_
        refine g_iconst F (q := 48) (v := 1) (dk dX7_mute 29 rfl) rfl (by decide) ?_
        refine g_iadd F (q := 49) (dk dX7_mute 30 rfl) rfl ?_
        refine g_iload_n F (q := 50) (dk dX7_mute 31 rfl) rfl rfl 0 rfl ?_
        have hc5 := (hF34 234 (by omega)).trans h234
        refine g_iast F (q := 51) (((6 + (4 * e)) + 1)) hc5 (by omega) (nA (nA rfl (nM rfl rfl)) rfl) (by omega) (by decide) (dk dX7_mute 32 rfl) rfl (fun E50 hE50 hO50 => ?_)
        refine g_aload_n F (q := 52) (dk dX7_mute 33 rfl) rfl rfl 1 rfl ?_
        have hc6 := (hO50 233 (by omega)).trans hK233_34
        refine g_callVI F (q := 55) (av := []) (st := []) (c_X7_mutes hc6 hE50 (by rw [upd_n (by omega)]; exact h0) (by first | assumption | decide | omega)) kv_X7_mutes tq_726 hc6 rfl (by omega) ⟨rfl, rfl⟩ (by decide) ⟨Nat.le_refl _, Nat.le_refl _⟩ rfl rfl (Nat.le_of_ble_eq_true rfl) (dk dX7_mute 34 rfl) rfl (fun r52 E52 hp52 => ?_)
        obtain ⟨rfl, rfl⟩ := hp52
        have hs : sMute r ne (nI e) b = ((sumN (fun ee => (upd r (((6 + (4 * e)) + 1)) 1) (6 + 4 * ee + 1)) ne), some (upd r (((6 + (4 * e)) + 1)) 1)) := by unfold sMute; rw [if_neg (ixN he (by omega)), nI_c (by omega), show flg b = 1 from if_neg c11, if_neg c27]
        have hc7 := (hO50 235 (by omega)).trans hK235_34
        have hc8 := (hO50 237 (by omega)).trans hK237_34
        refine hret (sumN (fun ee => (upd r (((6 + (4 * e)) + 1)) 1) (6 + 4 * ee + 1)) ne) E50 _ _ (dk dX7_mute 35 rfl) (nint _) ?_
        exact ⟨(upd r (((6 + (4 * e)) + 1)) 1), q_34, g_34, (nup nh), (by rw [hs]), hc6, hE50, hc7, hc8, (by rw [hs]; exact ⟨rfl, eqN.rf, hp_34⟩), (fun j hj => ((hO50 j (by omega)).trans (hF34 j (by omega))))⟩
      · refine g_bipush F (q := 32) (v := (-5)) (dk dX7_mute 18 rfl) rfl (by decide) ?_
        have hs : sMute r ne (nI e) b = (-5, none) := by unfold sMute; rw [if_neg (ixN he (by omega)), nI_c (by omega), show flg b = 1 from if_neg c11, if_pos c27]
        refine hret (-5) E _ _ (dk dX7_mute 19 rfl) (nint _) ?_
        exact ⟨r, past, bef, nh, (by rw [hs]), h233, h234, h235, h237, (by rw [hs]; exact NX.nil), (fun j _ => rfl)⟩
theorem kv_X7_mute : KV yX7_mute "ThumpEarsModel" cX7_mute 4 (some .int) 2 := ⟨tq_723, tq_724, tq_47, tq_725, by decide +kernel⟩
abbrev rm_X7_leaveOut : Room := { frames := 2, cells := 0, slots := 0, locals := 45 }
set_option maxHeartbeats 4000000 in
set_option maxRecDepth 100000 in
theorem c_X7_leaveOut {l : Launch} {D : va_G} {cA : Nat → ClassId} {ad : Nat → Nat} {E : Nat → va_E} {nh : Nat} {s1 s2 s3 s4 s5 : Int32} {lo mo : Int64} {r past bef : Nat → Int32} {nt : Nat} {th b : Int32} (h233 : E 233 = .inr (7, [.ref (ad 234), .ref (ad 235), .ref (ad 236), .ref (ad 237), .int (nI nh), .int s1, .ref (ad 238), .int s2, .int s3, .int s4, .int s5, .ref (ad 239), .ref (ad 240), .ref (ad 241), .long lo, .long mo, .ref (ad 242)])) (h234 : E 234 = .inl (cA 0, 346, .inl r)) (h235 : E 235 = .inl (cA 0, 1384, .inl past)) (h237 : E 237 = .inl (cA 0, 346, .inl bef))  (hnh : nh ≤ 4) (h0 : r 1 = nI nt) (hnt : nt ≤ 10) : CtI l D cA yX7_leaveOut cX7_leaveOut 4 .int rm_X7_leaveOut 243 ad E [.ref (ad 233), .int th, .int b] (fun x E' => ∃ (f : Nat → Int32) (q : Nat → Int32) (g : Nat → Int32) (n2 : Nat), (sLeave r nt th b).1 = x ∧ E' 233 = .inr (7, [.ref (ad 234), .ref (ad 235), .ref (ad 236), .ref (ad 237), .int (nI n2), .int s1, .ref (ad 238), .int s2, .int s3, .int s4, .int s5, .ref (ad 239), .ref (ad 240), .ref (ad 241), .long lo, .long mo, .ref (ad 242)]) ∧ E' 234 = .inl (cA 0, 346, .inl f) ∧ E' 235 = .inl (cA 0, 1384, .inl q) ∧ E' 237 = .inl (cA 0, 346, .inl g) ∧ (NX ((sLeave r nt th b).2) r past nh f q n2) ∧ ∀ j, (j ≠ 233 ∧ j ≠ 234 ∧ j ≠ 235 ∧ j ≠ 237) → E' j = E j) := by
  refine CtI.of (by decide +kernel) (Nat.le_of_ble_eq_true rfl) (fun X F hret => ?_)
  have F : Fr "ThumpEarsModel" cX7_leaveOut 4 D cA X := F
  refine (show GG rm_X7_leaveOut 4 l D X 0 0 243 ad E 0 [(0, .ref (ad 233)), (1, .int th), (2, .int b)] [] from ?_)
  refine g_aload_n F (q := 1) (dk dX7_leaveOut 0 rfl) rfl rfl 0 rfl ?_
  refine g_iconst F (q := 2) (v := 0) (dk dX7_leaveOut 1 rfl) rfl (by decide) ?_
  refine g_iload_n F (q := 3) (dk dX7_leaveOut 2 rfl) rfl rfl 1 rfl ?_
  refine g_callVI F (q := 6) (av := [.int 0, .int th]) (st := []) (c_X7_none (k := 0) (a := th) h233 h234 (by first | assumption | decide | omega) (by first | assumption | decide | omega) (by first | assumption | decide | omega)) kv_X7_none tq_766 h233 rfl (by omega) ⟨rfl, rfl⟩ (by decide) ⟨Nat.le_refl _, Nat.le_refl _⟩ rfl rfl (Nat.le_of_ble_eq_true rfl) (dk dX7_leaveOut 3 rfl) rfl (fun r3 E3 hp3 => ?_)
  rcases hp3 with ⟨rfl, rfl, b3⟩ | ⟨rfl, rfl, b3⟩
  · refine g_if_eq F (q := 9) (tgt := 11) (dk dX7_leaveOut 4 rfl) (by decide) rfl (fun h => absurd h (by decide)) (fun _ => ?_)
    refine g_iconst F (q := 10) (v := (-1)) (dk dX7_leaveOut 5 rfl) rfl (by decide) ?_
    have hs : sLeave r nt th b = (-1, none) := if_pos b3
    refine hret (-1) E _ _ (dk dX7_leaveOut 6 rfl) (nint _) ?_
    exact ⟨r, past, bef, nh, (by rw [hs]), h233, h234, h235, h237, (by rw [hs]; exact NX.nil), (fun j _ => rfl)⟩
  · obtain ⟨e, he, rfl⟩ := b3
    refine g_if_eq F (q := 9) (tgt := 11) (dk dX7_leaveOut 4 rfl) (by decide) rfl (fun _ => ?_) (fun h => absurd h (by decide))
    refine g_iload_n F (q := 12) (dk dX7_leaveOut 7 rfl) rfl rfl 2 rfl ?_
    refine g_if_eq F (q := 15) (tgt := 19) (dk dX7_leaveOut 8 rfl) (by decide) rfl (fun c12 => ?_) (fun c12 => ?_)
    · refine g_iconst F (q := 20) (v := 0) (dk dX7_leaveOut 11 rfl) rfl (by decide) ?_
      refine g_istore_n F (q := 21) (lv' := [(3, .int 0), (0, .ref (ad 233)), (1, .int (nI e)), (2, .int b)]) (dk dX7_leaveOut 12 rfl) rfl rfl (Nat.le_of_ble_eq_true rfl) rfl ?_
      refine g_aload_n F (q := 22) (dk dX7_leaveOut 13 rfl) rfl rfl 1 rfl ?_
      refine g_iconst F (q := 23) (v := 0) (dk dX7_leaveOut 14 rfl) rfl (by decide) ?_
      refine g_iload_n F (q := 24) (dk dX7_leaveOut 15 rfl) rfl rfl 2 rfl ?_
      refine g_iconst F (q := 25) (v := 4) (dk dX7_leaveOut 16 rfl) rfl (by decide) ?_
      refine g_callVI F (q := 28) (av := [.int 0, .int (nI e), .int 4]) (st := []) (c_X7_come (k := 0) (m := e) (w := 4) h233 h234 (by first | assumption | decide | omega)) kv_X7_come tq_770 h233 rfl (by omega) ⟨rfl, rfl⟩ (by decide) ⟨Nat.le_refl _, Nat.le_refl _⟩ rfl rfl (Nat.le_of_ble_eq_true rfl) (dk dX7_leaveOut 17 rfl) rfl (fun r25 E25 hp25 => ?_)
      obtain ⟨rfl, rfl⟩ := hp25
      refine g_iload_n F (q := 29) (dk dX7_leaveOut 18 rfl) rfl rfl 0 rfl ?_
      refine g_icmp_ne F (q := 32) (tgt := 35) (dk dX7_leaveOut 19 rfl) (by decide) rfl (fun c29 => ?_) (fun c29 => ?_)
      · refine g_aload_n F (q := 36) (dk dX7_leaveOut 22 rfl) rfl rfl 1 rfl ?_
        refine g_callVV F (q := 39) (av := []) (st := []) (c_X7_open h233 h234 h235 h237 (by first | assumption | decide | omega)) kv_X7_open tq_691 h233 rfl (by omega) ⟨rfl, rfl⟩ (by decide) ⟨Nat.le_refl _, Nat.le_refl _⟩ rfl rfl (Nat.le_of_ble_eq_true rfl) (dk dX7_leaveOut 23 rfl) rfl (fun E36 hp36 => ?_)
        obtain ⟨q_36, g_36, hK233_36, hK235_36, hK237_36, hp_36, hF36⟩ := hp36
        refine g_aload_n F (q := 40) (dk dX7_leaveOut 24 rfl) rfl rfl 1 rfl ?_
        refine g_getf F (q := 43) hK233_36 rfl inX7 (by omega) (j := 0) (by decide) tq_623 rfl rfl (dk dX7_leaveOut 25 rfl) rfl ?_
        refine g_bipush F (q := 45) (v := 46) (dk dX7_leaveOut 26 rfl) rfl (by decide) ?_
        refine g_iconst F (q := 46) (v := 5) (dk dX7_leaveOut 27 rfl) rfl (by decide) ?_
        refine g_iload_n F (q := 47) (dk dX7_leaveOut 28 rfl) rfl rfl 2 rfl ?_
        refine g_imul F (q := 48) (dk dX7_leaveOut 29 rfl) rfl ?_
        refine g_iadd F (q := 49) (dk dX7_leaveOut 30 rfl) rfl ?_
        refine g_iconst F (q := 50) (v := 4) (dk dX7_leaveOut 31 rfl) rfl (by decide) ?_
        refine g_iadd F (q := 51) (dk dX7_leaveOut 32 rfl) rfl ?_
        refine g_iload_n F (q := 52) (dk dX7_leaveOut 33 rfl) rfl rfl 0 rfl ?_
        have hc1 := (hF36 234 (by omega)).trans h234
        refine g_iast F (q := 53) (((46 + (5 * e)) + 4)) hc1 (by omega) (nA (nA rfl (nM rfl rfl)) rfl) (by omega) (by decide) (dk dX7_leaveOut 34 rfl) rfl (fun E52 hE52 hO52 => ?_)
        refine g_aload_n F (q := 54) (dk dX7_leaveOut 35 rfl) rfl rfl 1 rfl ?_
        have hc2 := (hO52 233 (by omega)).trans hK233_36
        refine g_callVI F (q := 57) (av := []) (st := []) (c_X7_outs hc2 hE52 (by rw [upd_n (by omega)]; exact h0) (by first | assumption | decide | omega)) kv_X7_outs tq_774 hc2 rfl (by omega) ⟨rfl, rfl⟩ (by decide) ⟨Nat.le_refl _, Nat.le_refl _⟩ rfl rfl (Nat.le_of_ble_eq_true rfl) (dk dX7_leaveOut 36 rfl) rfl (fun r54 E54 hp54 => ?_)
        obtain ⟨rfl, rfl⟩ := hp54
        have hs : sLeave r nt (nI e) b = ((sumN (fun ee => (upd r (((46 + (5 * e)) + 4)) 0) (46 + 5 * ee + 4)) nt), some (upd r (((46 + (5 * e)) + 4)) 0)) := by unfold sLeave; rw [if_neg (ixN he (by omega)), nI_c (by omega), show flg b = 0 from if_pos c12, if_neg c29]
        have hc3 := (hO52 235 (by omega)).trans hK235_36
        have hc4 := (hO52 237 (by omega)).trans hK237_36
        refine hret (sumN (fun ee => (upd r (((46 + (5 * e)) + 4)) 0) (46 + 5 * ee + 4)) nt) E52 _ _ (dk dX7_leaveOut 37 rfl) (nint _) ?_
        exact ⟨(upd r (((46 + (5 * e)) + 4)) 0), q_36, g_36, (nup nh), (by rw [hs]), hc2, hE52, hc3, hc4, (by rw [hs]; exact ⟨rfl, eqN.rf, hp_36⟩), (fun j hj => ((hO52 j (by omega)).trans (hF36 j (by omega))))⟩
      · refine g_bipush F (q := 34) (v := (-5)) (dk dX7_leaveOut 20 rfl) rfl (by decide) ?_
        have hs : sLeave r nt (nI e) b = (-5, none) := by unfold sLeave; rw [if_neg (ixN he (by omega)), nI_c (by omega), show flg b = 0 from if_pos c12, if_pos c29]
        refine hret (-5) E _ _ (dk dX7_leaveOut 21 rfl) (nint _) ?_
        exact ⟨r, past, bef, nh, (by rw [hs]), h233, h234, h235, h237, (by rw [hs]; exact NX.nil), (fun j _ => rfl)⟩
    · refine g_iconst F (q := 16) (v := 1) (dk dX7_leaveOut 9 rfl) rfl (by decide) ?_
      refine g_goto F (tgt := 20) (dk dX7_leaveOut 10 rfl) (by decide) ?_
      refine g_istore_n F (q := 21) (lv' := [(3, .int 1), (0, .ref (ad 233)), (1, .int (nI e)), (2, .int b)]) (dk dX7_leaveOut 12 rfl) rfl rfl (Nat.le_of_ble_eq_true rfl) rfl ?_
      refine g_aload_n F (q := 22) (dk dX7_leaveOut 13 rfl) rfl rfl 1 rfl ?_
      refine g_iconst F (q := 23) (v := 0) (dk dX7_leaveOut 14 rfl) rfl (by decide) ?_
      refine g_iload_n F (q := 24) (dk dX7_leaveOut 15 rfl) rfl rfl 2 rfl ?_
      refine g_iconst F (q := 25) (v := 4) (dk dX7_leaveOut 16 rfl) rfl (by decide) ?_
      refine g_callVI F (q := 28) (av := [.int 0, .int (nI e), .int 4]) (st := []) (c_X7_come (k := 0) (m := e) (w := 4) h233 h234 (by first | assumption | decide | omega)) kv_X7_come tq_770 h233 rfl (by omega) ⟨rfl, rfl⟩ (by decide) ⟨Nat.le_refl _, Nat.le_refl _⟩ rfl rfl (Nat.le_of_ble_eq_true rfl) (dk dX7_leaveOut 17 rfl) rfl (fun r25 E25 hp25 => ?_)
      obtain ⟨rfl, rfl⟩ := hp25
      refine g_iload_n F (q := 29) (dk dX7_leaveOut 18 rfl) rfl rfl 0 rfl ?_
      refine g_icmp_ne F (q := 32) (tgt := 35) (dk dX7_leaveOut 19 rfl) (by decide) rfl (fun c29 => ?_) (fun c29 => ?_)
      · refine g_aload_n F (q := 36) (dk dX7_leaveOut 22 rfl) rfl rfl 1 rfl ?_
        refine g_callVV F (q := 39) (av := []) (st := []) (c_X7_open h233 h234 h235 h237 (by first | assumption | decide | omega)) kv_X7_open tq_691 h233 rfl (by omega) ⟨rfl, rfl⟩ (by decide) ⟨Nat.le_refl _, Nat.le_refl _⟩ rfl rfl (Nat.le_of_ble_eq_true rfl) (dk dX7_leaveOut 23 rfl) rfl (fun E36 hp36 => ?_)
        obtain ⟨q_36, g_36, hK233_36, hK235_36, hK237_36, hp_36, hF36⟩ := hp36
        refine g_aload_n F (q := 40) (dk dX7_leaveOut 24 rfl) rfl rfl 1 rfl ?_
        refine g_getf F (q := 43) hK233_36 rfl inX7 (by omega) (j := 0) (by decide) tq_623 rfl rfl (dk dX7_leaveOut 25 rfl) rfl ?_
        refine g_bipush F (q := 45) (v := 46) (dk dX7_leaveOut 26 rfl) rfl (by decide) ?_
        refine g_iconst F (q := 46) (v := 5) (dk dX7_leaveOut 27 rfl) rfl (by decide) ?_
        refine g_iload_n F (q := 47) (dk dX7_leaveOut 28 rfl) rfl rfl 2 rfl ?_
        refine g_imul F (q := 48) (dk dX7_leaveOut 29 rfl) rfl ?_
        refine g_iadd F (q := 49) (dk dX7_leaveOut 30 rfl) rfl ?_
        refine g_iconst F (q := 50) (v := 4) (dk dX7_leaveOut 31 rfl) rfl (by decide) ?_
        refine g_iadd F (q := 51) (dk dX7_leaveOut 32 rfl) rfl ?_
        refine g_iload_n F (q := 52) (dk dX7_leaveOut 33 rfl) rfl rfl 0 rfl ?_
        have hc5 := (hF36 234 (by omega)).trans h234
        refine g_iast F (q := 53) (((46 + (5 * e)) + 4)) hc5 (by omega) (nA (nA rfl (nM rfl rfl)) rfl) (by omega) (by decide) (dk dX7_leaveOut 34 rfl) rfl (fun E52 hE52 hO52 => ?_)
        refine g_aload_n F (q := 54) (dk dX7_leaveOut 35 rfl) rfl rfl 1 rfl ?_
        have hc6 := (hO52 233 (by omega)).trans hK233_36
        refine g_callVI F (q := 57) (av := []) (st := []) (c_X7_outs hc6 hE52 (by rw [upd_n (by omega)]; exact h0) (by first | assumption | decide | omega)) kv_X7_outs tq_774 hc6 rfl (by omega) ⟨rfl, rfl⟩ (by decide) ⟨Nat.le_refl _, Nat.le_refl _⟩ rfl rfl (Nat.le_of_ble_eq_true rfl) (dk dX7_leaveOut 36 rfl) rfl (fun r54 E54 hp54 => ?_)
        obtain ⟨rfl, rfl⟩ := hp54
        have hs : sLeave r nt (nI e) b = ((sumN (fun ee => (upd r (((46 + (5 * e)) + 4)) 1) (46 + 5 * ee + 4)) nt), some (upd r (((46 + (5 * e)) + 4)) 1)) := by unfold sLeave; rw [if_neg (ixN he (by omega)), nI_c (by omega), show flg b = 1 from if_neg c12, if_neg c29]
        have hc7 := (hO52 235 (by omega)).trans hK235_36
        have hc8 := (hO52 237 (by omega)).trans hK237_36
        refine hret (sumN (fun ee => (upd r (((46 + (5 * e)) + 4)) 1) (46 + 5 * ee + 4)) nt) E52 _ _ (dk dX7_leaveOut 37 rfl) (nint _) ?_
        exact ⟨(upd r (((46 + (5 * e)) + 4)) 1), q_36, g_36, (nup nh), (by rw [hs]), hc6, hE52, hc7, hc8, (by rw [hs]; exact ⟨rfl, eqN.rf, hp_36⟩), (fun j hj => ((hO52 j (by omega)).trans (hF36 j (by omega))))⟩
      · refine g_bipush F (q := 34) (v := (-5)) (dk dX7_leaveOut 20 rfl) rfl (by decide) ?_
        have hs : sLeave r nt (nI e) b = (-5, none) := by unfold sLeave; rw [if_neg (ixN he (by omega)), nI_c (by omega), show flg b = 1 from if_neg c12, if_pos c29]
        refine hret (-5) E _ _ (dk dX7_leaveOut 21 rfl) (nint _) ?_
        exact ⟨r, past, bef, nh, (by rw [hs]), h233, h234, h235, h237, (by rw [hs]; exact NX.nil), (fun j _ => rfl)⟩
theorem kv_X7_leaveOut : KV yX7_leaveOut "ThumpEarsModel" cX7_leaveOut 4 (some .int) 2 := ⟨tq_763, tq_764, tq_47, tq_765, by decide +kernel⟩
end
section
abbrev rm_X7_set : Room := { frames := 2, cells := 0, slots := 0, locals := 41 }
set_option maxHeartbeats 4000000 in
set_option maxRecDepth 100000 in
theorem c_X7_set {l : Launch} {D : va_G} {cA : Nat → ClassId} {ad : Nat → Nat} {E : Nat → va_E} {nh : Nat} {s1 s2 s3 s4 s5 : Int32} {lo mo : Int64} {r past bef : Nat → Int32} {what value : Int32} (h233 : E 233 = .inr (7, [.ref (ad 234), .ref (ad 235), .ref (ad 236), .ref (ad 237), .int (nI nh), .int s1, .ref (ad 238), .int s2, .int s3, .int s4, .int s5, .ref (ad 239), .ref (ad 240), .ref (ad 241), .long lo, .long mo, .ref (ad 242)])) (h234 : E 234 = .inl (cA 0, 346, .inl r)) (h235 : E 235 = .inl (cA 0, 1384, .inl past)) (h237 : E 237 = .inl (cA 0, 346, .inl bef))  (hnh : nh ≤ 4) : CtI l D cA yX7_set cX7_set 4 .int rm_X7_set 243 ad E [.ref (ad 233), .int what, .int value] (fun x E' => ∃ (f : Nat → Int32) (q : Nat → Int32) (g : Nat → Int32) (n2 : Nat), (sSet r what value).1 = x ∧ E' 233 = .inr (7, [.ref (ad 234), .ref (ad 235), .ref (ad 236), .ref (ad 237), .int (nI n2), .int s1, .ref (ad 238), .int s2, .int s3, .int s4, .int s5, .ref (ad 239), .ref (ad 240), .ref (ad 241), .long lo, .long mo, .ref (ad 242)]) ∧ E' 234 = .inl (cA 0, 346, .inl f) ∧ E' 235 = .inl (cA 0, 1384, .inl q) ∧ E' 237 = .inl (cA 0, 346, .inl g) ∧ (NX ((sSet r what value).2) r past nh f q n2) ∧ ∀ j, (j ≠ 233 ∧ j ≠ 234 ∧ j ≠ 235 ∧ j ≠ 237) → E' j = E j) := by
  refine CtI.of (by decide +kernel) (Nat.le_of_ble_eq_true rfl) (fun X F hret => ?_)
  have F : Fr "ThumpEarsModel" cX7_set 4 D cA X := F
  refine (show GG rm_X7_set 4 l D X 0 0 243 ad E 0 [(0, .ref (ad 233)), (1, .int what), (2, .int value)] [] from ?_)
  refine g_iload_n F (q := 1) (dk dX7_set 0 rfl) rfl rfl 1 rfl ?_
  refine g_iconst F (q := 2) (v := 0) (dk dX7_set 1 rfl) rfl (by decide) ?_
  refine g_iconst F (q := 3) (v := 1) (dk dX7_set 2 rfl) rfl (by decide) ?_
  refine g_callSI F (q := 6) (av := [.int what, .int 0, .int 1]) (st := []) (c_X7_in (v := what) (a := 0) (b := 1)) ks_X7_in tq_707 ⟨rfl, rfl⟩ (by decide) ⟨Nat.le_refl _, Nat.le_refl _⟩ rfl rfl (Nat.le_of_ble_eq_true rfl) (dk dX7_set 3 rfl) rfl (fun r3 E3 hp3 => ?_)
  rcases hp3 with ⟨rfl, rfl, b3⟩ | ⟨rfl, rfl, b3⟩
  · rcases in01 b3 with rfl | rfl
    · refine g_if_eq F (q := 9) (tgt := 37) (dk dX7_set 4 rfl) (by decide) rfl (fun h => absurd h (by decide)) (fun _ => ?_)
      refine g_iload_n F (q := 10) (dk dX7_set 5 rfl) rfl rfl 2 rfl ?_
      refine g_iload_n F (q := 11) (dk dX7_set 6 rfl) rfl rfl 1 rfl ?_
      refine g_if_ne F (q := 14) (tgt := 18) (dk dX7_set 7 rfl) (by decide) rfl (fun h => absurd h (by decide)) (fun _ => ?_)
      refine g_iconst F (q := 15) (v := 1) (dk dX7_set 8 rfl) rfl (by decide) ?_
      refine g_goto F (tgt := 19) (dk dX7_set 9 rfl) (by decide) ?_
      refine g_iload_n F (q := 20) (dk dX7_set 11 rfl) rfl rfl 1 rfl ?_
      refine g_if_ne F (q := 23) (tgt := 28) (dk dX7_set 12 rfl) (by decide) rfl (fun h => absurd h (by decide)) (fun _ => ?_)
      refine g_bipush F (q := 25) (v := 20) (dk dX7_set 13 rfl) rfl (by decide) ?_
      refine g_goto F (tgt := 31) (dk dX7_set 14 rfl) (by decide) ?_
      refine g_callSI F (q := 34) (av := [.int value, .int 1, .int 20]) (st := []) (c_X7_in (v := value) (a := 1) (b := 20)) ks_X7_in tq_707 ⟨rfl, rfl⟩ (by decide) ⟨Nat.le_refl _, Nat.le_refl _⟩ rfl rfl (Nat.le_of_ble_eq_true rfl) (dk dX7_set 16 rfl) rfl (fun r31 E31 hp31 => ?_)
      rcases hp31 with ⟨rfl, rfl, b31⟩ | ⟨rfl, rfl, b31⟩
      · refine g_if_ne F (q := 37) (tgt := 40) (dk dX7_set 17 rfl) (by decide) rfl (fun _ => ?_) (fun h => absurd h (by decide))
        refine g_aload_n F (q := 41) (dk dX7_set 20 rfl) rfl rfl 0 rfl ?_
        refine g_getf F (q := 44) h233 rfl inX7 (by omega) (j := 0) (by decide) tq_623 rfl rfl (dk dX7_set 21 rfl) rfl ?_
        refine g_iconst F (q := 45) (v := 3) (dk dX7_set 22 rfl) rfl (by decide) ?_
        refine g_iload_n F (q := 46) (dk dX7_set 23 rfl) rfl rfl 1 rfl ?_
        refine g_iadd F (q := 47) (dk dX7_set 24 rfl) rfl ?_
        refine g_iald F (q := 48) ((3 + 0)) h234 (by omega) (nA rfl rfl) (by omega) (by decide) (dk dX7_set 25 rfl) rfl ?_
        refine g_istore_n F (q := 49) (lv' := [(3, .int (r ((3 + 0)))), (0, .ref (ad 233)), (1, .int 0), (2, .int value)]) (dk dX7_set 26 rfl) rfl rfl (Nat.le_of_ble_eq_true rfl) rfl ?_
        refine g_iload_n F (q := 50) (dk dX7_set 27 rfl) rfl rfl 0 rfl ?_
        refine g_iload_n F (q := 51) (dk dX7_set 28 rfl) rfl rfl 3 rfl ?_
        refine g_icmp_ne F (q := 54) (tgt := 57) (dk dX7_set 29 rfl) (by decide) rfl (fun c51 => ?_) (fun c51 => ?_)
        · refine g_aload_n F (q := 58) (dk dX7_set 32 rfl) rfl rfl 1 rfl ?_
          refine g_callVV F (q := 61) (av := []) (st := []) (c_X7_open h233 h234 h235 h237 (by first | assumption | decide | omega)) kv_X7_open tq_691 h233 rfl (by omega) ⟨rfl, rfl⟩ (by decide) ⟨Nat.le_refl _, Nat.le_refl _⟩ rfl rfl (Nat.le_of_ble_eq_true rfl) (dk dX7_set 33 rfl) rfl (fun E58 hp58 => ?_)
          obtain ⟨q_58, g_58, hK233_58, hK235_58, hK237_58, hp_58, hF58⟩ := hp58
          refine g_aload_n F (q := 62) (dk dX7_set 34 rfl) rfl rfl 1 rfl ?_
          refine g_getf F (q := 65) hK233_58 rfl inX7 (by omega) (j := 0) (by decide) tq_623 rfl rfl (dk dX7_set 35 rfl) rfl ?_
          refine g_iconst F (q := 66) (v := 3) (dk dX7_set 36 rfl) rfl (by decide) ?_
          refine g_iload_n F (q := 67) (dk dX7_set 37 rfl) rfl rfl 2 rfl ?_
          refine g_iadd F (q := 68) (dk dX7_set 38 rfl) rfl ?_
          refine g_iload_n F (q := 69) (dk dX7_set 39 rfl) rfl rfl 3 rfl ?_
          have hc1 := (hF58 234 (by omega)).trans h234
          refine g_iast F (q := 70) ((3 + 0)) hc1 (by omega) (nA rfl rfl) (by omega) (by decide) (dk dX7_set 40 rfl) rfl (fun E69 hE69 hO69 => ?_)
          refine g_iload_n F (q := 71) (dk dX7_set 41 rfl) rfl rfl 0 rfl ?_
          have hs : sSet r 0 value = ((r 3), some (upd r 3 value)) := by unfold sSet; rw [if_pos rfl, if_pos b31, if_neg c51]
          have hc2 := (hO69 233 (by omega)).trans hK233_58
          have hc3 := (hO69 235 (by omega)).trans hK235_58
          have hc4 := (hO69 237 (by omega)).trans hK237_58
          refine hret (r ((3 + 0))) E69 _ _ (dk dX7_set 42 rfl) (nint _) ?_
          exact ⟨(upd r ((3 + 0)) value), q_58, g_58, (nup nh), (by rw [hs]), hc2, hE69, hc3, hc4, (by rw [hs]; exact ⟨rfl, eqN.rf, hp_58⟩), (fun j hj => ((hO69 j (by omega)).trans (hF58 j (by omega))))⟩
        · refine g_bipush F (q := 56) (v := (-5)) (dk dX7_set 30 rfl) rfl (by decide) ?_
          have hs : sSet r 0 value = (-5, none) := by unfold sSet; rw [if_pos rfl, if_pos b31, if_pos c51]
          refine hret (-5) E _ _ (dk dX7_set 31 rfl) (nint _) ?_
          exact ⟨r, past, bef, nh, (by rw [hs]), h233, h234, h235, h237, (by rw [hs]; exact NX.nil), (fun j _ => rfl)⟩
      · refine g_if_ne F (q := 37) (tgt := 40) (dk dX7_set 17 rfl) (by decide) rfl (fun h => absurd h (by decide)) (fun _ => ?_)
        refine g_bipush F (q := 39) (v := (-2)) (dk dX7_set 18 rfl) rfl (by decide) ?_
        have hs : sSet r 0 value = (-2, none) := by unfold sSet; rw [if_pos rfl, if_neg b31]
        refine hret (-2) E _ _ (dk dX7_set 19 rfl) (nint _) ?_
        exact ⟨r, past, bef, nh, (by rw [hs]), h233, h234, h235, h237, (by rw [hs]; exact NX.nil), (fun j _ => rfl)⟩
    · refine g_if_eq F (q := 9) (tgt := 37) (dk dX7_set 4 rfl) (by decide) rfl (fun h => absurd h (by decide)) (fun _ => ?_)
      refine g_iload_n F (q := 10) (dk dX7_set 5 rfl) rfl rfl 2 rfl ?_
      refine g_iload_n F (q := 11) (dk dX7_set 6 rfl) rfl rfl 1 rfl ?_
      refine g_if_ne F (q := 14) (tgt := 18) (dk dX7_set 7 rfl) (by decide) rfl (fun _ => ?_) (fun h => absurd h (by decide))
      refine g_iconst F (q := 19) (v := 0) (dk dX7_set 10 rfl) rfl (by decide) ?_
      refine g_iload_n F (q := 20) (dk dX7_set 11 rfl) rfl rfl 1 rfl ?_
      refine g_if_ne F (q := 23) (tgt := 28) (dk dX7_set 12 rfl) (by decide) rfl (fun _ => ?_) (fun h => absurd h (by decide))
      refine g_sipush F (q := 31) (v := 500) (dk dX7_set 15 rfl) rfl (by decide) ?_
      refine g_callSI F (q := 34) (av := [.int value, .int 0, .int 500]) (st := []) (c_X7_in (v := value) (a := 0) (b := 500)) ks_X7_in tq_707 ⟨rfl, rfl⟩ (by decide) ⟨Nat.le_refl _, Nat.le_refl _⟩ rfl rfl (Nat.le_of_ble_eq_true rfl) (dk dX7_set 16 rfl) rfl (fun r31 E31 hp31 => ?_)
      rcases hp31 with ⟨rfl, rfl, b31⟩ | ⟨rfl, rfl, b31⟩
      · refine g_if_ne F (q := 37) (tgt := 40) (dk dX7_set 17 rfl) (by decide) rfl (fun _ => ?_) (fun h => absurd h (by decide))
        refine g_aload_n F (q := 41) (dk dX7_set 20 rfl) rfl rfl 0 rfl ?_
        refine g_getf F (q := 44) h233 rfl inX7 (by omega) (j := 0) (by decide) tq_623 rfl rfl (dk dX7_set 21 rfl) rfl ?_
        refine g_iconst F (q := 45) (v := 3) (dk dX7_set 22 rfl) rfl (by decide) ?_
        refine g_iload_n F (q := 46) (dk dX7_set 23 rfl) rfl rfl 1 rfl ?_
        refine g_iadd F (q := 47) (dk dX7_set 24 rfl) rfl ?_
        refine g_iald F (q := 48) ((3 + 1)) h234 (by omega) (nA rfl rfl) (by omega) (by decide) (dk dX7_set 25 rfl) rfl ?_
        refine g_istore_n F (q := 49) (lv' := [(3, .int (r ((3 + 1)))), (0, .ref (ad 233)), (1, .int 1), (2, .int value)]) (dk dX7_set 26 rfl) rfl rfl (Nat.le_of_ble_eq_true rfl) rfl ?_
        refine g_iload_n F (q := 50) (dk dX7_set 27 rfl) rfl rfl 0 rfl ?_
        refine g_iload_n F (q := 51) (dk dX7_set 28 rfl) rfl rfl 3 rfl ?_
        refine g_icmp_ne F (q := 54) (tgt := 57) (dk dX7_set 29 rfl) (by decide) rfl (fun c51 => ?_) (fun c51 => ?_)
        · refine g_aload_n F (q := 58) (dk dX7_set 32 rfl) rfl rfl 1 rfl ?_
          refine g_callVV F (q := 61) (av := []) (st := []) (c_X7_open h233 h234 h235 h237 (by first | assumption | decide | omega)) kv_X7_open tq_691 h233 rfl (by omega) ⟨rfl, rfl⟩ (by decide) ⟨Nat.le_refl _, Nat.le_refl _⟩ rfl rfl (Nat.le_of_ble_eq_true rfl) (dk dX7_set 33 rfl) rfl (fun E58 hp58 => ?_)
          obtain ⟨q_58, g_58, hK233_58, hK235_58, hK237_58, hp_58, hF58⟩ := hp58
          refine g_aload_n F (q := 62) (dk dX7_set 34 rfl) rfl rfl 1 rfl ?_
          refine g_getf F (q := 65) hK233_58 rfl inX7 (by omega) (j := 0) (by decide) tq_623 rfl rfl (dk dX7_set 35 rfl) rfl ?_
          refine g_iconst F (q := 66) (v := 3) (dk dX7_set 36 rfl) rfl (by decide) ?_
          refine g_iload_n F (q := 67) (dk dX7_set 37 rfl) rfl rfl 2 rfl ?_
          refine g_iadd F (q := 68) (dk dX7_set 38 rfl) rfl ?_
          refine g_iload_n F (q := 69) (dk dX7_set 39 rfl) rfl rfl 3 rfl ?_
          have hc5 := (hF58 234 (by omega)).trans h234
          refine g_iast F (q := 70) ((3 + 1)) hc5 (by omega) (nA rfl rfl) (by omega) (by decide) (dk dX7_set 40 rfl) rfl (fun E69 hE69 hO69 => ?_)
          refine g_iload_n F (q := 71) (dk dX7_set 41 rfl) rfl rfl 0 rfl ?_
          have hs : sSet r 1 value = ((r 4), some (upd r 4 value)) := by unfold sSet; rw [if_neg (by decide), if_pos rfl, if_pos b31, if_neg c51]
          have hc6 := (hO69 233 (by omega)).trans hK233_58
          have hc7 := (hO69 235 (by omega)).trans hK235_58
          have hc8 := (hO69 237 (by omega)).trans hK237_58
          refine hret (r ((3 + 1))) E69 _ _ (dk dX7_set 42 rfl) (nint _) ?_
          exact ⟨(upd r ((3 + 1)) value), q_58, g_58, (nup nh), (by rw [hs]), hc6, hE69, hc7, hc8, (by rw [hs]; exact ⟨rfl, eqN.rf, hp_58⟩), (fun j hj => ((hO69 j (by omega)).trans (hF58 j (by omega))))⟩
        · refine g_bipush F (q := 56) (v := (-5)) (dk dX7_set 30 rfl) rfl (by decide) ?_
          have hs : sSet r 1 value = (-5, none) := by unfold sSet; rw [if_neg (by decide), if_pos rfl, if_pos b31, if_pos c51]
          refine hret (-5) E _ _ (dk dX7_set 31 rfl) (nint _) ?_
          exact ⟨r, past, bef, nh, (by rw [hs]), h233, h234, h235, h237, (by rw [hs]; exact NX.nil), (fun j _ => rfl)⟩
      · refine g_if_ne F (q := 37) (tgt := 40) (dk dX7_set 17 rfl) (by decide) rfl (fun h => absurd h (by decide)) (fun _ => ?_)
        refine g_bipush F (q := 39) (v := (-2)) (dk dX7_set 18 rfl) rfl (by decide) ?_
        have hs : sSet r 1 value = (-2, none) := by unfold sSet; rw [if_neg (by decide), if_pos rfl, if_neg b31]
        refine hret (-2) E _ _ (dk dX7_set 19 rfl) (nint _) ?_
        exact ⟨r, past, bef, nh, (by rw [hs]), h233, h234, h235, h237, (by rw [hs]; exact NX.nil), (fun j _ => rfl)⟩
  · refine g_if_eq F (q := 9) (tgt := 37) (dk dX7_set 4 rfl) (by decide) rfl (fun _ => ?_) (fun h => absurd h (by decide))
    refine g_bipush F (q := 39) (v := (-2)) (dk dX7_set 18 rfl) rfl (by decide) ?_
    have hs : sSet r what value = (-2, none) := by unfold sSet; rw [if_neg (fun h => b3 (by rw [h]; decide)), if_neg (fun h => b3 (by rw [h]; decide))]
    refine hret (-2) E _ _ (dk dX7_set 19 rfl) (nint _) ?_
    exact ⟨r, past, bef, nh, (by rw [hs]), h233, h234, h235, h237, (by rw [hs]; exact NX.nil), (fun j _ => rfl)⟩
theorem kv_X7_set : KV yX7_set "ThumpEarsModel" cX7_set 4 (some .int) 2 := ⟨tq_731, tq_732, tq_47, tq_733, by decide +kernel⟩
abbrev rm_X7_reads : Room := { frames := 1, cells := 0, slots := 0, locals := 25 }
set_option maxHeartbeats 4000000 in
set_option maxRecDepth 100000 in
theorem c_X7_reads {l : Launch} {D : va_G} {cA : Nat → ClassId} {ad : Nat → Nat} {E : Nat → va_E} {s0 s1 s2 s3 s4 s5 : Int32} {lo mo : Int64} {r : Nat → Int32} {e : Nat} {t : Int32} (h233 : E 233 = .inr (7, [.ref (ad 234), .ref (ad 235), .ref (ad 236), .ref (ad 237), .int s0, .int s1, .ref (ad 238), .int s2, .int s3, .int s4, .int s5, .ref (ad 239), .ref (ad 240), .ref (ad 241), .long lo, .long mo, .ref (ad 242)])) (h234 : E 234 = .inl (cA 0, 346, .inl r))  (he : e < 10) : CtI l D cA yX7_reads cX7_reads 3 .int rm_X7_reads 243 ad E [.ref (ad 233), .int (nI e), .int t] (fun x E' => (rdc r e t) = x ∧ E = E') := by
  refine CtI.of (by decide +kernel) (Nat.le_of_ble_eq_true rfl) (fun X F hret => ?_)
  have F : Fr "ThumpEarsModel" cX7_reads 3 D cA X := F
  refine (show GG rm_X7_reads 3 l D X 0 0 243 ad E 0 [(0, .ref (ad 233)), (1, .int (nI e)), (2, .int t)] [] from ?_)
  refine g_iload_n F (q := 1) (dk dX7_reads 0 rfl) rfl rfl 2 rfl ?_
  refine g_aload_n F (q := 2) (dk dX7_reads 1 rfl) rfl rfl 0 rfl ?_
  refine g_iload_n F (q := 3) (dk dX7_reads 2 rfl) rfl rfl 1 rfl ?_
  refine g_iconst F (q := 4) (v := 2) (dk dX7_reads 3 rfl) rfl (by decide) ?_
  refine g_callVI F (q := 7) (av := [.int (nI e), .int 2]) (st := [.int t]) (c_X7_of (e := e) (w := 2) h233 h234 (by first | assumption | decide | omega)) kv_X7_of tq_718 h233 rfl (by omega) ⟨rfl, rfl⟩ (by decide) ⟨Nat.le_refl _, Nat.le_refl _⟩ rfl rfl (Nat.le_of_ble_eq_true rfl) (dk dX7_reads 4 rfl) rfl (fun r4 E4 hp4 => ?_)
  obtain ⟨rfl, rfl⟩ := hp4
  refine g_iadd F (q := 8) (dk dX7_reads 5 rfl) rfl ?_
  refine g_aload_n F (q := 9) (dk dX7_reads 6 rfl) rfl rfl 0 rfl ?_
  refine g_iload_n F (q := 10) (dk dX7_reads 7 rfl) rfl rfl 1 rfl ?_
  refine g_iconst F (q := 11) (v := 3) (dk dX7_reads 8 rfl) rfl (by decide) ?_
  refine g_callVI F (q := 14) (av := [.int (nI e), .int 3]) (st := [.int (t + (r (6 + 4 * e + 2)))]) (c_X7_of (e := e) (w := 3) h233 h234 (by first | assumption | decide | omega)) kv_X7_of tq_718 h233 rfl (by omega) ⟨rfl, rfl⟩ (by decide) ⟨Nat.le_refl _, Nat.le_refl _⟩ rfl rfl (Nat.le_of_ble_eq_true rfl) (dk dX7_reads 9 rfl) rfl (fun r11 E11 hp11 => ?_)
  obtain ⟨rfl, rfl⟩ := hp11
  refine g_i2l F (q := 15) (dk dX7_reads 10 rfl) rfl ?_
  refine g_iload_n F (q := 16) (dk dX7_reads 11 rfl) rfl rfl 2 rfl ?_
  refine g_i2l F (q := 17) (dk dX7_reads 12 rfl) rfl ?_
  refine g_lmul F (q := 18) (dk dX7_reads 13 rfl) rfl ?_
  refine g_ldc2 F (q := 21) (v := 10000) (dk dX7_reads 14 rfl) rfl tq_754 ?_
  refine g_callSL F (q := 24) (av := [.long ((r (6 + 4 * e + 3)).toInt64 * t.toInt64), .long 10000]) (st := [.int (t + (r (6 + 4 * e + 2)))]) (c_X7_down (a := ((r (6 + 4 * e + 3)).toInt64 * t.toInt64)) (b := 10000) (by first | assumption | decide | omega)) ks_X7_down tq_755 ⟨rfl, rfl⟩ (by decide) ⟨Nat.le_refl _, Nat.le_refl _⟩ rfl rfl (Nat.le_of_ble_eq_true rfl) (dk dX7_reads 15 rfl) rfl (fun r21 E21 hp21 => ?_)
  obtain ⟨rfl, rfl⟩ := hp21
  refine g_l2i F (q := 25) (dk dX7_reads 16 rfl) rfl ?_
  refine g_iadd F (q := 26) (dk dX7_reads 17 rfl) rfl ?_
  refine hret ((t + (r (6 + 4 * e + 2))) + (dn ((r (6 + 4 * e + 3)).toInt64 * t.toInt64) 10000).toInt32) E _ _ (dk dX7_reads 18 rfl) (nint _) ?_
  exact ⟨rfl, rfl⟩
theorem kv_X7_reads : KV yX7_reads "ThumpEarsModel" cX7_reads 3 (some .int) 2 := ⟨tq_752, tq_17, tq_47, tq_753, by decide +kernel⟩
abbrev rm_X7_make : Room := { frames := 2, cells := 0, slots := 0, locals := 47 }
set_option maxHeartbeats 4000000 in
set_option maxRecDepth 100000 in
theorem c_X7_make {l : Launch} {D : va_G} {cA : Nat → ClassId} {ad : Nat → Nat} {E : Nat → va_E} {s0 s1 s2 s3 s4 s5 : Int32} {lo mo : Int64} {r : Nat → Int32} {ne k m : Nat} {p t c : Int32} (h233 : E 233 = .inr (7, [.ref (ad 234), .ref (ad 235), .ref (ad 236), .ref (ad 237), .int s0, .int s1, .ref (ad 238), .int s2, .int s3, .int s4, .int s5, .ref (ad 239), .ref (ad 240), .ref (ad 241), .long lo, .long mo, .ref (ad 242)])) (h234 : E 234 = .inl (cA 0, 346, .inl r))  (hk : k < 2) (h0 : r 0 = nI ne) (hne : ne ≤ 10) (hm : r (1 + k) = nI m) (hm10 : m ≤ 10) : CtI l D cA yX7_make cX7_make 11 .int rm_X7_make 243 ad E [.ref (ad 233), .int (nI k), .int p, .int t, .int c] (fun x E' => (mkS r ne k m p t c).1 = x ∧ E' 234 = .inl (cA 0, 346, .inl (mkS r ne k m p t c).2) ∧ ∀ j, (j ≠ 234) → E' j = E j) := by
  refine CtI.of (by decide +kernel) (Nat.le_of_ble_eq_true rfl) (fun X F hret => ?_)
  have F : Fr "ThumpEarsModel" cX7_make 11 D cA X := F
  refine (show GG rm_X7_make 11 l D X 0 0 243 ad E 0 [(0, .ref (ad 233)), (1, .int (nI k)), (2, .int p), (3, .int t), (4, .int c)] [] from ?_)
  refine g_iload_n F (q := 1) (dk dX7_make_0 0 rfl) rfl rfl 2 rfl ?_
  refine g_iconst F (q := 2) (v := 0) (dk dX7_make_0 1 rfl) rfl (by decide) ?_
  refine g_sipush F (q := 5) (v := 1000) (dk dX7_make_0 2 rfl) rfl (by decide) ?_
  refine g_callSI F (q := 8) (av := [.int p, .int 0, .int 1000]) (st := []) (c_X7_in (v := p) (a := 0) (b := 1000)) ks_X7_in tq_707 ⟨rfl, rfl⟩ (by decide) ⟨Nat.le_refl _, Nat.le_refl _⟩ rfl rfl (Nat.le_of_ble_eq_true rfl) (dk dX7_make_0 3 rfl) rfl (fun r5 E5 hp5 => ?_)
  rcases hp5 with ⟨rfl, rfl, b5⟩ | ⟨rfl, rfl, b5⟩
  · refine g_if_eq F (q := 11) (tgt := 33) (dk dX7_make_0 4 rfl) (by decide) rfl (fun h => absurd h (by decide)) (fun _ => ?_)
    refine g_iload_n F (q := 12) (dk dX7_make_0 5 rfl) rfl rfl 3 rfl ?_
    refine g_iconst F (q := 13) (v := 0) (dk dX7_make_0 6 rfl) rfl (by decide) ?_
    refine g_ldc F (q := 15) (v := 100000) (dk dX7_make_0 7 rfl) rfl tq_746 ?_
    refine g_callSI F (q := 18) (av := [.int t, .int 0, .int 100000]) (st := []) (c_X7_in (v := t) (a := 0) (b := 100000)) ks_X7_in tq_707 ⟨rfl, rfl⟩ (by decide) ⟨Nat.le_refl _, Nat.le_refl _⟩ rfl rfl (Nat.le_of_ble_eq_true rfl) (dk dX7_make_0 8 rfl) rfl (fun r15 E15 hp15 => ?_)
    rcases hp15 with ⟨rfl, rfl, b15⟩ | ⟨rfl, rfl, b15⟩
    · refine g_if_eq F (q := 21) (tgt := 33) (dk dX7_make_0 9 rfl) (by decide) rfl (fun h => absurd h (by decide)) (fun _ => ?_)
      refine g_iload F (q := 23) (dk dX7_make_0 10 rfl) rfl 4 rfl ?_
      refine g_iconst F (q := 24) (v := 1) (dk dX7_make_0 11 rfl) rfl (by decide) ?_
      refine g_sipush F (q := 27) (v := 1000) (dk dX7_make_0 12 rfl) rfl (by decide) ?_
      refine g_callSI F (q := 30) (av := [.int c, .int 1, .int 1000]) (st := []) (c_X7_in (v := c) (a := 1) (b := 1000)) ks_X7_in tq_707 ⟨rfl, rfl⟩ (by decide) ⟨Nat.le_refl _, Nat.le_refl _⟩ rfl rfl (Nat.le_of_ble_eq_true rfl) (dk dX7_make_0 13 rfl) rfl (fun r27 E27 hp27 => ?_)
      rcases hp27 with ⟨rfl, rfl, b27⟩ | ⟨rfl, rfl, b27⟩
      · refine g_if_ne F (q := 33) (tgt := 36) (dk dX7_make_0 14 rfl) (by decide) rfl (fun _ => ?_) (fun h => absurd h (by decide))
        refine g_iload_n F (q := 37) (dk dX7_make_0 17 rfl) rfl rfl 3 rfl ?_
        refine g_aload_n F (q := 38) (dk dX7_make_0 18 rfl) rfl rfl 0 rfl ?_
        refine g_getf F (q := 41) h233 rfl inX7 (by omega) (j := 0) (by decide) tq_623 rfl rfl (dk dX7_make_0 19 rfl) rfl ?_
        refine g_iconst F (q := 42) (v := 5) (dk dX7_make_0 20 rfl) rfl (by decide) ?_
        refine g_iald F (q := 43) 5 h234 (by omega) rfl (by omega) (by decide) (dk dX7_make_0 21 rfl) rfl ?_
        refine g_icmp_ge F (q := 46) (tgt := 49) (dk dX7_make_0 22 rfl) (by decide) rfl (fun c43 => ?_) (fun c43 => ?_)
        · refine g_aload_n F (q := 50) (dk dX7_make_0 25 rfl) rfl rfl 0 rfl ?_
          refine g_getf F (q := 53) h233 rfl inX7 (by omega) (j := 0) (by decide) tq_623 rfl rfl (dk dX7_make_0 26 rfl) rfl ?_
          refine g_iconst F (q := 54) (v := 1) (dk dX7_make_0 27 rfl) rfl (by decide) ?_
          refine g_iload_n F (q := 55) (dk dX7_make_0 28 rfl) rfl rfl 1 rfl ?_
          refine g_iadd F (q := 56) (dk dX7_make_0 29 rfl) rfl ?_
          refine g_iald F (q := 57) ((1 + k)) h234 (by omega) (nA rfl rfl) (by omega) (by decide) (dk dX7_make_0 30 rfl) rfl ?_
          refine g_sti (y := (nI m)) hm ?_
          refine g_istore F (q := 59) (lv' := [(5, .int (nI m)), (0, .ref (ad 233)), (1, .int (nI k)), (2, .int p), (3, .int t), (4, .int c)]) (dk dX7_make_0 31 rfl) rfl (Nat.le_of_ble_eq_true rfl) rfl ?_
          refine g_iload F (q := 61) (dk dX7_make_0 32 rfl) rfl 0 rfl ?_
          refine g_bipush F (q := 63) (v := 10) (dk dX7_make_0 33 rfl) rfl (by decide) ?_
          refine g_icmp_ne F (q := 66) (tgt := 69) (dk dX7_make_0 34 rfl) (by decide) rfl (fun c63 => ?_) (fun c63 => ?_)
          · have nc63 : ¬ m = 10 := fun h => c63 ((nI_eq (a := m) (b := 10) (by omega) (by omega)).mpr h)
            refine g_bipush F (q := 71) (v := 46) (dk dX7_make_0 37 rfl) rfl (by decide) ?_
            refine g_bipush F (q := 73) (v := 50) (dk dX7_make_0 38 rfl) rfl (by decide) ?_
            refine g_iload_n F (q := 74) (dk dX7_make_0 39 rfl) rfl rfl 2 rfl ?_
            refine g_imul F (q := 75) (dk dX7_make_1 0 rfl) rfl ?_
            refine g_iadd F (q := 76) (dk dX7_make_1 1 rfl) rfl ?_
            refine g_iconst F (q := 77) (v := 5) (dk dX7_make_1 2 rfl) rfl (by decide) ?_
            refine g_iload F (q := 79) (dk dX7_make_1 3 rfl) rfl 0 rfl ?_
            refine g_imul F (q := 80) (dk dX7_make_1 4 rfl) rfl ?_
            refine g_iadd F (q := 81) (dk dX7_make_1 5 rfl) rfl ?_
            refine g_sti (nA (nA rfl (nM rfl rfl)) (nM rfl rfl)) ?_
            refine g_istore F (q := 83) (lv' := [(6, .int (nI (((46 + (50 * k)) + (5 * m))))), (5, .int (nI m)), (0, .ref (ad 233)), (1, .int (nI k)), (2, .int p), (3, .int t), (4, .int c)]) (dk dX7_make_1 6 rfl) rfl (Nat.le_of_ble_eq_true rfl) rfl ?_
            refine g_aload_n F (q := 84) (dk dX7_make_1 7 rfl) rfl rfl 2 rfl ?_
            refine g_getf F (q := 87) h233 rfl inX7 (by omega) (j := 0) (by decide) tq_623 rfl rfl (dk dX7_make_1 8 rfl) rfl ?_
            refine g_iload F (q := 89) (dk dX7_make_1 9 rfl) rfl 0 rfl ?_
            refine g_iload_n F (q := 90) (dk dX7_make_1 10 rfl) rfl rfl 4 rfl ?_
            refine g_iast F (q := 91) (((46 + (50 * k)) + (5 * m))) h234 (by omega) rfl (by omega) (by decide) (dk dX7_make_1 11 rfl) rfl (fun E90 hE90 hO90 => ?_)
            refine g_aload_n F (q := 92) (dk dX7_make_1 12 rfl) rfl rfl 2 rfl ?_
            have hc1 := (hO90 233 (by omega)).trans h233
            refine g_getf F (q := 95) hc1 rfl inX7 (by omega) (j := 0) (by decide) tq_623 rfl rfl (dk dX7_make_1 13 rfl) rfl ?_
            refine g_iload F (q := 97) (dk dX7_make_1 14 rfl) rfl 0 rfl ?_
            refine g_iconst F (q := 98) (v := 1) (dk dX7_make_1 15 rfl) rfl (by decide) ?_
            refine g_iadd F (q := 99) (dk dX7_make_1 16 rfl) rfl ?_
            refine g_iload_n F (q := 100) (dk dX7_make_1 17 rfl) rfl rfl 5 rfl ?_
            refine g_iast F (q := 101) ((((46 + (50 * k)) + (5 * m)) + 1)) hE90 (by omega) (nA rfl rfl) (by omega) (by decide) (dk dX7_make_1 18 rfl) rfl (fun E100 hE100 hO100 => ?_)
            refine g_aload_n F (q := 102) (dk dX7_make_1 19 rfl) rfl rfl 2 rfl ?_
            have hc2 := (hO100 233 (by omega)).trans hc1
            refine g_getf F (q := 105) hc2 rfl inX7 (by omega) (j := 0) (by decide) tq_623 rfl rfl (dk dX7_make_1 20 rfl) rfl ?_
            refine g_iload F (q := 107) (dk dX7_make_1 21 rfl) rfl 0 rfl ?_
            refine g_iconst F (q := 108) (v := 2) (dk dX7_make_1 22 rfl) rfl (by decide) ?_
            refine g_iadd F (q := 109) (dk dX7_make_1 23 rfl) rfl ?_
            refine g_iload F (q := 111) (dk dX7_make_1 24 rfl) rfl 6 rfl ?_
            refine g_iast F (q := 112) ((((46 + (50 * k)) + (5 * m)) + 2)) hE100 (by omega) (nA rfl rfl) (by omega) (by decide) (dk dX7_make_1 25 rfl) rfl (fun E111 hE111 hO111 => ?_)
            refine g_aload_n F (q := 113) (dk dX7_make_1 26 rfl) rfl rfl 2 rfl ?_
            have hc3 := (hO111 233 (by omega)).trans hc2
            refine g_getf F (q := 116) hc3 rfl inX7 (by omega) (j := 0) (by decide) tq_623 rfl rfl (dk dX7_make_1 27 rfl) rfl ?_
            refine g_iload F (q := 118) (dk dX7_make_1 28 rfl) rfl 0 rfl ?_
            refine g_iconst F (q := 119) (v := 3) (dk dX7_make_1 29 rfl) rfl (by decide) ?_
            refine g_iadd F (q := 120) (dk dX7_make_1 30 rfl) rfl ?_
            refine g_aload_n F (q := 121) (dk dX7_make_1 31 rfl) rfl rfl 2 rfl ?_
            refine g_getf F (q := 124) hc3 rfl inX7 (by omega) (j := 0) (by decide) tq_623 rfl rfl (dk dX7_make_1 32 rfl) rfl ?_
            refine g_iconst F (q := 125) (v := 3) (dk dX7_make_1 33 rfl) rfl (by decide) ?_
            refine g_iald F (q := 126) 3 hE111 (by omega) rfl (by omega) (by decide) (dk dX7_make_1 34 rfl) rfl ?_
            refine g_sti (y := (r 3)) (by rw [upd_n (by omega), upd_n (by omega), upd_n (by omega)]) ?_
            refine g_iast F (q := 127) ((((46 + (50 * k)) + (5 * m)) + 3)) hE111 (by omega) (nA rfl rfl) (by omega) (by decide) (dk dX7_make_1 35 rfl) rfl (fun E126 hE126 hO126 => ?_)
            refine g_aload_n F (q := 128) (dk dX7_make_1 36 rfl) rfl rfl 2 rfl ?_
            have hc4 := (hO126 233 (by omega)).trans hc3
            refine g_getf F (q := 131) hc4 rfl inX7 (by omega) (j := 0) (by decide) tq_623 rfl rfl (dk dX7_make_1 37 rfl) rfl ?_
            refine g_iload F (q := 133) (dk dX7_make_1 38 rfl) rfl 0 rfl ?_
            refine g_iconst F (q := 134) (v := 4) (dk dX7_make_1 39 rfl) rfl (by decide) ?_
            refine g_iadd F (q := 135) (dk dX7_make_2 0 rfl) rfl ?_
            refine g_iconst F (q := 136) (v := 0) (dk dX7_make_2 1 rfl) rfl (by decide) ?_
            refine g_iast F (q := 137) ((((46 + (50 * k)) + (5 * m)) + 4)) hE126 (by omega) (nA rfl rfl) (by omega) (by decide) (dk dX7_make_2 2 rfl) rfl (fun E136 hE136 hO136 => ?_)
            refine g_iconst F (q := 138) (v := 0) (dk dX7_make_2 3 rfl) rfl (by decide) ?_
            refine g_istore F (q := 140) (lv' := [(7, .int 0), (6, .int (nI (((46 + (50 * k)) + (5 * m))))), (5, .int (nI m)), (0, .ref (ad 233)), (1, .int (nI k)), (2, .int p), (3, .int t), (4, .int c)]) (dk dX7_make_2 4 rfl) rfl (Nat.le_of_ble_eq_true rfl) rfl ?_
            refine g_iconst F (q := 141) (v := 0) (dk dX7_make_2 5 rfl) rfl (by decide) ?_
            refine g_istore F (q := 143) (lv' := [(8, .int 0), (7, .int 0), (6, .int (nI (((46 + (50 * k)) + (5 * m))))), (5, .int (nI m)), (0, .ref (ad 233)), (1, .int (nI k)), (2, .int p), (3, .int t), (4, .int c)]) (dk dX7_make_2 6 rfl) rfl (Nat.le_of_ble_eq_true rfl) rfl ?_
            have K143 : ∀ (fu : Nat) (i : Nat) (E1 : Nat → va_E), 10 - i < fu → (hf : E1 234 = .inl (cA 0, 346, .inl (stg r ne k m p t c i))) → (hfr143 : ∀ j, (j ≠ 234) → E1 j = E136 j) → (hi : i ≤ 10) → GG rm_X7_make 11 l D X 0 0 243 ad E1 143 [(0, .ref (ad 233)), (1, .int (nI k)), (2, .int p), (3, .int t), (4, .int c), (5, .int (nI m)), (6, .int (nI ((46 + 50 * k + 5 * m)))), (7, .int (hcnt r ne p c i)), (8, .int (nI i))] [] := by
              intro fu
              induction fu with
              | zero => intro i E1 hfu_; exact absurd hfu_ (Nat.not_lt_zero _)
              | succ fu ih =>
                intro i E1 hfu_ hf hfr143 hi
                refine g_iload F (q := 145) (dk dX7_make_2 7 rfl) rfl 8 rfl ?_
                refine g_bipush F (q := 147) (v := 10) (dk dX7_make_2 8 rfl) rfl (by decide) ?_
                refine g_icmp_ge F (q := 150) (tgt := 268) (dk dX7_make_2 9 rfl) (by decide) rfl (fun c147 => ?_) (fun c147 => ?_)
                · have nc147 : 10 ≤ i := (nI_leI (a := 10) (b := i) (by omega) (by omega)).mp c147
                  refine g_aload_n F (q := 269) (dk dX7_make_3 34 rfl) rfl rfl 0 rfl ?_
                  have hc5 := (hO136 233 (by omega)).trans hc4
                  have hc6 := (hfr143 233 (by omega)).trans hc5
                  refine g_getf F (q := 272) hc6 rfl inX7 (by omega) (j := 0) (by decide) tq_623 rfl rfl (dk dX7_make_3 35 rfl) rfl ?_
                  refine g_iconst F (q := 273) (v := 1) (dk dX7_make_3 36 rfl) rfl (by decide) ?_
                  refine g_iload_n F (q := 274) (dk dX7_make_3 37 rfl) rfl rfl 1 rfl ?_
                  refine g_iadd F (q := 275) (dk dX7_make_3 38 rfl) rfl ?_
                  refine g_dup2 F (q := 276) (dk dX7_make_3 39 rfl) rfl rfl rfl ?_
                  refine g_iald F (q := 277) ((1 + k)) hf (by omega) (nA rfl rfl) (by omega) (by decide) (dk dX7_make_4 0 rfl) rfl ?_
                  refine g_sti (y := (nI m)) ((stg_lo (by omega) _).trans hm) ?_
                  refine g_iconst F (q := 278) (v := 1) (dk dX7_make_4 1 rfl) rfl (by decide) ?_
                  refine g_iadd F (q := 279) (dk dX7_make_4 2 rfl) rfl ?_
                  refine g_sti (nA rfl rfl) ?_
                  refine g_iast F (q := 280) ((1 + k)) hf (by omega) (nA rfl rfl) (by omega) (by decide) (dk dX7_make_4 3 rfl) rfl (fun E279 hE279 hO279 => ?_)
                  refine g_aload_n F (q := 281) (dk dX7_make_4 4 rfl) rfl rfl 0 rfl ?_
                  have hc7 := (hO279 233 (by omega)).trans hc6
                  refine g_getf F (q := 284) hc7 rfl inX7 (by omega) (j := 0) (by decide) tq_623 rfl rfl (dk dX7_make_4 5 rfl) rfl ?_
                  refine g_iconst F (q := 285) (v := 5) (dk dX7_make_4 6 rfl) rfl (by decide) ?_
                  refine g_iload_n F (q := 286) (dk dX7_make_4 7 rfl) rfl rfl 3 rfl ?_
                  refine g_iast F (q := 287) 5 hE279 (by omega) rfl (by omega) (by decide) (dk dX7_make_4 8 rfl) rfl (fun E286 hE286 hO286 => ?_)
                  refine g_iload F (q := 289) (dk dX7_make_4 9 rfl) rfl 7 rfl ?_
                  have hi10 : i = 10 := by omega
                  have hs : mkS r ne k m p t c = (hcnt r ne p c 10, mkR r ne k m p t c) := by unfold mkS; rw [if_pos ⟨b5, b15, b27⟩, if_neg (Int32.not_lt.mpr c43), if_neg nc63]
                  refine hret (hcnt r ne p c i) E286 _ _ (dk dX7_make_4 10 rfl) (nint _) ?_
                  exact ⟨(by rw [hs, hi10]), (by rw [hs]; have h := hE286; rw [hi10] at h; exact h), (fun j hj => ((((((((hO286 j (by omega)).trans (hO279 j (by omega))).trans (hfr143 j (by omega))).trans (hO136 j (by omega))).trans (hO126 j (by omega))).trans (hO111 j (by omega))).trans (hO100 j (by omega))).trans (hO90 j (by omega))))⟩
                · have nc147 : ¬ 10 ≤ i := fun h => c147 ((nI_leI (a := 10) (b := i) (by omega) (by omega)).mpr h)
                  refine g_iload_n F (q := 151) (dk dX7_make_2 10 rfl) rfl rfl 2 rfl ?_
                  refine g_aload_n F (q := 152) (dk dX7_make_2 11 rfl) rfl rfl 0 rfl ?_
                  refine g_iload F (q := 154) (dk dX7_make_2 12 rfl) rfl 8 rfl ?_
                  refine g_iconst F (q := 155) (v := 0) (dk dX7_make_2 13 rfl) rfl (by decide) ?_
                  have hc8 := (hO136 233 (by omega)).trans hc4
                  have hc9 := (hfr143 233 (by omega)).trans hc8
                  refine g_callVI F (q := 158) (av := [.int (nI i), .int 0]) (st := [.int p]) (c_X7_of (e := i) (w := 0) hc9 hf (by first | assumption | decide | omega)) kv_X7_of tq_718 hc9 rfl (by omega) ⟨rfl, rfl⟩ (by decide) ⟨Nat.le_refl _, Nat.le_refl _⟩ rfl rfl (Nat.le_of_ble_eq_true rfl) (dk dX7_make_2 14 rfl) rfl (fun r155 E155 hp155 => ?_)
                  obtain ⟨rfl, rfl⟩ := hp155
                  refine g_sti (y := (r (6 + 4 * i))) (stg_lo (by omega) _) ?_
                  refine g_callSI F (q := 161) (av := [.int p, .int (r (6 + 4 * i))]) (st := []) (c_X7_far (a := p) (b := (r (6 + 4 * i)))) ks_X7_far tq_747 ⟨rfl, rfl⟩ (by decide) ⟨Nat.le_refl _, Nat.le_refl _⟩ rfl rfl (Nat.le_of_ble_eq_true rfl) (dk dX7_make_2 15 rfl) rfl (fun r158 E158 hp158 => ?_)
                  obtain ⟨rfl, rfl⟩ := hp158
                  refine g_istore F (q := 163) (lv' := [(9, .int (far p (r (6 + 4 * i)))), (0, .ref (ad 233)), (1, .int (nI k)), (2, .int p), (3, .int t), (4, .int c), (5, .int (nI m)), (6, .int (nI ((46 + 50 * k + 5 * m)))), (7, .int (hcnt r ne p c i)), (8, .int (nI i))]) (dk dX7_make_2 16 rfl) rfl (Nat.le_of_ble_eq_true rfl) rfl ?_
                  refine g_iload F (q := 165) (dk dX7_make_2 17 rfl) rfl 9 rfl ?_
                  refine g_aload_n F (q := 166) (dk dX7_make_2 18 rfl) rfl rfl 1 rfl ?_
                  refine g_getf F (q := 169) hc9 rfl inX7 (by omega) (j := 0) (by decide) tq_623 rfl rfl (dk dX7_make_2 19 rfl) rfl ?_
                  refine g_iconst F (q := 170) (v := 0) (dk dX7_make_2 20 rfl) rfl (by decide) ?_
                  refine g_iald F (q := 171) 0 hf (by omega) rfl (by omega) (by decide) (dk dX7_make_2 21 rfl) rfl ?_
                  refine g_sti (y := (nI ne)) ((stg_lo (by omega) _).trans h0) ?_
                  refine g_icmp_ge F (q := 174) (tgt := 195) (dk dX7_make_2 22 rfl) (by decide) rfl (fun c171 => ?_) (fun c171 => ?_)
                  · have nc171 : ne ≤ i := (nI_leI (a := ne) (b := i) (by omega) (by omega)).mp c171
                    refine g_iconst F (q := 196) (v := 0) (dk dX7_make_2 33 rfl) rfl (by decide) ?_
                    have hh : ¬ (i < ne ∧ r (6 + 4 * i + 1) = 0 ∧ far p (r (6 + 4 * i)) ≤ c) := fun h => absurd h.1 (by omega)
                    refine g_istore F (q := 198) (lv' := [(10, .int 0), (9, .int (far p (r (6 + 4 * i)))), (0, .ref (ad 233)), (1, .int (nI k)), (2, .int p), (3, .int t), (4, .int c), (5, .int (nI m)), (6, .int (nI ((46 + 50 * k + 5 * m)))), (7, .int (hcnt r ne p c i)), (8, .int (nI i))]) (dk dX7_make_2 34 rfl) rfl (Nat.le_of_ble_eq_true rfl) rfl ?_
                    refine g_aload_n F (q := 199) (dk dX7_make_2 35 rfl) rfl rfl 2 rfl ?_
                    refine g_getf F (q := 202) hc9 rfl inX7 (by omega) (j := 0) (by decide) tq_623 rfl rfl (dk dX7_make_2 36 rfl) rfl ?_
                    refine g_sipush F (q := 205) (v := 146) (dk dX7_make_2 37 rfl) rfl (by decide) ?_
                    refine g_bipush F (q := 207) (v := 100) (dk dX7_make_2 38 rfl) rfl (by decide) ?_
                    refine g_iload_n F (q := 208) (dk dX7_make_2 39 rfl) rfl rfl 3 rfl ?_
                    refine g_imul F (q := 209) (dk dX7_make_3 0 rfl) rfl ?_
                    refine g_iadd F (q := 210) (dk dX7_make_3 1 rfl) rfl ?_
                    refine g_bipush F (q := 212) (v := 10) (dk dX7_make_3 2 rfl) rfl (by decide) ?_
                    refine g_iload F (q := 214) (dk dX7_make_3 3 rfl) rfl 7 rfl ?_
                    refine g_imul F (q := 215) (dk dX7_make_3 4 rfl) rfl ?_
                    refine g_iadd F (q := 216) (dk dX7_make_3 5 rfl) rfl ?_
                    refine g_iload F (q := 218) (dk dX7_make_3 6 rfl) rfl 10 rfl ?_
                    refine g_iadd F (q := 219) (dk dX7_make_3 7 rfl) rfl ?_
                    refine g_iload F (q := 221) (dk dX7_make_3 8 rfl) rfl 0 rfl ?_
                    refine g_if_eq F (q := 224) (tgt := 244) (dk dX7_make_3 9 rfl) (by decide) rfl (fun _ => ?_) (fun h => absurd h (by decide))
                    refine g_ldc F (q := 246) (v := (-1000000000)) (dk dX7_make_3 22 rfl) rfl tq_622 ?_
                    refine g_sti (y := MISS) rfl ?_
                    refine g_iast F (q := 247) ((((146 + (100 * k)) + (10 * m)) + i)) hf (by omega) (nA (nA (nA rfl (nM rfl rfl)) (nM rfl rfl)) rfl) (by omega) (by decide) (dk dX7_make_3 23 rfl) rfl (fun E246 hE246 hO246 => ?_)
                    refine g_iload F (q := 249) (dk dX7_make_3 24 rfl) rfl 9 rfl ?_
                    refine g_iload F (q := 251) (dk dX7_make_3 25 rfl) rfl 0 rfl ?_
                    refine g_if_eq F (q := 254) (tgt := 258) (dk dX7_make_3 26 rfl) (by decide) rfl (fun _ => ?_) (fun h => absurd h (by decide))
                    refine g_iconst F (q := 259) (v := 0) (dk dX7_make_3 29 rfl) rfl (by decide) ?_
                    refine g_iadd F (q := 260) (dk dX7_make_3 30 rfl) rfl ?_
                    refine g_sti (y := (hcnt r ne p c (i + 1))) (by rw [hcnt, if_neg hh]) ?_
                    refine g_istore F (q := 262) (lv' := [(7, .int (hcnt r ne p c (i + 1))), (10, .int 0), (9, .int (far p (r (6 + 4 * i)))), (0, .ref (ad 233)), (1, .int (nI k)), (2, .int p), (3, .int t), (4, .int c), (5, .int (nI m)), (6, .int (nI ((46 + 50 * k + 5 * m)))), (8, .int (nI i))]) (dk dX7_make_3 31 rfl) rfl (Nat.le_of_ble_eq_true rfl) rfl ?_
                    refine g_iinc F (q := 265) (v := (nI ((i + 1)))) (lv' := [(8, .int (nI ((i + 1)))), (7, .int (hcnt r ne p c (i + 1))), (10, .int 0), (9, .int (far p (r (6 + 4 * i)))), (0, .ref (ad 233)), (1, .int (nI k)), (2, .int p), (3, .int t), (4, .int c), (5, .int (nI m)), (6, .int (nI ((46 + 50 * k + 5 * m))))]) (dk dX7_make_3 32 rfl) rfl 10 rfl (nI_1 _) (Nat.le_of_ble_eq_true rfl) rfl ?_
                    refine g_goto F (tgt := 143) (dk dX7_make_3 33 rfl) (by decide) ?_
                    refine g_lv (lv' := [(0, .ref (ad 233)), (1, .int (nI k)), (2, .int p), (3, .int t), (4, .int c), (5, .int (nI m)), (6, .int (nI ((46 + 50 * k + 5 * m)))), (7, .int (hcnt r ne p c (i + 1))), (8, .int (nI ((i + 1))))]) [4, 5, 6, 7, 8, 9, 10, 1, 0] rfl ?_
                    exact ih (i + 1) E246 (by omega) (stg_step hE246 (if_neg hh).symm) (fun j hj => ((hO246 j (by omega)).trans (hfr143 j (by omega)))) (by omega)
                  · have nc171 : ¬ ne ≤ i := fun h => c171 ((nI_leI (a := ne) (b := i) (by omega) (by omega)).mpr h)
                    refine g_aload_n F (q := 175) (dk dX7_make_2 23 rfl) rfl rfl 1 rfl ?_
                    refine g_iload F (q := 177) (dk dX7_make_2 24 rfl) rfl 9 rfl ?_
                    refine g_iconst F (q := 178) (v := 1) (dk dX7_make_2 25 rfl) rfl (by decide) ?_
                    refine g_callVI F (q := 181) (av := [.int (nI i), .int 1]) (st := []) (c_X7_of (e := i) (w := 1) hc9 hf (by first | assumption | decide | omega)) kv_X7_of tq_718 hc9 rfl (by omega) ⟨rfl, rfl⟩ (by decide) ⟨Nat.le_refl _, Nat.le_refl _⟩ rfl rfl (Nat.le_of_ble_eq_true rfl) (dk dX7_make_2 26 rfl) rfl (fun r178 E178 hp178 => ?_)
                    obtain ⟨rfl, rfl⟩ := hp178
                    refine g_sti (y := (r (6 + 4 * i + 1))) (stg_lo (by omega) _) ?_
                    refine g_if_ne F (q := 184) (tgt := 195) (dk dX7_make_2 27 rfl) (by decide) rfl (fun c181 => ?_) (fun c181 => ?_)
                    · refine g_iconst F (q := 196) (v := 0) (dk dX7_make_2 33 rfl) rfl (by decide) ?_
                      have hh : ¬ (i < ne ∧ r (6 + 4 * i + 1) = 0 ∧ far p (r (6 + 4 * i)) ≤ c) := fun h => c181 h.2.1
                      refine g_istore F (q := 198) (lv' := [(10, .int 0), (9, .int (far p (r (6 + 4 * i)))), (0, .ref (ad 233)), (1, .int (nI k)), (2, .int p), (3, .int t), (4, .int c), (5, .int (nI m)), (6, .int (nI ((46 + 50 * k + 5 * m)))), (7, .int (hcnt r ne p c i)), (8, .int (nI i))]) (dk dX7_make_2 34 rfl) rfl (Nat.le_of_ble_eq_true rfl) rfl ?_
                      refine g_aload_n F (q := 199) (dk dX7_make_2 35 rfl) rfl rfl 2 rfl ?_
                      refine g_getf F (q := 202) hc9 rfl inX7 (by omega) (j := 0) (by decide) tq_623 rfl rfl (dk dX7_make_2 36 rfl) rfl ?_
                      refine g_sipush F (q := 205) (v := 146) (dk dX7_make_2 37 rfl) rfl (by decide) ?_
                      refine g_bipush F (q := 207) (v := 100) (dk dX7_make_2 38 rfl) rfl (by decide) ?_
                      refine g_iload_n F (q := 208) (dk dX7_make_2 39 rfl) rfl rfl 3 rfl ?_
                      refine g_imul F (q := 209) (dk dX7_make_3 0 rfl) rfl ?_
                      refine g_iadd F (q := 210) (dk dX7_make_3 1 rfl) rfl ?_
                      refine g_bipush F (q := 212) (v := 10) (dk dX7_make_3 2 rfl) rfl (by decide) ?_
                      refine g_iload F (q := 214) (dk dX7_make_3 3 rfl) rfl 7 rfl ?_
                      refine g_imul F (q := 215) (dk dX7_make_3 4 rfl) rfl ?_
                      refine g_iadd F (q := 216) (dk dX7_make_3 5 rfl) rfl ?_
                      refine g_iload F (q := 218) (dk dX7_make_3 6 rfl) rfl 10 rfl ?_
                      refine g_iadd F (q := 219) (dk dX7_make_3 7 rfl) rfl ?_
                      refine g_iload F (q := 221) (dk dX7_make_3 8 rfl) rfl 0 rfl ?_
                      refine g_if_eq F (q := 224) (tgt := 244) (dk dX7_make_3 9 rfl) (by decide) rfl (fun _ => ?_) (fun h => absurd h (by decide))
                      refine g_ldc F (q := 246) (v := (-1000000000)) (dk dX7_make_3 22 rfl) rfl tq_622 ?_
                      refine g_sti (y := MISS) rfl ?_
                      refine g_iast F (q := 247) ((((146 + (100 * k)) + (10 * m)) + i)) hf (by omega) (nA (nA (nA rfl (nM rfl rfl)) (nM rfl rfl)) rfl) (by omega) (by decide) (dk dX7_make_3 23 rfl) rfl (fun E246 hE246 hO246 => ?_)
                      refine g_iload F (q := 249) (dk dX7_make_3 24 rfl) rfl 9 rfl ?_
                      refine g_iload F (q := 251) (dk dX7_make_3 25 rfl) rfl 0 rfl ?_
                      refine g_if_eq F (q := 254) (tgt := 258) (dk dX7_make_3 26 rfl) (by decide) rfl (fun _ => ?_) (fun h => absurd h (by decide))
                      refine g_iconst F (q := 259) (v := 0) (dk dX7_make_3 29 rfl) rfl (by decide) ?_
                      refine g_iadd F (q := 260) (dk dX7_make_3 30 rfl) rfl ?_
                      refine g_sti (y := (hcnt r ne p c (i + 1))) (by rw [hcnt, if_neg hh]) ?_
                      refine g_istore F (q := 262) (lv' := [(7, .int (hcnt r ne p c (i + 1))), (10, .int 0), (9, .int (far p (r (6 + 4 * i)))), (0, .ref (ad 233)), (1, .int (nI k)), (2, .int p), (3, .int t), (4, .int c), (5, .int (nI m)), (6, .int (nI ((46 + 50 * k + 5 * m)))), (8, .int (nI i))]) (dk dX7_make_3 31 rfl) rfl (Nat.le_of_ble_eq_true rfl) rfl ?_
                      refine g_iinc F (q := 265) (v := (nI ((i + 1)))) (lv' := [(8, .int (nI ((i + 1)))), (7, .int (hcnt r ne p c (i + 1))), (10, .int 0), (9, .int (far p (r (6 + 4 * i)))), (0, .ref (ad 233)), (1, .int (nI k)), (2, .int p), (3, .int t), (4, .int c), (5, .int (nI m)), (6, .int (nI ((46 + 50 * k + 5 * m))))]) (dk dX7_make_3 32 rfl) rfl 10 rfl (nI_1 _) (Nat.le_of_ble_eq_true rfl) rfl ?_
                      refine g_goto F (tgt := 143) (dk dX7_make_3 33 rfl) (by decide) ?_
                      refine g_lv (lv' := [(0, .ref (ad 233)), (1, .int (nI k)), (2, .int p), (3, .int t), (4, .int c), (5, .int (nI m)), (6, .int (nI ((46 + 50 * k + 5 * m)))), (7, .int (hcnt r ne p c (i + 1))), (8, .int (nI ((i + 1))))]) [4, 5, 6, 7, 8, 9, 10, 1, 0] rfl ?_
                      exact ih (i + 1) E246 (by omega) (stg_step hE246 (if_neg hh).symm) (fun j hj => ((hO246 j (by omega)).trans (hfr143 j (by omega)))) (by omega)
                    · refine g_iload F (q := 186) (dk dX7_make_2 28 rfl) rfl 0 rfl ?_
                      refine g_iload F (q := 188) (dk dX7_make_2 29 rfl) rfl 5 rfl ?_
                      refine g_icmp_gt F (q := 191) (tgt := 195) (dk dX7_make_2 30 rfl) (by decide) rfl (fun c188 => ?_) (fun c188 => ?_)
                      · refine g_iconst F (q := 196) (v := 0) (dk dX7_make_2 33 rfl) rfl (by decide) ?_
                        have hh : ¬ (i < ne ∧ r (6 + 4 * i + 1) = 0 ∧ far p (r (6 + 4 * i)) ≤ c) := fun h => absurd h.2.2 (Int32.not_le.mpr c188)
                        refine g_istore F (q := 198) (lv' := [(10, .int 0), (9, .int (far p (r (6 + 4 * i)))), (0, .ref (ad 233)), (1, .int (nI k)), (2, .int p), (3, .int t), (4, .int c), (5, .int (nI m)), (6, .int (nI ((46 + 50 * k + 5 * m)))), (7, .int (hcnt r ne p c i)), (8, .int (nI i))]) (dk dX7_make_2 34 rfl) rfl (Nat.le_of_ble_eq_true rfl) rfl ?_
                        refine g_aload_n F (q := 199) (dk dX7_make_2 35 rfl) rfl rfl 2 rfl ?_
                        refine g_getf F (q := 202) hc9 rfl inX7 (by omega) (j := 0) (by decide) tq_623 rfl rfl (dk dX7_make_2 36 rfl) rfl ?_
                        refine g_sipush F (q := 205) (v := 146) (dk dX7_make_2 37 rfl) rfl (by decide) ?_
                        refine g_bipush F (q := 207) (v := 100) (dk dX7_make_2 38 rfl) rfl (by decide) ?_
                        refine g_iload_n F (q := 208) (dk dX7_make_2 39 rfl) rfl rfl 3 rfl ?_
                        refine g_imul F (q := 209) (dk dX7_make_3 0 rfl) rfl ?_
                        refine g_iadd F (q := 210) (dk dX7_make_3 1 rfl) rfl ?_
                        refine g_bipush F (q := 212) (v := 10) (dk dX7_make_3 2 rfl) rfl (by decide) ?_
                        refine g_iload F (q := 214) (dk dX7_make_3 3 rfl) rfl 7 rfl ?_
                        refine g_imul F (q := 215) (dk dX7_make_3 4 rfl) rfl ?_
                        refine g_iadd F (q := 216) (dk dX7_make_3 5 rfl) rfl ?_
                        refine g_iload F (q := 218) (dk dX7_make_3 6 rfl) rfl 10 rfl ?_
                        refine g_iadd F (q := 219) (dk dX7_make_3 7 rfl) rfl ?_
                        refine g_iload F (q := 221) (dk dX7_make_3 8 rfl) rfl 0 rfl ?_
                        refine g_if_eq F (q := 224) (tgt := 244) (dk dX7_make_3 9 rfl) (by decide) rfl (fun _ => ?_) (fun h => absurd h (by decide))
                        refine g_ldc F (q := 246) (v := (-1000000000)) (dk dX7_make_3 22 rfl) rfl tq_622 ?_
                        refine g_sti (y := MISS) rfl ?_
                        refine g_iast F (q := 247) ((((146 + (100 * k)) + (10 * m)) + i)) hf (by omega) (nA (nA (nA rfl (nM rfl rfl)) (nM rfl rfl)) rfl) (by omega) (by decide) (dk dX7_make_3 23 rfl) rfl (fun E246 hE246 hO246 => ?_)
                        refine g_iload F (q := 249) (dk dX7_make_3 24 rfl) rfl 9 rfl ?_
                        refine g_iload F (q := 251) (dk dX7_make_3 25 rfl) rfl 0 rfl ?_
                        refine g_if_eq F (q := 254) (tgt := 258) (dk dX7_make_3 26 rfl) (by decide) rfl (fun _ => ?_) (fun h => absurd h (by decide))
                        refine g_iconst F (q := 259) (v := 0) (dk dX7_make_3 29 rfl) rfl (by decide) ?_
                        refine g_iadd F (q := 260) (dk dX7_make_3 30 rfl) rfl ?_
                        refine g_sti (y := (hcnt r ne p c (i + 1))) (by rw [hcnt, if_neg hh]) ?_
                        refine g_istore F (q := 262) (lv' := [(7, .int (hcnt r ne p c (i + 1))), (10, .int 0), (9, .int (far p (r (6 + 4 * i)))), (0, .ref (ad 233)), (1, .int (nI k)), (2, .int p), (3, .int t), (4, .int c), (5, .int (nI m)), (6, .int (nI ((46 + 50 * k + 5 * m)))), (8, .int (nI i))]) (dk dX7_make_3 31 rfl) rfl (Nat.le_of_ble_eq_true rfl) rfl ?_
                        refine g_iinc F (q := 265) (v := (nI ((i + 1)))) (lv' := [(8, .int (nI ((i + 1)))), (7, .int (hcnt r ne p c (i + 1))), (10, .int 0), (9, .int (far p (r (6 + 4 * i)))), (0, .ref (ad 233)), (1, .int (nI k)), (2, .int p), (3, .int t), (4, .int c), (5, .int (nI m)), (6, .int (nI ((46 + 50 * k + 5 * m))))]) (dk dX7_make_3 32 rfl) rfl 10 rfl (nI_1 _) (Nat.le_of_ble_eq_true rfl) rfl ?_
                        refine g_goto F (tgt := 143) (dk dX7_make_3 33 rfl) (by decide) ?_
                        refine g_lv (lv' := [(0, .ref (ad 233)), (1, .int (nI k)), (2, .int p), (3, .int t), (4, .int c), (5, .int (nI m)), (6, .int (nI ((46 + 50 * k + 5 * m)))), (7, .int (hcnt r ne p c (i + 1))), (8, .int (nI ((i + 1))))]) [4, 5, 6, 7, 8, 9, 10, 1, 0] rfl ?_
                        exact ih (i + 1) E246 (by omega) (stg_step hE246 (if_neg hh).symm) (fun j hj => ((hO246 j (by omega)).trans (hfr143 j (by omega)))) (by omega)
                      · refine g_iconst F (q := 192) (v := 1) (dk dX7_make_2 31 rfl) rfl (by decide) ?_
                        refine g_goto F (tgt := 196) (dk dX7_make_2 32 rfl) (by decide) ?_
                        have hh : i < ne ∧ r (6 + 4 * i + 1) = 0 ∧ far p (r (6 + 4 * i)) ≤ c := ⟨by omega, c181, Int32.not_lt.mp c188⟩
                        refine g_istore F (q := 198) (lv' := [(10, .int 1), (9, .int (far p (r (6 + 4 * i)))), (0, .ref (ad 233)), (1, .int (nI k)), (2, .int p), (3, .int t), (4, .int c), (5, .int (nI m)), (6, .int (nI ((46 + 50 * k + 5 * m)))), (7, .int (hcnt r ne p c i)), (8, .int (nI i))]) (dk dX7_make_2 34 rfl) rfl (Nat.le_of_ble_eq_true rfl) rfl ?_
                        refine g_aload_n F (q := 199) (dk dX7_make_2 35 rfl) rfl rfl 2 rfl ?_
                        refine g_getf F (q := 202) hc9 rfl inX7 (by omega) (j := 0) (by decide) tq_623 rfl rfl (dk dX7_make_2 36 rfl) rfl ?_
                        refine g_sipush F (q := 205) (v := 146) (dk dX7_make_2 37 rfl) rfl (by decide) ?_
                        refine g_bipush F (q := 207) (v := 100) (dk dX7_make_2 38 rfl) rfl (by decide) ?_
                        refine g_iload_n F (q := 208) (dk dX7_make_2 39 rfl) rfl rfl 3 rfl ?_
                        refine g_imul F (q := 209) (dk dX7_make_3 0 rfl) rfl ?_
                        refine g_iadd F (q := 210) (dk dX7_make_3 1 rfl) rfl ?_
                        refine g_bipush F (q := 212) (v := 10) (dk dX7_make_3 2 rfl) rfl (by decide) ?_
                        refine g_iload F (q := 214) (dk dX7_make_3 3 rfl) rfl 7 rfl ?_
                        refine g_imul F (q := 215) (dk dX7_make_3 4 rfl) rfl ?_
                        refine g_iadd F (q := 216) (dk dX7_make_3 5 rfl) rfl ?_
                        refine g_iload F (q := 218) (dk dX7_make_3 6 rfl) rfl 10 rfl ?_
                        refine g_iadd F (q := 219) (dk dX7_make_3 7 rfl) rfl ?_
                        refine g_iload F (q := 221) (dk dX7_make_3 8 rfl) rfl 0 rfl ?_
                        refine g_if_eq F (q := 224) (tgt := 244) (dk dX7_make_3 9 rfl) (by decide) rfl (fun h => absurd h (by decide)) (fun _ => ?_)
                        refine g_aload_n F (q := 225) (dk dX7_make_3 10 rfl) rfl rfl 2 rfl ?_
                        refine g_iload F (q := 227) (dk dX7_make_3 11 rfl) rfl 10 rfl ?_
                        refine g_iload_n F (q := 228) (dk dX7_make_3 12 rfl) rfl rfl 5 rfl ?_
                        refine g_aload_n F (q := 229) (dk dX7_make_3 13 rfl) rfl rfl 2 rfl ?_
                        refine g_getf F (q := 232) hc9 rfl inX7 (by omega) (j := 0) (by decide) tq_623 rfl rfl (dk dX7_make_3 14 rfl) rfl ?_
                        refine g_iconst F (q := 233) (v := 3) (dk dX7_make_3 15 rfl) rfl (by decide) ?_
                        refine g_iald F (q := 234) 3 hf (by omega) rfl (by omega) (by decide) (dk dX7_make_3 16 rfl) rfl ?_
                        refine g_sti (y := (r 3)) (stg_lo (by omega) _) ?_
                        refine g_iload F (q := 236) (dk dX7_make_3 17 rfl) rfl 1 rfl ?_
                        refine g_imul F (q := 237) (dk dX7_make_3 18 rfl) rfl ?_
                        refine g_iadd F (q := 238) (dk dX7_make_3 19 rfl) rfl ?_
                        refine g_callVI F (q := 241) (av := [.int (nI i), .int (t + ((r 3) * (far p (r (6 + 4 * i)))))]) (st := [.int (((146 + (100 * (nI k))) + (10 * (nI m))) + (nI i)), .ref (ad 234)]) (c_X7_reads (e := i) (t := (t + ((r 3) * (far p (r (6 + 4 * i)))))) hc9 hf (by first | assumption | decide | omega)) kv_X7_reads tq_750 hc9 rfl (by omega) ⟨rfl, rfl⟩ (by decide) ⟨Nat.le_refl _, Nat.le_refl _⟩ rfl rfl (Nat.le_of_ble_eq_true rfl) (dk dX7_make_3 20 rfl) rfl (fun r238 E238 hp238 => ?_)
                        obtain ⟨rfl, rfl⟩ := hp238
                        refine g_sti (y := (rdc r i (t + r 3 * far p (r (6 + 4 * i))))) (rdc_cg (by omega) (fun j hj => stg_lo hj _)) ?_
                        refine g_goto F (tgt := 246) (dk dX7_make_3 21 rfl) (by decide) ?_
                        refine g_iast F (q := 247) ((((146 + (100 * k)) + (10 * m)) + i)) hf (by omega) (nA (nA (nA rfl (nM rfl rfl)) (nM rfl rfl)) rfl) (by omega) (by decide) (dk dX7_make_3 23 rfl) rfl (fun E246 hE246 hO246 => ?_)
                        refine g_iload F (q := 249) (dk dX7_make_3 24 rfl) rfl 9 rfl ?_
                        refine g_iload F (q := 251) (dk dX7_make_3 25 rfl) rfl 0 rfl ?_
                        refine g_if_eq F (q := 254) (tgt := 258) (dk dX7_make_3 26 rfl) (by decide) rfl (fun h => absurd h (by decide)) (fun _ => ?_)
                        refine g_iconst F (q := 255) (v := 1) (dk dX7_make_3 27 rfl) rfl (by decide) ?_
                        refine g_goto F (tgt := 259) (dk dX7_make_3 28 rfl) (by decide) ?_
                        refine g_iadd F (q := 260) (dk dX7_make_3 30 rfl) rfl ?_
                        refine g_sti (y := (hcnt r ne p c (i + 1))) (by rw [hcnt, if_pos hh]) ?_
                        refine g_istore F (q := 262) (lv' := [(7, .int (hcnt r ne p c (i + 1))), (10, .int 1), (9, .int (far p (r (6 + 4 * i)))), (0, .ref (ad 233)), (1, .int (nI k)), (2, .int p), (3, .int t), (4, .int c), (5, .int (nI m)), (6, .int (nI ((46 + 50 * k + 5 * m)))), (8, .int (nI i))]) (dk dX7_make_3 31 rfl) rfl (Nat.le_of_ble_eq_true rfl) rfl ?_
                        refine g_iinc F (q := 265) (v := (nI ((i + 1)))) (lv' := [(8, .int (nI ((i + 1)))), (7, .int (hcnt r ne p c (i + 1))), (10, .int 1), (9, .int (far p (r (6 + 4 * i)))), (0, .ref (ad 233)), (1, .int (nI k)), (2, .int p), (3, .int t), (4, .int c), (5, .int (nI m)), (6, .int (nI ((46 + 50 * k + 5 * m))))]) (dk dX7_make_3 32 rfl) rfl 10 rfl (nI_1 _) (Nat.le_of_ble_eq_true rfl) rfl ?_
                        refine g_goto F (tgt := 143) (dk dX7_make_3 33 rfl) (by decide) ?_
                        refine g_lv (lv' := [(0, .ref (ad 233)), (1, .int (nI k)), (2, .int p), (3, .int t), (4, .int c), (5, .int (nI m)), (6, .int (nI ((46 + 50 * k + 5 * m)))), (7, .int (hcnt r ne p c (i + 1))), (8, .int (nI ((i + 1))))]) [4, 5, 6, 7, 8, 9, 10, 1, 0] rfl ?_
                        exact ih (i + 1) E246 (by omega) (stg_step hE246 (if_pos hh).symm) (fun j hj => ((hO246 j (by omega)).trans (hfr143 j (by omega)))) (by omega)
            refine g_lv (lv' := [(0, .ref (ad 233)), (1, .int (nI k)), (2, .int p), (3, .int t), (4, .int c), (5, .int (nI m)), (6, .int (nI (((46 + (50 * k)) + (5 * m))))), (7, .int 0), (8, .int 0)]) [4, 5, 6, 7, 8, 3, 2, 1, 0] rfl ?_
            exact K143 _ 0 E136 (Nat.lt_succ_self _) hE136 (fun j _ => rfl) (by omega)
          · have nc63 : m = 10 := (nI_eq (a := m) (b := 10) (by omega) (by omega)).mp c63
            refine g_bipush F (q := 68) (v := (-3)) (dk dX7_make_0 35 rfl) rfl (by decide) ?_
            have hs : mkS r ne k m p t c = (-3, r) := by unfold mkS; rw [if_pos ⟨b5, b15, b27⟩, if_neg (Int32.not_lt.mpr c43), if_pos nc63]
            refine hret (-3) E _ _ (dk dX7_make_0 36 rfl) (nint _) ?_
            exact ⟨(by rw [hs]), (by rw [hs]; exact h234), (fun j _ => rfl)⟩
        · refine g_bipush F (q := 48) (v := (-4)) (dk dX7_make_0 23 rfl) rfl (by decide) ?_
          have hs : mkS r ne k m p t c = (-4, r) := by unfold mkS; rw [if_pos ⟨b5, b15, b27⟩, if_pos (Int32.not_le.mp c43)]
          refine hret (-4) E _ _ (dk dX7_make_0 24 rfl) (nint _) ?_
          exact ⟨(by rw [hs]), (by rw [hs]; exact h234), (fun j _ => rfl)⟩
      · refine g_if_ne F (q := 33) (tgt := 36) (dk dX7_make_0 14 rfl) (by decide) rfl (fun h => absurd h (by decide)) (fun _ => ?_)
        refine g_bipush F (q := 35) (v := (-2)) (dk dX7_make_0 15 rfl) rfl (by decide) ?_
        have hs : mkS r ne k m p t c = (-2, r) := if_neg (fun h => b27 h.2.2)
        refine hret (-2) E _ _ (dk dX7_make_0 16 rfl) (nint _) ?_
        exact ⟨(by rw [hs]), (by rw [hs]; exact h234), (fun j _ => rfl)⟩
    · refine g_if_eq F (q := 21) (tgt := 33) (dk dX7_make_0 9 rfl) (by decide) rfl (fun _ => ?_) (fun h => absurd h (by decide))
      refine g_bipush F (q := 35) (v := (-2)) (dk dX7_make_0 15 rfl) rfl (by decide) ?_
      have hs : mkS r ne k m p t c = (-2, r) := if_neg (fun h => b15 h.2.1)
      refine hret (-2) E _ _ (dk dX7_make_0 16 rfl) (nint _) ?_
      exact ⟨(by rw [hs]), (by rw [hs]; exact h234), (fun j _ => rfl)⟩
  · refine g_if_eq F (q := 11) (tgt := 33) (dk dX7_make_0 4 rfl) (by decide) rfl (fun _ => ?_) (fun h => absurd h (by decide))
    refine g_bipush F (q := 35) (v := (-2)) (dk dX7_make_0 15 rfl) rfl (by decide) ?_
    have hs : mkS r ne k m p t c = (-2, r) := if_neg (fun h => b5 h.1)
    refine hret (-2) E _ _ (dk dX7_make_0 16 rfl) (nint _) ?_
    exact ⟨(by rw [hs]), (by rw [hs]; exact h234), (fun j _ => rfl)⟩
theorem kv_X7_make : KV yX7_make "ThumpEarsModel" cX7_make 11 (some .int) 4 := ⟨tq_744, tq_16, tq_47, tq_745, by decide +kernel⟩
abbrev rm_X7_act : Room := { frames := 3, cells := 0, slots := 0, locals := 77 }
set_option maxHeartbeats 4000000 in
set_option maxRecDepth 100000 in
theorem c_X7_act {l : Launch} {D : va_G} {cA : Nat → ClassId} {ad : Nat → Nat} {E : Nat → va_E} {nh : Nat} {s1 s2 s3 s4 s5 : Int32} {lo mo : Int64} {r past bef : Nat → Int32} {ne k m : Nat} {p t c : Int32} (h233 : E 233 = .inr (7, [.ref (ad 234), .ref (ad 235), .ref (ad 236), .ref (ad 237), .int (nI nh), .int s1, .ref (ad 238), .int s2, .int s3, .int s4, .int s5, .ref (ad 239), .ref (ad 240), .ref (ad 241), .long lo, .long mo, .ref (ad 242)])) (h234 : E 234 = .inl (cA 0, 346, .inl r)) (h235 : E 235 = .inl (cA 0, 1384, .inl past)) (h237 : E 237 = .inl (cA 0, 346, .inl bef))  (hnh : nh ≤ 4) (hk : k < 2) (h0 : r 0 = nI ne) (hne : ne ≤ 10) (hm : r (1 + k) = nI m) (hm10 : m ≤ 10) : CtI l D cA yX7_act cX7_act 6 .int rm_X7_act 243 ad E [.ref (ad 233), .int (nI k), .int p, .int t, .int c] (fun x E' => ∃ (f : Nat → Int32) (q : Nat → Int32) (g : Nat → Int32) (n2 : Nat), (sAct r ne k m p t c).1 = x ∧ E' 233 = .inr (7, [.ref (ad 234), .ref (ad 235), .ref (ad 236), .ref (ad 237), .int (nI n2), .int s1, .ref (ad 238), .int s2, .int s3, .int s4, .int s5, .ref (ad 239), .ref (ad 240), .ref (ad 241), .long lo, .long mo, .ref (ad 242)]) ∧ E' 234 = .inl (cA 0, 346, .inl f) ∧ E' 235 = .inl (cA 0, 1384, .inl q) ∧ E' 237 = .inl (cA 0, 346, .inl g) ∧ (NX ((sAct r ne k m p t c).2) r past nh f q n2) ∧ ∀ j, (j ≠ 233 ∧ j ≠ 234 ∧ j ≠ 235 ∧ j ≠ 237) → E' j = E j) := by
  refine CtI.of (by decide +kernel) (Nat.le_of_ble_eq_true rfl) (fun X F hret => ?_)
  have F : Fr "ThumpEarsModel" cX7_act 6 D cA X := F
  refine (show GG rm_X7_act 6 l D X 0 0 243 ad E 0 [(0, .ref (ad 233)), (1, .int (nI k)), (2, .int p), (3, .int t), (4, .int c)] [] from ?_)
  refine g_aload_n F (q := 1) (dk dX7_act 0 rfl) rfl rfl 0 rfl ?_
  refine g_callVV F (q := 4) (av := []) (st := []) (c_X7_remember h233 h234 h237) kv_X7_remember tq_695 h233 rfl (by omega) ⟨rfl, rfl⟩ (by decide) ⟨Nat.le_refl _, Nat.le_refl _⟩ rfl rfl (Nat.le_of_ble_eq_true rfl) (dk dX7_act 1 rfl) rfl (fun E1 hp1 => ?_)
  obtain ⟨g_1, hK237_1, hg2_1, hF1⟩ := hp1
  refine g_aload_n F (q := 5) (dk dX7_act 2 rfl) rfl rfl 0 rfl ?_
  refine g_iload_n F (q := 6) (dk dX7_act 3 rfl) rfl rfl 1 rfl ?_
  refine g_iload_n F (q := 7) (dk dX7_act 4 rfl) rfl rfl 2 rfl ?_
  refine g_iload_n F (q := 8) (dk dX7_act 5 rfl) rfl rfl 3 rfl ?_
  refine g_iload F (q := 10) (dk dX7_act 6 rfl) rfl 4 rfl ?_
  have hc1 := (hF1 233 (by omega)).trans h233
  have hc2 := (hF1 234 (by omega)).trans h234
  refine g_callVI F (q := 13) (av := [.int (nI k), .int p, .int t, .int c]) (st := []) (c_X7_make (k := k) (p := p) (t := t) (c := c) hc1 hc2 (by first | assumption | decide | omega) (by first | assumption | decide | omega) (by first | assumption | decide | omega) (by first | assumption | decide | omega) (by first | assumption | decide | omega)) kv_X7_make tq_742 hc1 rfl (by omega) ⟨rfl, rfl⟩ (by decide) ⟨Nat.le_refl _, Nat.le_refl _⟩ rfl rfl (Nat.le_of_ble_eq_true rfl) (dk dX7_act 7 rfl) rfl (fun r10 E10 hp10 => ?_)
  obtain ⟨rfl, hK234_10, hF10⟩ := hp10
  refine g_istore F (q := 15) (lv' := [(5, .int (mkS r ne k m p t c).1), (0, .ref (ad 233)), (1, .int (nI k)), (2, .int p), (3, .int t), (4, .int c)]) (dk dX7_act 8 rfl) rfl (Nat.le_of_ble_eq_true rfl) rfl ?_
  refine g_iload F (q := 17) (dk dX7_act 9 rfl) rfl 0 rfl ?_
  refine g_if_lt F (q := 20) (tgt := 24) (dk dX7_act 10 rfl) (by decide) rfl (fun c17 => ?_) (fun c17 => ?_)
  · refine g_iload F (q := 26) (dk dX7_act 13 rfl) rfl 0 rfl ?_
    have hs : sAct r ne k m p t c = ((mkS r ne k m p t c).1, none) := if_pos c17
    have hc3 := (hF10 233 (by omega)).trans hc1
    have hc4 := (hF1 235 (by omega)).trans h235
    have hc5 := (hF10 235 (by omega)).trans hc4
    have hc6 := (hF10 237 (by omega)).trans hK237_1
    refine hret (mkS r ne k m p t c).1 E10 _ _ (dk dX7_act 14 rfl) (nint _) ?_
    exact ⟨_, past, g_1, nh, (by rw [hs]), hc3, hK234_10, hc5, hc6, (by rw [hs]; exact ⟨rfl, (by rw [mkS_err c17]; exact eqN.rf), fun _ _ => eqN.rf⟩), (fun j hj => ((hF10 j (by omega)).trans (hF1 j (by omega))))⟩
  · refine g_aload_n F (q := 21) (dk dX7_act 11 rfl) rfl rfl 1 rfl ?_
    have hc7 := (hF10 233 (by omega)).trans hc1
    have hc8 := (hF1 235 (by omega)).trans h235
    have hc9 := (hF10 235 (by omega)).trans hc8
    have hc10 := (hF10 237 (by omega)).trans hK237_1
    refine g_callVV F (q := 24) (av := []) (st := []) (c_X7_record hc7 hc9 hc10 (by first | assumption | decide | omega)) kv_X7_record tq_699 hc7 rfl (by omega) ⟨rfl, rfl⟩ (by decide) ⟨Nat.le_refl _, Nat.le_refl _⟩ rfl rfl (Nat.le_of_ble_eq_true rfl) (dk dX7_act 12 rfl) rfl (fun E21 hp21 => ?_)
    obtain ⟨q_21, hK233_21, hK235_21, hp_21, hF21⟩ := hp21
    refine g_iload F (q := 26) (dk dX7_act 13 rfl) rfl 0 rfl ?_
    have hs : sAct r ne k m p t c = ((mkS r ne k m p t c).1, some (mkS r ne k m p t c).2) := if_neg c17
    have hc11 := (hF21 234 (by omega)).trans hK234_10
    have hc12 := (hF21 237 (by omega)).trans hc10
    refine hret (mkS r ne k m p t c).1 E21 _ _ (dk dX7_act 14 rfl) (nint _) ?_
    exact ⟨_, q_21, g_1, (nup nh), (by rw [hs]), hK233_21, hc11, hK235_21, hc12, (by rw [hs]; exact ⟨rfl, eqN.rf, hpush_cg hg2_1 hp_21⟩), (fun j hj => (((hF21 j (by omega)).trans (hF10 j (by omega))).trans (hF1 j (by omega))))⟩
theorem kv_X7_act : KV yX7_act "ThumpEarsModel" cX7_act 6 (some .int) 4 := ⟨tq_740, tq_15, tq_47, tq_741, by decide +kernel⟩
abbrev rm_X7_thump : Room := { frames := 4, cells := 0, slots := 0, locals := 102 }
set_option maxHeartbeats 4000000 in
set_option maxRecDepth 100000 in
theorem c_X7_thump {l : Launch} {D : va_G} {cA : Nat → ClassId} {ad : Nat → Nat} {E : Nat → va_E} {nh : Nat} {s1 s2 s3 s4 s5 : Int32} {lo mo : Int64} {r past bef : Nat → Int32} {ne m : Nat} {p t c : Int32} (h233 : E 233 = .inr (7, [.ref (ad 234), .ref (ad 235), .ref (ad 236), .ref (ad 237), .int (nI nh), .int s1, .ref (ad 238), .int s2, .int s3, .int s4, .int s5, .ref (ad 239), .ref (ad 240), .ref (ad 241), .long lo, .long mo, .ref (ad 242)])) (h234 : E 234 = .inl (cA 0, 346, .inl r)) (h235 : E 235 = .inl (cA 0, 1384, .inl past)) (h237 : E 237 = .inl (cA 0, 346, .inl bef))  (hnh : nh ≤ 4) (h0 : r 0 = nI ne) (hne : ne ≤ 10) (hm : r (1 + 0) = nI m) (hm10 : m ≤ 10) : CtI l D cA yX7_thump cX7_thump 4 .int rm_X7_thump 243 ad E [.ref (ad 233), .int p, .int t, .int c] (fun x E' => ∃ (f : Nat → Int32) (q : Nat → Int32) (g : Nat → Int32) (n2 : Nat), (sAct r ne 0 m p t c).1 = x ∧ E' 233 = .inr (7, [.ref (ad 234), .ref (ad 235), .ref (ad 236), .ref (ad 237), .int (nI n2), .int s1, .ref (ad 238), .int s2, .int s3, .int s4, .int s5, .ref (ad 239), .ref (ad 240), .ref (ad 241), .long lo, .long mo, .ref (ad 242)]) ∧ E' 234 = .inl (cA 0, 346, .inl f) ∧ E' 235 = .inl (cA 0, 1384, .inl q) ∧ E' 237 = .inl (cA 0, 346, .inl g) ∧ (NX ((sAct r ne 0 m p t c).2) r past nh f q n2) ∧ ∀ j, (j ≠ 233 ∧ j ≠ 234 ∧ j ≠ 235 ∧ j ≠ 237) → E' j = E j) := by
  refine CtI.of (by decide +kernel) (Nat.le_of_ble_eq_true rfl) (fun X F hret => ?_)
  have F : Fr "ThumpEarsModel" cX7_thump 4 D cA X := F
  refine (show GG rm_X7_thump 4 l D X 0 0 243 ad E 0 [(0, .ref (ad 233)), (1, .int p), (2, .int t), (3, .int c)] [] from ?_)
  refine g_aload_n F (q := 1) (dk dX7_thump 0 rfl) rfl rfl 0 rfl ?_
  refine g_iconst F (q := 2) (v := 0) (dk dX7_thump 1 rfl) rfl (by decide) ?_
  refine g_iload_n F (q := 3) (dk dX7_thump 2 rfl) rfl rfl 1 rfl ?_
  refine g_iload_n F (q := 4) (dk dX7_thump 3 rfl) rfl rfl 2 rfl ?_
  refine g_iload_n F (q := 5) (dk dX7_thump 4 rfl) rfl rfl 3 rfl ?_
  refine g_callVI F (q := 8) (av := [.int 0, .int p, .int t, .int c]) (st := []) (c_X7_act (k := 0) (p := p) (t := t) (c := c) h233 h234 h235 h237 (by first | assumption | decide | omega) (by omega) (by first | assumption | decide | omega) (by first | assumption | decide | omega) (by first | assumption | decide | omega) (by first | assumption | decide | omega)) kv_X7_act tq_738 h233 rfl (by omega) ⟨rfl, rfl⟩ (by decide) ⟨Nat.le_refl _, Nat.le_refl _⟩ rfl rfl (Nat.le_of_ble_eq_true rfl) (dk dX7_thump 5 rfl) rfl (fun r5 E5 hp5 => ?_)
  obtain ⟨f_5, q_5, g_5, n2_5, rfl, hK233_5, hK234_5, hK235_5, hK237_5, hx_5, hF5⟩ := hp5
  refine hret (sAct r ne 0 m p t c).1 E5 _ _ (dk dX7_thump 6 rfl) (nint _) ?_
  exact ⟨_, _, _, _, rfl, hK233_5, hK234_5, hK235_5, hK237_5, hx_5, (fun j hj => (hF5 j (by omega)))⟩
theorem kv_X7_thump : KV yX7_thump "ThumpEarsModel" cX7_thump 4 (some .int) 3 := ⟨tq_735, tq_736, tq_47, tq_737, by decide +kernel⟩
abbrev rm_X7_knock : Room := { frames := 4, cells := 0, slots := 0, locals := 102 }
set_option maxHeartbeats 4000000 in
set_option maxRecDepth 100000 in
theorem c_X7_knock {l : Launch} {D : va_G} {cA : Nat → ClassId} {ad : Nat → Nat} {E : Nat → va_E} {nh : Nat} {s1 s2 s3 s4 s5 : Int32} {lo mo : Int64} {r past bef : Nat → Int32} {ne m : Nat} {p t c : Int32} (h233 : E 233 = .inr (7, [.ref (ad 234), .ref (ad 235), .ref (ad 236), .ref (ad 237), .int (nI nh), .int s1, .ref (ad 238), .int s2, .int s3, .int s4, .int s5, .ref (ad 239), .ref (ad 240), .ref (ad 241), .long lo, .long mo, .ref (ad 242)])) (h234 : E 234 = .inl (cA 0, 346, .inl r)) (h235 : E 235 = .inl (cA 0, 1384, .inl past)) (h237 : E 237 = .inl (cA 0, 346, .inl bef))  (hnh : nh ≤ 4) (h0 : r 0 = nI ne) (hne : ne ≤ 10) (hm : r (1 + 1) = nI m) (hm10 : m ≤ 10) : CtI l D cA yX7_knock cX7_knock 4 .int rm_X7_knock 243 ad E [.ref (ad 233), .int p, .int t, .int c] (fun x E' => ∃ (f : Nat → Int32) (q : Nat → Int32) (g : Nat → Int32) (n2 : Nat), (sAct r ne 1 m p t c).1 = x ∧ E' 233 = .inr (7, [.ref (ad 234), .ref (ad 235), .ref (ad 236), .ref (ad 237), .int (nI n2), .int s1, .ref (ad 238), .int s2, .int s3, .int s4, .int s5, .ref (ad 239), .ref (ad 240), .ref (ad 241), .long lo, .long mo, .ref (ad 242)]) ∧ E' 234 = .inl (cA 0, 346, .inl f) ∧ E' 235 = .inl (cA 0, 1384, .inl q) ∧ E' 237 = .inl (cA 0, 346, .inl g) ∧ (NX ((sAct r ne 1 m p t c).2) r past nh f q n2) ∧ ∀ j, (j ≠ 233 ∧ j ≠ 234 ∧ j ≠ 235 ∧ j ≠ 237) → E' j = E j) := by
  refine CtI.of (by decide +kernel) (Nat.le_of_ble_eq_true rfl) (fun X F hret => ?_)
  have F : Fr "ThumpEarsModel" cX7_knock 4 D cA X := F
  refine (show GG rm_X7_knock 4 l D X 0 0 243 ad E 0 [(0, .ref (ad 233)), (1, .int p), (2, .int t), (3, .int c)] [] from ?_)
  refine g_aload_n F (q := 1) (dk dX7_knock 0 rfl) rfl rfl 0 rfl ?_
  refine g_iconst F (q := 2) (v := 1) (dk dX7_knock 1 rfl) rfl (by decide) ?_
  refine g_iload_n F (q := 3) (dk dX7_knock 2 rfl) rfl rfl 1 rfl ?_
  refine g_iload_n F (q := 4) (dk dX7_knock 3 rfl) rfl rfl 2 rfl ?_
  refine g_iload_n F (q := 5) (dk dX7_knock 4 rfl) rfl rfl 3 rfl ?_
  refine g_callVI F (q := 8) (av := [.int 1, .int p, .int t, .int c]) (st := []) (c_X7_act (k := 1) (p := p) (t := t) (c := c) h233 h234 h235 h237 (by first | assumption | decide | omega) (by omega) (by first | assumption | decide | omega) (by first | assumption | decide | omega) (by first | assumption | decide | omega) (by first | assumption | decide | omega)) kv_X7_act tq_738 h233 rfl (by omega) ⟨rfl, rfl⟩ (by decide) ⟨Nat.le_refl _, Nat.le_refl _⟩ rfl rfl (Nat.le_of_ble_eq_true rfl) (dk dX7_knock 5 rfl) rfl (fun r5 E5 hp5 => ?_)
  obtain ⟨f_5, q_5, g_5, n2_5, rfl, hK233_5, hK234_5, hK235_5, hK237_5, hx_5, hF5⟩ := hp5
  refine hret (sAct r ne 1 m p t c).1 E5 _ _ (dk dX7_knock 6 rfl) (nint _) ?_
  exact ⟨_, _, _, _, rfl, hK233_5, hK234_5, hK235_5, hK237_5, hx_5, (fun j hj => (hF5 j (by omega)))⟩
theorem kv_X7_knock : KV yX7_knock "ThumpEarsModel" cX7_knock 4 (some .int) 3 := ⟨tq_759, tq_760, tq_47, tq_761, by decide +kernel⟩
abbrev rm_X7_type : Room := { frames := 0, cells := 0, slots := 0, locals := 0 }
set_option maxHeartbeats 4000000 in
set_option maxRecDepth 100000 in
theorem c_X7_type {l : Launch} {D : va_G} {cA : Nat → ClassId} {ad : Nat → Nat} {E : Nat → va_E} {ln : Nat} {s0 s1 s3 s4 s5 : Int32} {lo mo : Int64} {txt : Nat → Int32} {ch : Int32} (h233 : E 233 = .inr (7, [.ref (ad 234), .ref (ad 235), .ref (ad 236), .ref (ad 237), .int s0, .int s1, .ref (ad 238), .int (nI ln), .int s3, .int s4, .int s5, .ref (ad 239), .ref (ad 240), .ref (ad 241), .long lo, .long mo, .ref (ad 242)])) (h238 : E 238 = .inl (cA 3, 60, .inl txt))  (hln : ln ≤ 60) (hch : vp_nar .char ch = ch) : CtI l D cA yX7_type cX7_type 2 .int rm_X7_type 243 ad E [.ref (ad 233), .int ch] (fun x E' => (if ln = 60 then (-3 : Int32) else nI (ln + 1)) = x ∧ E' 233 = .inr (7, [.ref (ad 234), .ref (ad 235), .ref (ad 236), .ref (ad 237), .int s0, .int s1, .ref (ad 238), .int (nI ((if ln = 60 then ln else ln + 1))), .int s3, .int s4, .int s5, .ref (ad 239), .ref (ad 240), .ref (ad 241), .long lo, .long mo, .ref (ad 242)]) ∧ E' 238 = .inl (cA 3, 60, .inl (if ln = 60 then txt else upd txt ln ch)) ∧ ∀ j, (j ≠ 233 ∧ j ≠ 238) → E' j = E j) := by
  refine CtI.of (by decide +kernel) (Nat.le_of_ble_eq_true rfl) (fun X F hret => ?_)
  have F : Fr "ThumpEarsModel" cX7_type 2 D cA X := F
  refine (show GG rm_X7_type 2 l D X 0 0 243 ad E 0 [(0, .ref (ad 233)), (1, .int ch)] [] from ?_)
  refine g_aload_n F (q := 1) (dk dX7_type 0 rfl) rfl rfl 0 rfl ?_
  refine g_getf F (q := 4) h233 rfl inX7 (by omega) (j := 7) (by decide) tq_630 rfl rfl (dk dX7_type 1 rfl) rfl ?_
  refine g_bipush F (q := 6) (v := 60) (dk dX7_type 2 rfl) rfl (by decide) ?_
  refine g_icmp_ne F (q := 9) (tgt := 12) (dk dX7_type 3 rfl) (by decide) rfl (fun c6 => ?_) (fun c6 => ?_)
  · have nc6 : ¬ ln = 60 := fun h => c6 ((nI_eq (a := ln) (b := 60) (by omega) (by omega)).mpr h)
    refine g_aload_n F (q := 13) (dk dX7_type 6 rfl) rfl rfl 0 rfl ?_
    refine g_getf F (q := 16) h233 rfl inX7 (by omega) (j := 6) (by decide) tq_629 rfl rfl (dk dX7_type 7 rfl) rfl ?_
    refine g_aload_n F (q := 17) (dk dX7_type 8 rfl) rfl rfl 0 rfl ?_
    refine g_getf F (q := 20) h233 rfl inX7 (by omega) (j := 7) (by decide) tq_630 rfl rfl (dk dX7_type 9 rfl) rfl ?_
    refine g_iload_n F (q := 21) (dk dX7_type 10 rfl) rfl rfl 1 rfl ?_
    refine g_cast F (q := 22) ln h238 (by omega) rfl (by omega) (by decide) hch (dk dX7_type 11 rfl) rfl (fun E21 hE21 hO21 => ?_)
    refine g_aload_n F (q := 23) (dk dX7_type 12 rfl) rfl rfl 0 rfl ?_
    refine g_dup F (q := 24) (dk dX7_type 13 rfl) rfl rfl ?_
    have hc1 := (hO21 233 (by omega)).trans h233
    refine g_getf F (q := 27) hc1 rfl inX7 (by omega) (j := 7) (by decide) tq_630 rfl rfl (dk dX7_type 14 rfl) rfl ?_
    refine g_iconst F (q := 28) (v := 1) (dk dX7_type 15 rfl) rfl (by decide) ?_
    refine g_iadd F (q := 29) (dk dX7_type 16 rfl) rfl ?_
    refine g_sti (nA rfl rfl) ?_
    refine g_putf F (q := 32) (ty := .int) hc1 rfl inX7 tyX7 tyX7_ok nmX7 (by omega) (j := 7) (by decide) tq_630 rfl rfl (by decide +kernel) rfl rfl (Nat.le_of_ble_eq_true rfl) (dk dX7_type 17 rfl) rfl (fun E29 hE29 hO29 => ?_)
    have hE29 : E29 233 = .inr (7, [.ref (ad 234), .ref (ad 235), .ref (ad 236), .ref (ad 237), .int s0, .int s1, .ref (ad 238), .int (nI ((ln + 1))), .int s3, .int s4, .int s5, .ref (ad 239), .ref (ad 240), .ref (ad 241), .long lo, .long mo, .ref (ad 242)]) := hE29
    refine g_aload_n F (q := 33) (dk dX7_type 18 rfl) rfl rfl 0 rfl ?_
    refine g_getf F (q := 36) hE29 rfl inX7 (by omega) (j := 7) (by decide) tq_630 rfl rfl (dk dX7_type 19 rfl) rfl ?_
    have hc2 := (hO29 238 (by omega)).trans hE21
    refine hret (nI ((ln + 1))) E29 _ _ (dk dX7_type 20 rfl) (nint _) ?_
    exact ⟨(if_neg nc6), (by rw [if_neg nc6]; exact hE29), (by rw [if_neg nc6]; exact hc2), (fun j hj => ((hO29 j (by omega)).trans (hO21 j (by omega))))⟩
  · have nc6 : ln = 60 := (nI_eq (a := ln) (b := 60) (by omega) (by omega)).mp c6
    refine g_bipush F (q := 11) (v := (-3)) (dk dX7_type 4 rfl) rfl (by decide) ?_
    refine hret (-3) E _ _ (dk dX7_type 5 rfl) (nint _) ?_
    exact ⟨(if_pos nc6), (by rw [if_pos nc6]; exact h233), (by rw [if_pos nc6]; exact h238), (fun j _ => rfl)⟩
theorem kv_X7_type : KV yX7_type "ThumpEarsModel" cX7_type 2 (some .int) 1 := ⟨tq_779, tq_780, tq_47, tq_781, by decide +kernel⟩
abbrev rm_X7_clearText : Room := { frames := 0, cells := 0, slots := 0, locals := 0 }
set_option maxHeartbeats 4000000 in
set_option maxRecDepth 100000 in
theorem c_X7_clearText {l : Launch} {D : va_G} {cA : Nat → ClassId} {ad : Nat → Nat} {E : Nat → va_E} {s0 s1 s2 s3 s4 s5 : Int32} {lo mo : Int64}  (h233 : E 233 = .inr (7, [.ref (ad 234), .ref (ad 235), .ref (ad 236), .ref (ad 237), .int s0, .int s1, .ref (ad 238), .int s2, .int s3, .int s4, .int s5, .ref (ad 239), .ref (ad 240), .ref (ad 241), .long lo, .long mo, .ref (ad 242)]))   : CtI l D cA yX7_clearText cX7_clearText 2 .int rm_X7_clearText 243 ad E [.ref (ad 233)] (fun x E' => s2 = x ∧ E' 233 = .inr (7, [.ref (ad 234), .ref (ad 235), .ref (ad 236), .ref (ad 237), .int s0, .int s1, .ref (ad 238), .int 0, .int s3, .int s4, .int s5, .ref (ad 239), .ref (ad 240), .ref (ad 241), .long lo, .long mo, .ref (ad 242)]) ∧ ∀ j, (j ≠ 233) → E' j = E j) := by
  refine CtI.of (by decide +kernel) (Nat.le_of_ble_eq_true rfl) (fun X F hret => ?_)
  have F : Fr "ThumpEarsModel" cX7_clearText 2 D cA X := F
  refine (show GG rm_X7_clearText 2 l D X 0 0 243 ad E 0 [(0, .ref (ad 233))] [] from ?_)
  refine g_aload_n F (q := 1) (dk dX7_clearText 0 rfl) rfl rfl 0 rfl ?_
  refine g_getf F (q := 4) h233 rfl inX7 (by omega) (j := 7) (by decide) tq_630 rfl rfl (dk dX7_clearText 1 rfl) rfl ?_
  refine g_istore_n F (q := 5) (lv' := [(1, .int s2), (0, .ref (ad 233))]) (dk dX7_clearText 2 rfl) rfl rfl (Nat.le_of_ble_eq_true rfl) rfl ?_
  refine g_aload_n F (q := 6) (dk dX7_clearText 3 rfl) rfl rfl 1 rfl ?_
  refine g_iconst F (q := 7) (v := 0) (dk dX7_clearText 4 rfl) rfl (by decide) ?_
  refine g_putf F (q := 10) (ty := .int) h233 rfl inX7 tyX7 tyX7_ok nmX7 (by omega) (j := 7) (by decide) tq_630 rfl rfl (by decide +kernel) rfl rfl (Nat.le_of_ble_eq_true rfl) (dk dX7_clearText 5 rfl) rfl (fun E7 hE7 hO7 => ?_)
  have hE7 : E7 233 = .inr (7, [.ref (ad 234), .ref (ad 235), .ref (ad 236), .ref (ad 237), .int s0, .int s1, .ref (ad 238), .int 0, .int s3, .int s4, .int s5, .ref (ad 239), .ref (ad 240), .ref (ad 241), .long lo, .long mo, .ref (ad 242)]) := hE7
  refine g_iload_n F (q := 11) (dk dX7_clearText 6 rfl) rfl rfl 0 rfl ?_
  refine hret s2 E7 _ _ (dk dX7_clearText 7 rfl) (nint _) ?_
  exact ⟨rfl, hE7, (fun j hj => (hO7 j (by omega)))⟩
theorem kv_X7_clearText : KV yX7_clearText "ThumpEarsModel" cX7_clearText 2 (some .int) 0 := ⟨tq_783, tq_784, tq_47, tq_785, by decide +kernel⟩
end
section
abbrev rm_X7_sees : Room := { frames := 1, cells := 0, slots := 0, locals := 22 }
set_option maxHeartbeats 4000000 in
set_option maxRecDepth 100000 in
theorem c_X7_sees {l : Launch} {D : va_G} {cA : Nat → ClassId} {ad : Nat → Nat} {E : Nat → va_E} {ln p : Nat} {s0 s1 s4 s5 : Int32} {lo mo : Int64} {txt : Nat → Int32} {a b : Int32} (h233 : E 233 = .inr (7, [.ref (ad 234), .ref (ad 235), .ref (ad 236), .ref (ad 237), .int s0, .int s1, .ref (ad 238), .int (nI ln), .int (nI p), .int s4, .int s5, .ref (ad 239), .ref (ad 240), .ref (ad 241), .long lo, .long mo, .ref (ad 242)])) (h238 : E 238 = .inl (cA 3, 60, .inl txt))  (hln : ln ≤ 60) (hp : p ≤ ln) : CtI l D cA yX7_sees cX7_sees 3 .boolean rm_X7_sees 243 ad E [.ref (ad 233), .int a, .int b] (fun x E' => (E = E' ∧ 1 = x ∧ (p < ln ∧ a ≤ txt p ∧ txt p ≤ b)) ∨ (E = E' ∧ 0 = x ∧ ¬ (p < ln ∧ a ≤ txt p ∧ txt p ≤ b))) := by
  refine CtI.of (by decide +kernel) (Nat.le_of_ble_eq_true rfl) (fun X F hret => ?_)
  have F : Fr "ThumpEarsModel" cX7_sees 3 D cA X := F
  refine (show GG rm_X7_sees 3 l D X 0 0 243 ad E 0 [(0, .ref (ad 233)), (1, .int a), (2, .int b)] [] from ?_)
  refine g_aload_n F (q := 1) (dk dX7_sees 0 rfl) rfl rfl 0 rfl ?_
  refine g_getf F (q := 4) h233 rfl inX7 (by omega) (j := 8) (by decide) tq_631 rfl rfl (dk dX7_sees 1 rfl) rfl ?_
  refine g_aload_n F (q := 5) (dk dX7_sees 2 rfl) rfl rfl 0 rfl ?_
  refine g_getf F (q := 8) h233 rfl inX7 (by omega) (j := 7) (by decide) tq_630 rfl rfl (dk dX7_sees 3 rfl) rfl ?_
  refine g_icmp_ge F (q := 11) (tgt := 32) (dk dX7_sees 4 rfl) (by decide) rfl (fun c8 => ?_) (fun c8 => ?_)
  · have nc8 : ln ≤ p := (nI_leI (a := ln) (b := p) (by omega) (by omega)).mp c8
    refine g_iconst F (q := 33) (v := 0) (dk dX7_sees 16 rfl) rfl (by decide) ?_
    refine hret 0 E _ _ (dk dX7_sees 17 rfl) rfl ?_
    exact Or.inr ⟨rfl, rfl, (fun h => absurd h.1 (by omega))⟩
  · have nc8 : ¬ ln ≤ p := fun h => c8 ((nI_leI (a := ln) (b := p) (by omega) (by omega)).mpr h)
    refine g_aload_n F (q := 12) (dk dX7_sees 5 rfl) rfl rfl 0 rfl ?_
    refine g_getf F (q := 15) h233 rfl inX7 (by omega) (j := 6) (by decide) tq_629 rfl rfl (dk dX7_sees 6 rfl) rfl ?_
    refine g_aload_n F (q := 16) (dk dX7_sees 7 rfl) rfl rfl 0 rfl ?_
    refine g_getf F (q := 19) h233 rfl inX7 (by omega) (j := 8) (by decide) tq_631 rfl rfl (dk dX7_sees 8 rfl) rfl ?_
    refine g_cald F (q := 20) p h238 (by omega) rfl (by omega) (by decide) (dk dX7_sees 9 rfl) rfl ?_
    refine g_iload_n F (q := 21) (dk dX7_sees 10 rfl) rfl rfl 1 rfl ?_
    refine g_iload_n F (q := 22) (dk dX7_sees 11 rfl) rfl rfl 2 rfl ?_
    refine g_callSI F (q := 25) (av := [.int (txt p), .int a, .int b]) (st := []) (c_X7_in (v := (txt p)) (a := a) (b := b)) ks_X7_in tq_707 ⟨rfl, rfl⟩ (by decide) ⟨Nat.le_refl _, Nat.le_refl _⟩ rfl rfl (Nat.le_of_ble_eq_true rfl) (dk dX7_sees 12 rfl) rfl (fun r22 E22 hp22 => ?_)
    rcases hp22 with ⟨rfl, rfl, b22⟩ | ⟨rfl, rfl, b22⟩
    · refine g_if_eq F (q := 28) (tgt := 32) (dk dX7_sees 13 rfl) (by decide) rfl (fun h => absurd h (by decide)) (fun _ => ?_)
      refine g_iconst F (q := 29) (v := 1) (dk dX7_sees 14 rfl) rfl (by decide) ?_
      refine g_goto F (tgt := 33) (dk dX7_sees 15 rfl) (by decide) ?_
      refine hret 1 E _ _ (dk dX7_sees 17 rfl) rfl ?_
      exact Or.inl ⟨rfl, rfl, ⟨by omega, b22⟩⟩
    · refine g_if_eq F (q := 28) (tgt := 32) (dk dX7_sees 13 rfl) (by decide) rfl (fun _ => ?_) (fun h => absurd h (by decide))
      refine g_iconst F (q := 33) (v := 0) (dk dX7_sees 16 rfl) rfl (by decide) ?_
      refine hret 0 E _ _ (dk dX7_sees 17 rfl) rfl ?_
      exact Or.inr ⟨rfl, rfl, (fun h => b22 h.2)⟩
theorem kv_X7_sees : KV yX7_sees "ThumpEarsModel" cX7_sees 3 (some .boolean) 2 := ⟨tq_800, tq_23, tq_47, tq_801, by decide +kernel⟩
abbrev rm_X7_number : Room := { frames := 2, cells := 0, slots := 0, locals := 44 }
set_option maxHeartbeats 4000000 in
set_option maxRecDepth 100000 in
theorem c_X7_number {l : Launch} {D : va_G} {cA : Nat → ClassId} {ad : Nat → Nat} {E : Nat → va_E} {ln p : Nat} {s0 s1 s4 s5 : Int32} {lo mo : Int64} {txt : Nat → Int32}  (h233 : E 233 = .inr (7, [.ref (ad 234), .ref (ad 235), .ref (ad 236), .ref (ad 237), .int s0, .int s1, .ref (ad 238), .int (nI ln), .int (nI p), .int s4, .int s5, .ref (ad 239), .ref (ad 240), .ref (ad 241), .long lo, .long mo, .ref (ad 242)])) (h238 : E 238 = .inl (cA 3, 60, .inl txt))  (hln : ln ≤ 60) (hp : p ≤ ln) : CtI l D cA yX7_number cX7_number 3 .int rm_X7_number 243 ad E [.ref (ad 233)] (fun x E' => (numV txt ln p) = x ∧ E' 233 = .inr (7, [.ref (ad 234), .ref (ad 235), .ref (ad 236), .ref (ad 237), .int s0, .int s1, .ref (ad 238), .int (nI ln), .int (nI ((numP txt ln p))), .int s4, .int s5, .ref (ad 239), .ref (ad 240), .ref (ad 241), .long lo, .long mo, .ref (ad 242)]) ∧ ∀ j, (j ≠ 233) → E' j = E j) := by
  refine CtI.of (by decide +kernel) (Nat.le_of_ble_eq_true rfl) (fun X F hret => ?_)
  have F : Fr "ThumpEarsModel" cX7_number 3 D cA X := F
  refine (show GG rm_X7_number 3 l D X 0 0 243 ad E 0 [(0, .ref (ad 233))] [] from ?_)
  refine g_aload_n F (q := 1) (dk dX7_number 0 rfl) rfl rfl 0 rfl ?_
  refine g_bipush F (q := 3) (v := 48) (dk dX7_number 1 rfl) rfl (by decide) ?_
  refine g_bipush F (q := 5) (v := 57) (dk dX7_number 2 rfl) rfl (by decide) ?_
  refine g_callVI F (q := 8) (av := [.int 48, .int 57]) (st := []) (c_X7_sees (a := 48) (b := 57) h233 h238 (by first | assumption | decide | omega) (by first | assumption | decide | omega)) kv_X7_sees tq_798 h233 rfl (by omega) ⟨rfl, rfl⟩ (by decide) ⟨Nat.le_refl _, Nat.le_refl _⟩ rfl rfl (Nat.le_of_ble_eq_true rfl) (dk dX7_number 3 rfl) rfl (fun r5 E5 hp5 => ?_)
  rcases hp5 with ⟨rfl, rfl, b5⟩ | ⟨rfl, rfl, b5⟩
  · refine g_if_ne F (q := 11) (tgt := 14) (dk dX7_number 4 rfl) (by decide) rfl (fun _ => ?_) (fun h => absurd h (by decide))
    refine g_aload_n F (q := 15) (dk dX7_number 7 rfl) rfl rfl 0 rfl ?_
    refine g_getf F (q := 18) h233 rfl inX7 (by omega) (j := 6) (by decide) tq_629 rfl rfl (dk dX7_number 8 rfl) rfl ?_
    refine g_aload_n F (q := 19) (dk dX7_number 9 rfl) rfl rfl 0 rfl ?_
    refine g_getf F (q := 22) h233 rfl inX7 (by omega) (j := 8) (by decide) tq_631 rfl rfl (dk dX7_number 10 rfl) rfl ?_
    refine g_cald F (q := 23) p h238 (by omega) rfl (by omega) (by decide) (dk dX7_number 11 rfl) rfl ?_
    refine g_bipush F (q := 25) (v := 48) (dk dX7_number 12 rfl) rfl (by decide) ?_
    refine g_isub F (q := 26) (dk dX7_number 13 rfl) rfl ?_
    refine g_istore_n F (q := 27) (lv' := [(1, .int ((txt p) - 48)), (0, .ref (ad 233))]) (dk dX7_number 14 rfl) rfl rfl (Nat.le_of_ble_eq_true rfl) rfl ?_
    refine g_aload_n F (q := 28) (dk dX7_number 15 rfl) rfl rfl 1 rfl ?_
    refine g_dup F (q := 29) (dk dX7_number 16 rfl) rfl rfl ?_
    refine g_getf F (q := 32) h233 rfl inX7 (by omega) (j := 8) (by decide) tq_631 rfl rfl (dk dX7_number 17 rfl) rfl ?_
    refine g_iconst F (q := 33) (v := 1) (dk dX7_number 18 rfl) rfl (by decide) ?_
    refine g_iadd F (q := 34) (dk dX7_number 19 rfl) rfl ?_
    refine g_sti (nA rfl rfl) ?_
    refine g_putf F (q := 37) (ty := .int) h233 rfl inX7 tyX7 tyX7_ok nmX7 (by omega) (j := 8) (by decide) tq_631 rfl rfl (by decide +kernel) rfl rfl (Nat.le_of_ble_eq_true rfl) (dk dX7_number 20 rfl) rfl (fun E34 hE34 hO34 => ?_)
    have hE34 : E34 233 = .inr (7, [.ref (ad 234), .ref (ad 235), .ref (ad 236), .ref (ad 237), .int s0, .int s1, .ref (ad 238), .int (nI ln), .int (nI ((p + 1))), .int s4, .int s5, .ref (ad 239), .ref (ad 240), .ref (ad 241), .long lo, .long mo, .ref (ad 242)]) := hE34
    refine g_iconst F (q := 38) (v := 1) (dk dX7_number 21 rfl) rfl (by decide) ?_
    refine g_istore_n F (q := 39) (lv' := [(2, .int 1), (1, .int ((txt p) - 48)), (0, .ref (ad 233))]) (dk dX7_number 22 rfl) rfl rfl (Nat.le_of_ble_eq_true rfl) rfl ?_
    have K39 : ∀ (fu : Nat) (v : Int32) (kk : Nat) (q : Nat) (E1 : Nat → va_E), 6 - kk < fu → (h3 : E1 233 = .inr (7, [.ref (ad 234), .ref (ad 235), .ref (ad 236), .ref (ad 237), .int s0, .int s1, .ref (ad 238), .int (nI ln), .int (nI q), .int s4, .int s5, .ref (ad 239), .ref (ad 240), .ref (ad 241), .long lo, .long mo, .ref (ad 242)])) → (hfr39 : ∀ j, (j ≠ 233) → E1 j = E34 j) → (hk1 : 1 ≤ kk) → (hkk : kk ≤ 6) → (hq : q ≤ ln) → (hn : numL txt ln (6 - kk) v q = numL txt ln 5 (txt p - 48) (p + 1)) → GG rm_X7_number 3 l D X 0 0 243 ad E1 39 [(0, .ref (ad 233)), (1, .int v), (2, .int (nI kk))] [] := by
      intro fu
      induction fu with
      | zero => intro v kk q E1 hfu_; exact absurd hfu_ (Nat.not_lt_zero _)
      | succ fu ih =>
        intro v kk q E1 hfu_ h3 hfr39 hk1 hkk hq hn
        refine g_iload_n F (q := 40) (dk dX7_number 23 rfl) rfl rfl 2 rfl ?_
        refine g_bipush F (q := 42) (v := 6) (dk dX7_number 24 rfl) rfl (by decide) ?_
        refine g_icmp_ge F (q := 45) (tgt := 94) (dk dX7_number 25 rfl) (by decide) rfl (fun c42 => ?_) (fun c42 => ?_)
        · have nc42 : 6 ≤ kk := (nI_leI (a := 6) (b := kk) (by omega) (by omega)).mp c42
          refine g_iload_n F (q := 95) (dk dX7_number 53 rfl) rfl rfl 1 rfl ?_
          have hz : numL txt ln (6 - kk) v q = (v, q) := by rw [show 6 - kk = 0 by omega]; rfl
          refine hret v E1 _ _ (dk dX7_number 54 rfl) (nint _) ?_
          exact ⟨(by unfold numV; rw [if_pos b5, ← hn, hz]), (by unfold numP; rw [if_pos b5, ← hn, hz]; exact h3), (fun j hj => ((hfr39 j (by omega)).trans (hO34 j (by omega))))⟩
        · have nc42 : ¬ 6 ≤ kk := fun h => c42 ((nI_leI (a := 6) (b := kk) (by omega) (by omega)).mpr h)
          refine g_iload_n F (q := 46) (dk dX7_number 26 rfl) rfl rfl 1 rfl ?_
          refine g_if_le F (q := 49) (tgt := 94) (dk dX7_number 27 rfl) (by decide) rfl (fun c46 => ?_) (fun c46 => ?_)
          · refine g_iload_n F (q := 95) (dk dX7_number 53 rfl) rfl rfl 1 rfl ?_
            have hz : numL txt ln (6 - kk) v q = (v, q) := by rw [show 6 - kk = (5 - kk) + 1 by omega]; unfold numL; rw [if_neg (fun h => absurd h.1 (Int32.not_lt.mpr c46))]
            refine hret v E1 _ _ (dk dX7_number 54 rfl) (nint _) ?_
            exact ⟨(by unfold numV; rw [if_pos b5, ← hn, hz]), (by unfold numP; rw [if_pos b5, ← hn, hz]; exact h3), (fun j hj => ((hfr39 j (by omega)).trans (hO34 j (by omega))))⟩
          · refine g_aload_n F (q := 50) (dk dX7_number 28 rfl) rfl rfl 0 rfl ?_
            refine g_bipush F (q := 52) (v := 48) (dk dX7_number 29 rfl) rfl (by decide) ?_
            refine g_bipush F (q := 54) (v := 57) (dk dX7_number 30 rfl) rfl (by decide) ?_
            have hc1 := (hO34 238 (by omega)).trans h238
            have hc2 := (hfr39 238 (by omega)).trans hc1
            refine g_callVI F (q := 57) (av := [.int 48, .int 57]) (st := []) (c_X7_sees (a := 48) (b := 57) h3 hc2 (by first | assumption | decide | omega) (by first | assumption | decide | omega)) kv_X7_sees tq_798 h3 rfl (by omega) ⟨rfl, rfl⟩ (by decide) ⟨Nat.le_refl _, Nat.le_refl _⟩ rfl rfl (Nat.le_of_ble_eq_true rfl) (dk dX7_number 31 rfl) rfl (fun r54 E54 hp54 => ?_)
            rcases hp54 with ⟨rfl, rfl, b54⟩ | ⟨rfl, rfl, b54⟩
            · refine g_if_eq F (q := 60) (tgt := 94) (dk dX7_number 32 rfl) (by decide) rfl (fun h => absurd h (by decide)) (fun _ => ?_)
              refine g_bipush F (q := 62) (v := 10) (dk dX7_number 33 rfl) rfl (by decide) ?_
              refine g_iload_n F (q := 63) (dk dX7_number 34 rfl) rfl rfl 1 rfl ?_
              refine g_imul F (q := 64) (dk dX7_number 35 rfl) rfl ?_
              refine g_aload_n F (q := 65) (dk dX7_number 36 rfl) rfl rfl 0 rfl ?_
              refine g_getf F (q := 68) h3 rfl inX7 (by omega) (j := 6) (by decide) tq_629 rfl rfl (dk dX7_number 37 rfl) rfl ?_
              refine g_aload_n F (q := 69) (dk dX7_number 38 rfl) rfl rfl 0 rfl ?_
              refine g_getf F (q := 72) h3 rfl inX7 (by omega) (j := 8) (by decide) tq_631 rfl rfl (dk dX7_number 39 rfl) rfl ?_
              refine g_cald F (q := 73) q hc2 (by omega) rfl (by omega) (by decide) (dk dX7_number 40 rfl) rfl ?_
              refine g_iadd F (q := 74) (dk dX7_number 41 rfl) rfl ?_
              refine g_bipush F (q := 76) (v := 48) (dk dX7_number 42 rfl) rfl (by decide) ?_
              refine g_isub F (q := 77) (dk dX7_number 43 rfl) rfl ?_
              refine g_istore_n F (q := 78) (lv' := [(1, .int (((10 * v) + (txt q)) - 48)), (0, .ref (ad 233)), (2, .int (nI kk))]) (dk dX7_number 44 rfl) rfl rfl (Nat.le_of_ble_eq_true rfl) rfl ?_
              refine g_aload_n F (q := 79) (dk dX7_number 45 rfl) rfl rfl 1 rfl ?_
              refine g_dup F (q := 80) (dk dX7_number 46 rfl) rfl rfl ?_
              refine g_getf F (q := 83) h3 rfl inX7 (by omega) (j := 8) (by decide) tq_631 rfl rfl (dk dX7_number 47 rfl) rfl ?_
              refine g_iconst F (q := 84) (v := 1) (dk dX7_number 48 rfl) rfl (by decide) ?_
              refine g_iadd F (q := 85) (dk dX7_number 49 rfl) rfl ?_
              refine g_sti (nA rfl rfl) ?_
              refine g_putf F (q := 88) (ty := .int) h3 rfl inX7 tyX7 tyX7_ok nmX7 (by omega) (j := 8) (by decide) tq_631 rfl rfl (by decide +kernel) rfl rfl (Nat.le_of_ble_eq_true rfl) (dk dX7_number 50 rfl) rfl (fun E85 hE85 hO85 => ?_)
              have hE85 : E85 233 = .inr (7, [.ref (ad 234), .ref (ad 235), .ref (ad 236), .ref (ad 237), .int s0, .int s1, .ref (ad 238), .int (nI ln), .int (nI ((q + 1))), .int s4, .int s5, .ref (ad 239), .ref (ad 240), .ref (ad 241), .long lo, .long mo, .ref (ad 242)]) := hE85
              refine g_iinc F (q := 91) (v := (nI ((kk + 1)))) (lv' := [(2, .int (nI ((kk + 1)))), (1, .int (((10 * v) + (txt q)) - 48)), (0, .ref (ad 233))]) (dk dX7_number 51 rfl) rfl 2 rfl (nI_1 _) (Nat.le_of_ble_eq_true rfl) rfl ?_
              refine g_goto F (tgt := 39) (dk dX7_number 52 rfl) (by decide) ?_
              refine g_lv (lv' := [(0, .ref (ad 233)), (1, .int (((10 * v) + (txt q)) - 48)), (2, .int (nI ((kk + 1))))]) [2, 1, 0] rfl ?_
              exact ih (((10 * v) + (txt q)) - 48) (kk + 1) (q + 1) E85 (by omega) hE85 (fun j hj => ((hO85 j (by omega)).trans (hfr39 j (by omega)))) (by omega) (by omega) (by omega) (by rw [← hn, show 6 - kk = (6 - (kk + 1)) + 1 by omega]; conv => rhs; unfold numL; rw [if_pos ⟨Int32.not_le.mp c46, b54⟩])
            · refine g_if_eq F (q := 60) (tgt := 94) (dk dX7_number 32 rfl) (by decide) rfl (fun _ => ?_) (fun h => absurd h (by decide))
              refine g_iload_n F (q := 95) (dk dX7_number 53 rfl) rfl rfl 1 rfl ?_
              have hz : numL txt ln (6 - kk) v q = (v, q) := by rw [show 6 - kk = (5 - kk) + 1 by omega]; unfold numL; rw [if_neg (fun h => b54 h.2)]
              refine hret v E1 _ _ (dk dX7_number 54 rfl) (nint _) ?_
              exact ⟨(by unfold numV; rw [if_pos b5, ← hn, hz]), (by unfold numP; rw [if_pos b5, ← hn, hz]; exact h3), (fun j hj => ((hfr39 j (by omega)).trans (hO34 j (by omega))))⟩
    refine g_lv (lv' := [(0, .ref (ad 233)), (1, .int ((txt p) - 48)), (2, .int 1)]) [2, 1, 0] rfl ?_
    exact K39 _ ((txt p) - 48) 1 (p + 1) E34 (Nat.lt_succ_self _) hE34 (fun j _ => rfl) (by omega) (by omega) (by omega) rfl
  · refine g_if_ne F (q := 11) (tgt := 14) (dk dX7_number 4 rfl) (by decide) rfl (fun h => absurd h (by decide)) (fun _ => ?_)
    refine g_bipush F (q := 13) (v := (-5)) (dk dX7_number 5 rfl) rfl (by decide) ?_
    refine hret (-5) E _ _ (dk dX7_number 6 rfl) (nint _) ?_
    exact ⟨(if_neg b5), (by rw [numP_no b5]; exact h233), (fun j _ => rfl)⟩
theorem kv_X7_number : KV yX7_number "ThumpEarsModel" cX7_number 3 (some .int) 0 := ⟨tq_804, tq_24, tq_47, tq_805, by decide +kernel⟩
abbrev rm_X7_takes : Room := { frames := 2, cells := 0, slots := 0, locals := 44 }
set_option maxHeartbeats 4000000 in
set_option maxRecDepth 100000 in
theorem c_X7_takes {l : Launch} {D : va_G} {cA : Nat → ClassId} {ad : Nat → Nat} {E : Nat → va_E} {ln p : Nat} {s0 s1 s4 s5 : Int32} {lo mo : Int64} {txt : Nat → Int32} {ch : Int32} (h233 : E 233 = .inr (7, [.ref (ad 234), .ref (ad 235), .ref (ad 236), .ref (ad 237), .int s0, .int s1, .ref (ad 238), .int (nI ln), .int (nI p), .int s4, .int s5, .ref (ad 239), .ref (ad 240), .ref (ad 241), .long lo, .long mo, .ref (ad 242)])) (h238 : E 238 = .inl (cA 3, 60, .inl txt))  (hln : ln ≤ 60) (hp : p ≤ ln) : CtI l D cA yX7_takes cX7_takes 3 .boolean rm_X7_takes 243 ad E [.ref (ad 233), .int ch] (fun x E' => (1 = x ∧ (E' 233 = .inr (7, [.ref (ad 234), .ref (ad 235), .ref (ad 236), .ref (ad 237), .int s0, .int s1, .ref (ad 238), .int (nI ln), .int (nI ((p + 1))), .int s4, .int s5, .ref (ad 239), .ref (ad 240), .ref (ad 241), .long lo, .long mo, .ref (ad 242)]) ∧ (p < ln ∧ txt p = ch) ∧ ∀ j, (j ≠ 233) → E' j = E j)) ∨ (0 = x ∧ (E' 233 = .inr (7, [.ref (ad 234), .ref (ad 235), .ref (ad 236), .ref (ad 237), .int s0, .int s1, .ref (ad 238), .int (nI ln), .int (nI p), .int s4, .int s5, .ref (ad 239), .ref (ad 240), .ref (ad 241), .long lo, .long mo, .ref (ad 242)]) ∧ (¬ (p < ln ∧ txt p = ch)) ∧ ∀ j, (j ≠ 233) → E' j = E j))) := by
  refine CtI.of (by decide +kernel) (Nat.le_of_ble_eq_true rfl) (fun X F hret => ?_)
  have F : Fr "ThumpEarsModel" cX7_takes 3 D cA X := F
  refine (show GG rm_X7_takes 3 l D X 0 0 243 ad E 0 [(0, .ref (ad 233)), (1, .int ch)] [] from ?_)
  refine g_aload_n F (q := 1) (dk dX7_takes 0 rfl) rfl rfl 0 rfl ?_
  refine g_iload_n F (q := 2) (dk dX7_takes 1 rfl) rfl rfl 1 rfl ?_
  refine g_iload_n F (q := 3) (dk dX7_takes 2 rfl) rfl rfl 1 rfl ?_
  refine g_callVI F (q := 6) (av := [.int ch, .int ch]) (st := []) (c_X7_sees (a := ch) (b := ch) h233 h238 (by first | assumption | decide | omega) (by first | assumption | decide | omega)) kv_X7_sees tq_798 h233 rfl (by omega) ⟨rfl, rfl⟩ (by decide) ⟨Nat.le_refl _, Nat.le_refl _⟩ rfl rfl (Nat.le_of_ble_eq_true rfl) (dk dX7_takes 3 rfl) rfl (fun r3 E3 hp3 => ?_)
  rcases hp3 with ⟨rfl, rfl, b3⟩ | ⟨rfl, rfl, b3⟩
  · refine g_istore_n F (q := 7) (lv' := [(2, .int 1), (0, .ref (ad 233)), (1, .int ch)]) (dk dX7_takes 4 rfl) rfl rfl (Nat.le_of_ble_eq_true rfl) rfl ?_
    refine g_aload_n F (q := 8) (dk dX7_takes 5 rfl) rfl rfl 1 rfl ?_
    refine g_dup F (q := 9) (dk dX7_takes 6 rfl) rfl rfl ?_
    refine g_getf F (q := 12) h233 rfl inX7 (by omega) (j := 8) (by decide) tq_631 rfl rfl (dk dX7_takes 7 rfl) rfl ?_
    refine g_iload_n F (q := 13) (dk dX7_takes 8 rfl) rfl rfl 0 rfl ?_
    refine g_if_eq F (q := 16) (tgt := 20) (dk dX7_takes 9 rfl) (by decide) rfl (fun h => absurd h (by decide)) (fun _ => ?_)
    refine g_iconst F (q := 17) (v := 1) (dk dX7_takes 10 rfl) rfl (by decide) ?_
    refine g_goto F (tgt := 21) (dk dX7_takes 11 rfl) (by decide) ?_
    refine g_iadd F (q := 22) (dk dX7_takes 13 rfl) rfl ?_
    refine g_sti (nA rfl rfl) ?_
    refine g_putf F (q := 25) (ty := .int) h233 rfl inX7 tyX7 tyX7_ok nmX7 (by omega) (j := 8) (by decide) tq_631 rfl rfl (by decide +kernel) rfl rfl (Nat.le_of_ble_eq_true rfl) (dk dX7_takes 14 rfl) rfl (fun E22 hE22 hO22 => ?_)
    have hE22 : E22 233 = .inr (7, [.ref (ad 234), .ref (ad 235), .ref (ad 236), .ref (ad 237), .int s0, .int s1, .ref (ad 238), .int (nI ln), .int (nI ((p + 1))), .int s4, .int s5, .ref (ad 239), .ref (ad 240), .ref (ad 241), .long lo, .long mo, .ref (ad 242)]) := hE22
    refine g_iload_n F (q := 26) (dk dX7_takes 15 rfl) rfl rfl 0 rfl ?_
    refine hret 1 E22 _ _ (dk dX7_takes 16 rfl) rfl ?_
    exact Or.inl ⟨rfl, hE22, ⟨b3.1, Int32.le_antisymm b3.2.2 b3.2.1⟩, (fun j hj => (hO22 j (by omega)))⟩
  · refine g_istore_n F (q := 7) (lv' := [(2, .int 0), (0, .ref (ad 233)), (1, .int ch)]) (dk dX7_takes 4 rfl) rfl rfl (Nat.le_of_ble_eq_true rfl) rfl ?_
    refine g_aload_n F (q := 8) (dk dX7_takes 5 rfl) rfl rfl 1 rfl ?_
    refine g_dup F (q := 9) (dk dX7_takes 6 rfl) rfl rfl ?_
    refine g_getf F (q := 12) h233 rfl inX7 (by omega) (j := 8) (by decide) tq_631 rfl rfl (dk dX7_takes 7 rfl) rfl ?_
    refine g_iload_n F (q := 13) (dk dX7_takes 8 rfl) rfl rfl 0 rfl ?_
    refine g_if_eq F (q := 16) (tgt := 20) (dk dX7_takes 9 rfl) (by decide) rfl (fun _ => ?_) (fun h => absurd h (by decide))
    refine g_iconst F (q := 21) (v := 0) (dk dX7_takes 12 rfl) rfl (by decide) ?_
    refine g_iadd F (q := 22) (dk dX7_takes 13 rfl) rfl ?_
    refine g_sti (nA rfl rfl) ?_
    refine g_putf F (q := 25) (ty := .int) h233 rfl inX7 tyX7 tyX7_ok nmX7 (by omega) (j := 8) (by decide) tq_631 rfl rfl (by decide +kernel) rfl rfl (Nat.le_of_ble_eq_true rfl) (dk dX7_takes 14 rfl) rfl (fun E22 hE22 hO22 => ?_)
    have hE22 : E22 233 = .inr (7, [.ref (ad 234), .ref (ad 235), .ref (ad 236), .ref (ad 237), .int s0, .int s1, .ref (ad 238), .int (nI ln), .int (nI ((p + 0))), .int s4, .int s5, .ref (ad 239), .ref (ad 240), .ref (ad 241), .long lo, .long mo, .ref (ad 242)]) := hE22
    refine g_iload_n F (q := 26) (dk dX7_takes 15 rfl) rfl rfl 0 rfl ?_
    refine hret 0 E22 _ _ (dk dX7_takes 16 rfl) rfl ?_
    exact Or.inr ⟨rfl, hE22, (fun h => b3 ⟨h.1, by rw [h.2]; exact ⟨Int32.le_refl _, Int32.le_refl _⟩⟩), (fun j hj => (hO22 j (by omega)))⟩
theorem kv_X7_takes : KV yX7_takes "ThumpEarsModel" cX7_takes 3 (some .boolean) 1 := ⟨tq_808, tq_25, tq_47, tq_809, by decide +kernel⟩
end
section
theorem ordQ_a {tx : Nat → Int32} {ln k p : Nat} (h : numV tx ln p < 0) : ordQ tx ln k p = (numP tx ln p, none) := by
  have h := numV_lt h
  unfold ordQ
  rw [if_neg h, numP_no h]
theorem ordQ_b {tx : Nat → Int32} {ln k p : Nat} (h : ¬ numV tx ln p < 0) (h2 : ¬ (numP tx ln p < ln ∧ tx (numP tx ln p) = 64)) : ordQ tx ln k p = (numP tx ln p, none) := by
  unfold ordQ
  rw [if_pos (numV_ge h), if_neg h2]
theorem ordQ_c {tx : Nat → Int32} {ln k p : Nat} (h : ¬ numV tx ln p < 0) (h2 : numP tx ln p < ln ∧ tx (numP tx ln p) = 64) (h3 : numV tx ln (numP tx ln p + 1) < 0) : ordQ tx ln k p = (numP tx ln (numP tx ln p + 1), none) := by
  unfold ordQ
  have h3 := numV_lt h3
  rw [if_pos (numV_ge h), if_pos h2, if_neg h3, numP_no h3]
theorem ordQ_d {tx : Nat → Int32} {ln k p : Nat} (h : ¬ numV tx ln p < 0) (h2 : numP tx ln p < ln ∧ tx (numP tx ln p) = 64) (h3 : ¬ numV tx ln (numP tx ln p + 1) < 0) (h4 : ¬ (numP tx ln (numP tx ln p + 1) < ln ∧ tx (numP tx ln (numP tx ln p + 1)) = 42)) : ordQ tx ln k p = (numP tx ln (numP tx ln p + 1), some (k, numV tx ln p, numV tx ln (numP tx ln p + 1), 1000)) := by
  unfold ordQ
  rw [if_pos (numV_ge h), if_pos h2, if_pos (numV_ge h3), if_neg h4]
theorem ordQ_e {tx : Nat → Int32} {ln k p : Nat} (h : ¬ numV tx ln p < 0) (h2 : numP tx ln p < ln ∧ tx (numP tx ln p) = 64) (h3 : ¬ numV tx ln (numP tx ln p + 1) < 0) (h4 : numP tx ln (numP tx ln p + 1) < ln ∧ tx (numP tx ln (numP tx ln p + 1)) = 42) (h5 : numV tx ln (numP tx ln (numP tx ln p + 1) + 1) < 0) : ordQ tx ln k p = (numP tx ln (numP tx ln (numP tx ln p + 1) + 1), none) := by
  unfold ordQ
  have h5 := numV_lt h5
  rw [if_pos (numV_ge h), if_pos h2, if_pos (numV_ge h3), if_pos h4, if_neg h5, numP_no h5]
theorem ordQ_f {tx : Nat → Int32} {ln k p : Nat} (h : ¬ numV tx ln p < 0) (h2 : numP tx ln p < ln ∧ tx (numP tx ln p) = 64) (h3 : ¬ numV tx ln (numP tx ln p + 1) < 0) (h4 : numP tx ln (numP tx ln p + 1) < ln ∧ tx (numP tx ln (numP tx ln p + 1)) = 42) (h5 : ¬ numV tx ln (numP tx ln (numP tx ln p + 1) + 1) < 0) : ordQ tx ln k p = (numP tx ln (numP tx ln (numP tx ln p + 1) + 1), some (k, numV tx ln p, numV tx ln (numP tx ln p + 1), numV tx ln (numP tx ln (numP tx ln p + 1) + 1))) := by
  unfold ordQ
  rw [if_pos (numV_ge h), if_pos h2, if_pos (numV_ge h3), if_pos h4, if_pos (numV_ge h5)]
theorem sees1 {ch x : Int32} : (ch ≤ x ∧ x ≤ ch) ↔ x = ch := ⟨fun h => Int32.le_antisymm h.2 h.1, fun h => by rw [h]; exact ⟨Int32.le_refl _, Int32.le_refl _⟩⟩
theorem ordP_t {tx : Nat → Int32} {ln p : Nat} (h : p < ln ∧ 116 ≤ tx p ∧ tx p ≤ 116) : ordP tx ln p = ordQ tx ln 0 (p + 1) := by
  unfold ordP
  rw [if_pos ⟨h.1, sees1.mp h.2⟩]
theorem ordP_k {tx : Nat → Int32} {ln p : Nat} (h : ¬ (p < ln ∧ 116 ≤ tx p ∧ tx p ≤ 116)) (h2 : p < ln ∧ 107 ≤ tx p ∧ tx p ≤ 107) : ordP tx ln p = ordQ tx ln 1 (p + 1) := by
  unfold ordP
  rw [if_neg (fun q => h ⟨q.1, sees1.mpr q.2⟩), if_pos ⟨h2.1, sees1.mp h2.2⟩]
theorem ordP_n {tx : Nat → Int32} {ln p : Nat} (h : ¬ (p < ln ∧ 116 ≤ tx p ∧ tx p ≤ 116)) (h2 : ¬ (p < ln ∧ 107 ≤ tx p ∧ tx p ≤ 107)) : ordP tx ln p = (p, none) := by
  unfold ordP
  rw [if_neg (fun q => h ⟨q.1, sees1.mpr q.2⟩), if_neg (fun q => h2 ⟨q.1, sees1.mpr q.2⟩)]
/-- what an order that is there has: a kind below 2, and how far it goes -/
theorem ordQ_s {tx : Nat → Int32} {ln k p q : Nat} {o : Ord} (hp : p ≤ ln) (h : ordQ tx ln k p = (q, some o)) : o.1 = k ∧ p < q ∧ q ≤ ln := by
  unfold ordQ at h
  repeat' split at h
  all_goals first | (cases h; done) | skip
  · rename_i h1 h2 h3 h4 h5
    obtain ⟨rfl, h⟩ := Prod.mk.injEq _ _ _ _ ▸ h
    cases h
    have a1 := numP_gt h1
    have a2 := numP_gt h3
    have a3 := numP_gt h5
    exact ⟨rfl, by omega, numP_le (by omega)⟩
  · rename_i h1 h2 h3 h4
    obtain ⟨rfl, h⟩ := Prod.mk.injEq _ _ _ _ ▸ h
    cases h
    have a1 := numP_gt h1
    have a2 := numP_gt h3
    exact ⟨rfl, by omega, numP_le (by omega)⟩
theorem ordP_s {tx : Nat → Int32} {ln p q : Nat} {o : Ord} (h : ordP tx ln p = (q, some o)) : o.1 < 2 ∧ p < q ∧ q ≤ ln := by
  unfold ordP at h
  split at h
  · rename_i h1
    have := ordQ_s (by omega) h
    omega
  · split at h
    · have := ordQ_s (by omega) h
      omega
    · cases h
theorem ordQ_n {tx : Nat → Int32} {ln k p q : Nat} (hp : p ≤ ln) (h : ordQ tx ln k p = (q, none)) : q ≤ ln := by
  unfold ordQ at h
  repeat' split at h
  all_goals first | (cases h; done) | skip
  · rename_i h1 h2 h3 h4 h5
    cases h
    omega
  · cases h
    omega
  · cases h
    exact numP_le (by omega)
  · cases h
    exact hp
theorem ordP_nl {tx : Nat → Int32} {ln p q : Nat} (hp : p ≤ ln) (h : ordP tx ln p = (q, none)) : q ≤ ln := by
  unfold ordP at h
  split at h
  · exact ordQ_n (by omega) h
  · split at h
    · exact ordQ_n (by omega) h
    · cases h; exact hp
theorem prs_n {tx : Nat → Int32} {ln f p q : Nat} (h : ordP tx ln p = (q, none)) : prs tx ln (f + 1) p = ([], some q) := by
  unfold prs; rw [h]
theorem prs_c {tx : Nat → Int32} {ln f p q : Nat} {o : Ord} (h : ordP tx ln p = (q, some o)) (h2 : q < ln ∧ tx q = 59) : prs tx ln (f + 1) p = (o :: (prs tx ln f (q + 1)).1, (prs tx ln f (q + 1)).2) := by
  conv => lhs; unfold prs
  rw [h]; exact if_pos h2
theorem prs_e {tx : Nat → Int32} {ln f p q : Nat} {o : Ord} (h : ordP tx ln p = (q, some o)) (h2 : ¬ (q < ln ∧ tx q = 59)) : prs tx ln (f + 1) p = ([o], if q < ln then some q else none) := by
  conv => lhs; unfold prs
  rw [h]; exact if_neg h2
end
section
abbrev rm_X7_order_a : Room := { frames := 3, cells := 0, slots := 0, locals := 66 }
set_option maxHeartbeats 4000000 in
set_option maxRecDepth 100000 in
theorem c_X7_order_a {l : Launch} {D : va_G} {cA : Nat → ClassId} {ad : Nat → Nat} {E : Nat → va_E} {ln p : Nat} {s0 s1 s4 s5 : Int32} {lo mo : Int64} {txt : Nat → Int32}  (h233 : E 233 = .inr (7, [.ref (ad 234), .ref (ad 235), .ref (ad 236), .ref (ad 237), .int s0, .int s1, .ref (ad 238), .int (nI ln), .int (nI p), .int s4, .int s5, .ref (ad 239), .ref (ad 240), .ref (ad 241), .long lo, .long mo, .ref (ad 242)])) (h238 : E 238 = .inl (cA 3, 60, .inl txt))  (hln : ln ≤ 60) (hp : p ≤ ln) : CtI l D cA yX7_order cX7_order 6 .boolean rm_X7_order_a 243 ad E [.ref (ad 233), .int 0] (fun x E' => (1 = x ∧ (∃ (q : Nat) (o : Ord), E' 233 = .inr (7, [.ref (ad 234), .ref (ad 235), .ref (ad 236), .ref (ad 237), .int s0, .int s1, .ref (ad 238), .int (nI ln), .int (nI q), .int 0, .int s5, .ref (ad 239), .ref (ad 240), .ref (ad 241), .long lo, .long mo, .ref (ad 242)]) ∧ (ordP txt ln p = (q, some o)) ∧ ∀ j, (j ≠ 233) → E' j = E j)) ∨ (0 = x ∧ (∃ (q : Nat), E' 233 = .inr (7, [.ref (ad 234), .ref (ad 235), .ref (ad 236), .ref (ad 237), .int s0, .int s1, .ref (ad 238), .int (nI ln), .int (nI q), .int s4, .int s5, .ref (ad 239), .ref (ad 240), .ref (ad 241), .long lo, .long mo, .ref (ad 242)]) ∧ (ordP txt ln p = (q, none)) ∧ ∀ j, (j ≠ 233) → E' j = E j))) := by
  refine CtI.of (by decide +kernel) (Nat.le_of_ble_eq_true rfl) (fun X F hret => ?_)
  have F : Fr "ThumpEarsModel" cX7_order 6 D cA X := F
  refine (show GG rm_X7_order_a 6 l D X 0 0 243 ad E 0 [(0, .ref (ad 233)), (1, .int 0)] [] from ?_)
  refine g_aload_n F (q := 1) (dk dX7_order 0 rfl) rfl rfl 0 rfl ?_
  refine g_bipush F (q := 3) (v := 116) (dk dX7_order 1 rfl) rfl (by decide) ?_
  refine g_bipush F (q := 5) (v := 116) (dk dX7_order 2 rfl) rfl (by decide) ?_
  refine g_callVI F (q := 8) (av := [.int 116, .int 116]) (st := []) (c_X7_sees (a := 116) (b := 116) h233 h238 (by first | assumption | decide | omega) (by first | assumption | decide | omega)) kv_X7_sees tq_798 h233 rfl (by omega) ⟨rfl, rfl⟩ (by decide) ⟨Nat.le_refl _, Nat.le_refl _⟩ rfl rfl (Nat.le_of_ble_eq_true rfl) (dk dX7_order 3 rfl) rfl (fun r5 E5 hp5 => ?_)
  rcases hp5 with ⟨rfl, rfl, b5⟩ | ⟨rfl, rfl, b5⟩
  · refine g_if_eq F (q := 11) (tgt := 15) (dk dX7_order 4 rfl) (by decide) rfl (fun h => absurd h (by decide)) (fun _ => ?_)
    refine g_iconst F (q := 12) (v := 0) (dk dX7_order 5 rfl) rfl (by decide) ?_
    refine g_goto F (tgt := 31) (dk dX7_order 6 rfl) (by decide) ?_
    refine g_istore_n F (q := 32) (lv' := [(2, .int 0), (0, .ref (ad 233)), (1, .int 0)]) (dk dX7_order 15 rfl) rfl rfl (Nat.le_of_ble_eq_true rfl) rfl ?_
    refine g_iload_n F (q := 33) (dk dX7_order 16 rfl) rfl rfl 0 rfl ?_
    refine g_if_ge F (q := 36) (tgt := 38) (dk dX7_order 17 rfl) (by decide) rfl (fun _ => ?_) (fun h => absurd h (by decide))
    refine g_aload_n F (q := 39) (dk dX7_order 20 rfl) rfl rfl 1 rfl ?_
    refine g_dup F (q := 40) (dk dX7_order 21 rfl) rfl rfl ?_
    refine g_getf F (q := 43) h233 rfl inX7 (by omega) (j := 8) (by decide) tq_631 rfl rfl (dk dX7_order 22 rfl) rfl ?_
    refine g_iconst F (q := 44) (v := 1) (dk dX7_order 23 rfl) rfl (by decide) ?_
    refine g_iadd F (q := 45) (dk dX7_order 24 rfl) rfl ?_
    refine g_sti (nA rfl rfl) ?_
    refine g_putf F (q := 48) (ty := .int) h233 rfl inX7 tyX7 tyX7_ok nmX7 (by omega) (j := 8) (by decide) tq_631 rfl rfl (by decide +kernel) rfl rfl (Nat.le_of_ble_eq_true rfl) (dk dX7_order 25 rfl) rfl (fun E45 hE45 hO45 => ?_)
    have hE45 : E45 233 = .inr (7, [.ref (ad 234), .ref (ad 235), .ref (ad 236), .ref (ad 237), .int s0, .int s1, .ref (ad 238), .int (nI ln), .int (nI ((p + 1))), .int s4, .int s5, .ref (ad 239), .ref (ad 240), .ref (ad 241), .long lo, .long mo, .ref (ad 242)]) := hE45
    refine g_aload_n F (q := 49) (dk dX7_order 26 rfl) rfl rfl 1 rfl ?_
    have hc1 := (hO45 238 (by omega)).trans h238
    refine g_callVI F (q := 52) (av := []) (st := []) (c_X7_number hE45 hc1 (by first | assumption | decide | omega) (by omega)) kv_X7_number tq_802 hE45 rfl (by omega) ⟨rfl, rfl⟩ (by decide) ⟨Nat.le_refl _, Nat.le_refl _⟩ rfl rfl (Nat.le_of_ble_eq_true rfl) (dk dX7_order 27 rfl) rfl (fun r49 E49 hp49 => ?_)
    obtain ⟨rfl, hK233_49, hF49⟩ := hp49
    refine g_istore_n F (q := 53) (lv' := [(3, .int (numV txt ln (p + 1))), (2, .int 0), (0, .ref (ad 233)), (1, .int 0)]) (dk dX7_order 28 rfl) rfl rfl (Nat.le_of_ble_eq_true rfl) rfl ?_
    refine g_iload_n F (q := 54) (dk dX7_order 29 rfl) rfl rfl 0 rfl ?_
    refine g_if_lt F (q := 57) (tgt := 66) (dk dX7_order 30 rfl) (by decide) rfl (fun c54 => ?_) (fun c54 => ?_)
    · refine g_iconst F (q := 67) (v := 0) (dk dX7_order 35 rfl) rfl (by decide) ?_
      refine hret 0 E49 _ _ (dk dX7_order 36 rfl) rfl ?_
      exact Or.inr ⟨rfl, _, hK233_49, ((ordP_t b5).trans (ordQ_a c54)), (fun j hj => ((hF49 j (by omega)).trans (hO45 j (by omega))))⟩
    · refine g_aload_n F (q := 58) (dk dX7_order 31 rfl) rfl rfl 2 rfl ?_
      refine g_bipush F (q := 60) (v := 64) (dk dX7_order 32 rfl) rfl (by decide) ?_
      have hc2 := (hF49 238 (by omega)).trans hc1
      refine g_callVI F (q := 63) (av := [.int 64]) (st := []) (c_X7_takes (ch := 64) hK233_49 hc2 (by first | assumption | decide | omega) (numP_le (by omega))) kv_X7_takes tq_806 hK233_49 rfl (by omega) ⟨rfl, rfl⟩ (by decide) ⟨Nat.le_refl _, Nat.le_refl _⟩ rfl rfl (Nat.le_of_ble_eq_true rfl) (dk dX7_order 33 rfl) rfl (fun r60 E60 hp60 => ?_)
      rcases hp60 with ⟨rfl, hK233_60, hc_60, hF60⟩ | ⟨rfl, hK233_60, hc_60, hF60⟩
      · refine g_if_ne F (q := 66) (tgt := 68) (dk dX7_order 34 rfl) (by decide) rfl (fun _ => ?_) (fun h => absurd h (by decide))
        refine g_aload_n F (q := 69) (dk dX7_order 37 rfl) rfl rfl 2 rfl ?_
        have hc3 := (hF60 238 (by omega)).trans hc2
        refine g_callVI F (q := 72) (av := []) (st := []) (c_X7_number hK233_60 hc3 (by first | assumption | decide | omega) (by omega)) kv_X7_number tq_802 hK233_60 rfl (by omega) ⟨rfl, rfl⟩ (by decide) ⟨Nat.le_refl _, Nat.le_refl _⟩ rfl rfl (Nat.le_of_ble_eq_true rfl) (dk dX7_order 38 rfl) rfl (fun r69 E69 hp69 => ?_)
        obtain ⟨rfl, hK233_69, hF69⟩ := hp69
        refine g_istore F (q := 74) (lv' := [(4, .int (numV txt ln ((numP txt ln (p + 1)) + 1))), (3, .int (numV txt ln (p + 1))), (2, .int 0), (0, .ref (ad 233)), (1, .int 0)]) (dk dX7_order 39 rfl) rfl (Nat.le_of_ble_eq_true rfl) rfl ?_
        refine g_iload F (q := 76) (dk dX7_order 40 rfl) rfl 0 rfl ?_
        refine g_if_ge F (q := 79) (tgt := 81) (dk dX7_order 41 rfl) (by decide) rfl (fun c76 => ?_) (fun c76 => ?_)
        · refine g_sipush F (q := 84) (v := 1000) (dk dX7_order 44 rfl) rfl (by decide) ?_
          refine g_istore F (q := 86) (lv' := [(5, .int 1000), (4, .int (numV txt ln ((numP txt ln (p + 1)) + 1))), (3, .int (numV txt ln (p + 1))), (2, .int 0), (0, .ref (ad 233)), (1, .int 0)]) (dk dX7_order 45 rfl) rfl (Nat.le_of_ble_eq_true rfl) rfl ?_
          refine g_aload_n F (q := 87) (dk dX7_order 46 rfl) rfl rfl 4 rfl ?_
          refine g_bipush F (q := 89) (v := 42) (dk dX7_order 47 rfl) rfl (by decide) ?_
          have hc4 := (hF69 238 (by omega)).trans hc3
          refine g_callVI F (q := 92) (av := [.int 42]) (st := []) (c_X7_takes (ch := 42) hK233_69 hc4 (by first | assumption | decide | omega) (numP_le (by omega))) kv_X7_takes tq_806 hK233_69 rfl (by omega) ⟨rfl, rfl⟩ (by decide) ⟨Nat.le_refl _, Nat.le_refl _⟩ rfl rfl (Nat.le_of_ble_eq_true rfl) (dk dX7_order 48 rfl) rfl (fun r89 E89 hp89 => ?_)
          rcases hp89 with ⟨rfl, hK233_89, hc_89, hF89⟩ | ⟨rfl, hK233_89, hc_89, hF89⟩
          · refine g_if_eq F (q := 95) (tgt := 108) (dk dX7_order 49 rfl) (by decide) rfl (fun h => absurd h (by decide)) (fun _ => ?_)
            refine g_aload_n F (q := 96) (dk dX7_order 50 rfl) rfl rfl 4 rfl ?_
            have hc5 := (hF89 238 (by omega)).trans hc4
            refine g_callVI F (q := 99) (av := []) (st := []) (c_X7_number hK233_89 hc5 (by first | assumption | decide | omega) (by omega)) kv_X7_number tq_802 hK233_89 rfl (by omega) ⟨rfl, rfl⟩ (by decide) ⟨Nat.le_refl _, Nat.le_refl _⟩ rfl rfl (Nat.le_of_ble_eq_true rfl) (dk dX7_order 51 rfl) rfl (fun r96 E96 hp96 => ?_)
            obtain ⟨rfl, hK233_96, hF96⟩ := hp96
            refine g_istore F (q := 101) (lv' := [(5, .int (numV txt ln ((numP txt ln ((numP txt ln (p + 1)) + 1)) + 1))), (4, .int (numV txt ln ((numP txt ln (p + 1)) + 1))), (3, .int (numV txt ln (p + 1))), (2, .int 0), (0, .ref (ad 233)), (1, .int 0)]) (dk dX7_order 52 rfl) rfl (Nat.le_of_ble_eq_true rfl) rfl ?_
            refine g_iload F (q := 103) (dk dX7_order 53 rfl) rfl 0 rfl ?_
            refine g_if_ge F (q := 106) (tgt := 108) (dk dX7_order 54 rfl) (by decide) rfl (fun c103 => ?_) (fun c103 => ?_)
            · refine g_aload_n F (q := 109) (dk dX7_order 57 rfl) rfl rfl 4 rfl ?_
              refine g_iload_n F (q := 110) (dk dX7_order 58 rfl) rfl rfl 5 rfl ?_
              refine g_if_eq F (q := 113) (tgt := 126) (dk dX7_order 59 rfl) (by decide) rfl (fun _ => ?_) (fun h => absurd h (by decide))
              refine g_iconst F (q := 127) (v := 0) (dk dX7_order 67 rfl) rfl (by decide) ?_
              refine g_putf F (q := 130) (ty := .int) hK233_96 rfl inX7 tyX7 tyX7_ok nmX7 (by omega) (j := 9) (by decide) tq_632 rfl rfl (by decide +kernel) rfl rfl (Nat.le_of_ble_eq_true rfl) (dk dX7_order 68 rfl) rfl (fun E127 hE127 hO127 => ?_)
              have hE127 : E127 233 = .inr (7, [.ref (ad 234), .ref (ad 235), .ref (ad 236), .ref (ad 237), .int s0, .int s1, .ref (ad 238), .int (nI ln), .int (nI ((numP txt ln ((numP txt ln ((numP txt ln (p + 1)) + 1)) + 1)))), .int 0, .int s5, .ref (ad 239), .ref (ad 240), .ref (ad 241), .long lo, .long mo, .ref (ad 242)]) := hE127
              refine g_iconst F (q := 131) (v := 1) (dk dX7_order 69 rfl) rfl (by decide) ?_
              refine hret 1 E127 _ _ (dk dX7_order 70 rfl) rfl ?_
              exact Or.inl ⟨rfl, _, _, hE127, ((ordP_t b5).trans (ordQ_f c54 hc_60 (Int32.not_lt.mpr c76) hc_89 (Int32.not_lt.mpr c103))), (fun j hj => (((((((hO127 j (by omega)).trans (hF96 j (by omega))).trans (hF89 j (by omega))).trans (hF69 j (by omega))).trans (hF60 j (by omega))).trans (hF49 j (by omega))).trans (hO45 j (by omega))))⟩
            · refine g_iconst F (q := 107) (v := 0) (dk dX7_order 55 rfl) rfl (by decide) ?_
              refine hret 0 E96 _ _ (dk dX7_order 56 rfl) rfl ?_
              exact Or.inr ⟨rfl, _, hK233_96, ((ordP_t b5).trans (ordQ_e c54 hc_60 (Int32.not_lt.mpr c76) hc_89 (Int32.not_le.mp c103))), (fun j hj => ((((((hF96 j (by omega)).trans (hF89 j (by omega))).trans (hF69 j (by omega))).trans (hF60 j (by omega))).trans (hF49 j (by omega))).trans (hO45 j (by omega))))⟩
          · refine g_if_eq F (q := 95) (tgt := 108) (dk dX7_order 49 rfl) (by decide) rfl (fun _ => ?_) (fun h => absurd h (by decide))
            refine g_aload_n F (q := 109) (dk dX7_order 57 rfl) rfl rfl 4 rfl ?_
            refine g_iload_n F (q := 110) (dk dX7_order 58 rfl) rfl rfl 5 rfl ?_
            refine g_if_eq F (q := 113) (tgt := 126) (dk dX7_order 59 rfl) (by decide) rfl (fun _ => ?_) (fun h => absurd h (by decide))
            refine g_iconst F (q := 127) (v := 0) (dk dX7_order 67 rfl) rfl (by decide) ?_
            refine g_putf F (q := 130) (ty := .int) hK233_89 rfl inX7 tyX7 tyX7_ok nmX7 (by omega) (j := 9) (by decide) tq_632 rfl rfl (by decide +kernel) rfl rfl (Nat.le_of_ble_eq_true rfl) (dk dX7_order 68 rfl) rfl (fun E127 hE127 hO127 => ?_)
            have hE127 : E127 233 = .inr (7, [.ref (ad 234), .ref (ad 235), .ref (ad 236), .ref (ad 237), .int s0, .int s1, .ref (ad 238), .int (nI ln), .int (nI ((numP txt ln ((numP txt ln (p + 1)) + 1)))), .int 0, .int s5, .ref (ad 239), .ref (ad 240), .ref (ad 241), .long lo, .long mo, .ref (ad 242)]) := hE127
            refine g_iconst F (q := 131) (v := 1) (dk dX7_order 69 rfl) rfl (by decide) ?_
            refine hret 1 E127 _ _ (dk dX7_order 70 rfl) rfl ?_
            exact Or.inl ⟨rfl, _, _, hE127, ((ordP_t b5).trans (ordQ_d c54 hc_60 (Int32.not_lt.mpr c76) hc_89)), (fun j hj => ((((((hO127 j (by omega)).trans (hF89 j (by omega))).trans (hF69 j (by omega))).trans (hF60 j (by omega))).trans (hF49 j (by omega))).trans (hO45 j (by omega))))⟩
        · refine g_iconst F (q := 80) (v := 0) (dk dX7_order 42 rfl) rfl (by decide) ?_
          refine hret 0 E69 _ _ (dk dX7_order 43 rfl) rfl ?_
          exact Or.inr ⟨rfl, _, hK233_69, ((ordP_t b5).trans (ordQ_c c54 hc_60 (Int32.not_le.mp c76))), (fun j hj => ((((hF69 j (by omega)).trans (hF60 j (by omega))).trans (hF49 j (by omega))).trans (hO45 j (by omega))))⟩
      · refine g_if_ne F (q := 66) (tgt := 68) (dk dX7_order 34 rfl) (by decide) rfl (fun h => absurd h (by decide)) (fun _ => ?_)
        refine g_iconst F (q := 67) (v := 0) (dk dX7_order 35 rfl) rfl (by decide) ?_
        refine hret 0 E60 _ _ (dk dX7_order 36 rfl) rfl ?_
        exact Or.inr ⟨rfl, _, hK233_60, ((ordP_t b5).trans (ordQ_b c54 hc_60)), (fun j hj => (((hF60 j (by omega)).trans (hF49 j (by omega))).trans (hO45 j (by omega))))⟩
  · refine g_if_eq F (q := 11) (tgt := 15) (dk dX7_order 4 rfl) (by decide) rfl (fun _ => ?_) (fun h => absurd h (by decide))
    refine g_aload_n F (q := 16) (dk dX7_order 7 rfl) rfl rfl 0 rfl ?_
    refine g_bipush F (q := 18) (v := 107) (dk dX7_order 8 rfl) rfl (by decide) ?_
    refine g_bipush F (q := 20) (v := 107) (dk dX7_order 9 rfl) rfl (by decide) ?_
    refine g_callVI F (q := 23) (av := [.int 107, .int 107]) (st := []) (c_X7_sees (a := 107) (b := 107) h233 h238 (by first | assumption | decide | omega) (by first | assumption | decide | omega)) kv_X7_sees tq_798 h233 rfl (by omega) ⟨rfl, rfl⟩ (by decide) ⟨Nat.le_refl _, Nat.le_refl _⟩ rfl rfl (Nat.le_of_ble_eq_true rfl) (dk dX7_order 10 rfl) rfl (fun r20 E20 hp20 => ?_)
    rcases hp20 with ⟨rfl, rfl, b20⟩ | ⟨rfl, rfl, b20⟩
    · refine g_if_eq F (q := 26) (tgt := 30) (dk dX7_order 11 rfl) (by decide) rfl (fun h => absurd h (by decide)) (fun _ => ?_)
      refine g_iconst F (q := 27) (v := 1) (dk dX7_order 12 rfl) rfl (by decide) ?_
      refine g_goto F (tgt := 31) (dk dX7_order 13 rfl) (by decide) ?_
      refine g_istore_n F (q := 32) (lv' := [(2, .int 1), (0, .ref (ad 233)), (1, .int 0)]) (dk dX7_order 15 rfl) rfl rfl (Nat.le_of_ble_eq_true rfl) rfl ?_
      refine g_iload_n F (q := 33) (dk dX7_order 16 rfl) rfl rfl 0 rfl ?_
      refine g_if_ge F (q := 36) (tgt := 38) (dk dX7_order 17 rfl) (by decide) rfl (fun _ => ?_) (fun h => absurd h (by decide))
      refine g_aload_n F (q := 39) (dk dX7_order 20 rfl) rfl rfl 1 rfl ?_
      refine g_dup F (q := 40) (dk dX7_order 21 rfl) rfl rfl ?_
      refine g_getf F (q := 43) h233 rfl inX7 (by omega) (j := 8) (by decide) tq_631 rfl rfl (dk dX7_order 22 rfl) rfl ?_
      refine g_iconst F (q := 44) (v := 1) (dk dX7_order 23 rfl) rfl (by decide) ?_
      refine g_iadd F (q := 45) (dk dX7_order 24 rfl) rfl ?_
      refine g_sti (nA rfl rfl) ?_
      refine g_putf F (q := 48) (ty := .int) h233 rfl inX7 tyX7 tyX7_ok nmX7 (by omega) (j := 8) (by decide) tq_631 rfl rfl (by decide +kernel) rfl rfl (Nat.le_of_ble_eq_true rfl) (dk dX7_order 25 rfl) rfl (fun E45 hE45 hO45 => ?_)
      have hE45 : E45 233 = .inr (7, [.ref (ad 234), .ref (ad 235), .ref (ad 236), .ref (ad 237), .int s0, .int s1, .ref (ad 238), .int (nI ln), .int (nI ((p + 1))), .int s4, .int s5, .ref (ad 239), .ref (ad 240), .ref (ad 241), .long lo, .long mo, .ref (ad 242)]) := hE45
      refine g_aload_n F (q := 49) (dk dX7_order 26 rfl) rfl rfl 1 rfl ?_
      have hc6 := (hO45 238 (by omega)).trans h238
      refine g_callVI F (q := 52) (av := []) (st := []) (c_X7_number hE45 hc6 (by first | assumption | decide | omega) (by omega)) kv_X7_number tq_802 hE45 rfl (by omega) ⟨rfl, rfl⟩ (by decide) ⟨Nat.le_refl _, Nat.le_refl _⟩ rfl rfl (Nat.le_of_ble_eq_true rfl) (dk dX7_order 27 rfl) rfl (fun r49 E49 hp49 => ?_)
      obtain ⟨rfl, hK233_49, hF49⟩ := hp49
      refine g_istore_n F (q := 53) (lv' := [(3, .int (numV txt ln (p + 1))), (2, .int 1), (0, .ref (ad 233)), (1, .int 0)]) (dk dX7_order 28 rfl) rfl rfl (Nat.le_of_ble_eq_true rfl) rfl ?_
      refine g_iload_n F (q := 54) (dk dX7_order 29 rfl) rfl rfl 0 rfl ?_
      refine g_if_lt F (q := 57) (tgt := 66) (dk dX7_order 30 rfl) (by decide) rfl (fun c54 => ?_) (fun c54 => ?_)
      · refine g_iconst F (q := 67) (v := 0) (dk dX7_order 35 rfl) rfl (by decide) ?_
        refine hret 0 E49 _ _ (dk dX7_order 36 rfl) rfl ?_
        exact Or.inr ⟨rfl, _, hK233_49, ((ordP_k b5 b20).trans (ordQ_a c54)), (fun j hj => ((hF49 j (by omega)).trans (hO45 j (by omega))))⟩
      · refine g_aload_n F (q := 58) (dk dX7_order 31 rfl) rfl rfl 2 rfl ?_
        refine g_bipush F (q := 60) (v := 64) (dk dX7_order 32 rfl) rfl (by decide) ?_
        have hc7 := (hF49 238 (by omega)).trans hc6
        refine g_callVI F (q := 63) (av := [.int 64]) (st := []) (c_X7_takes (ch := 64) hK233_49 hc7 (by first | assumption | decide | omega) (numP_le (by omega))) kv_X7_takes tq_806 hK233_49 rfl (by omega) ⟨rfl, rfl⟩ (by decide) ⟨Nat.le_refl _, Nat.le_refl _⟩ rfl rfl (Nat.le_of_ble_eq_true rfl) (dk dX7_order 33 rfl) rfl (fun r60 E60 hp60 => ?_)
        rcases hp60 with ⟨rfl, hK233_60, hc_60, hF60⟩ | ⟨rfl, hK233_60, hc_60, hF60⟩
        · refine g_if_ne F (q := 66) (tgt := 68) (dk dX7_order 34 rfl) (by decide) rfl (fun _ => ?_) (fun h => absurd h (by decide))
          refine g_aload_n F (q := 69) (dk dX7_order 37 rfl) rfl rfl 2 rfl ?_
          have hc8 := (hF60 238 (by omega)).trans hc7
          refine g_callVI F (q := 72) (av := []) (st := []) (c_X7_number hK233_60 hc8 (by first | assumption | decide | omega) (by omega)) kv_X7_number tq_802 hK233_60 rfl (by omega) ⟨rfl, rfl⟩ (by decide) ⟨Nat.le_refl _, Nat.le_refl _⟩ rfl rfl (Nat.le_of_ble_eq_true rfl) (dk dX7_order 38 rfl) rfl (fun r69 E69 hp69 => ?_)
          obtain ⟨rfl, hK233_69, hF69⟩ := hp69
          refine g_istore F (q := 74) (lv' := [(4, .int (numV txt ln ((numP txt ln (p + 1)) + 1))), (3, .int (numV txt ln (p + 1))), (2, .int 1), (0, .ref (ad 233)), (1, .int 0)]) (dk dX7_order 39 rfl) rfl (Nat.le_of_ble_eq_true rfl) rfl ?_
          refine g_iload F (q := 76) (dk dX7_order 40 rfl) rfl 0 rfl ?_
          refine g_if_ge F (q := 79) (tgt := 81) (dk dX7_order 41 rfl) (by decide) rfl (fun c76 => ?_) (fun c76 => ?_)
          · refine g_sipush F (q := 84) (v := 1000) (dk dX7_order 44 rfl) rfl (by decide) ?_
            refine g_istore F (q := 86) (lv' := [(5, .int 1000), (4, .int (numV txt ln ((numP txt ln (p + 1)) + 1))), (3, .int (numV txt ln (p + 1))), (2, .int 1), (0, .ref (ad 233)), (1, .int 0)]) (dk dX7_order 45 rfl) rfl (Nat.le_of_ble_eq_true rfl) rfl ?_
            refine g_aload_n F (q := 87) (dk dX7_order 46 rfl) rfl rfl 4 rfl ?_
            refine g_bipush F (q := 89) (v := 42) (dk dX7_order 47 rfl) rfl (by decide) ?_
            have hc9 := (hF69 238 (by omega)).trans hc8
            refine g_callVI F (q := 92) (av := [.int 42]) (st := []) (c_X7_takes (ch := 42) hK233_69 hc9 (by first | assumption | decide | omega) (numP_le (by omega))) kv_X7_takes tq_806 hK233_69 rfl (by omega) ⟨rfl, rfl⟩ (by decide) ⟨Nat.le_refl _, Nat.le_refl _⟩ rfl rfl (Nat.le_of_ble_eq_true rfl) (dk dX7_order 48 rfl) rfl (fun r89 E89 hp89 => ?_)
            rcases hp89 with ⟨rfl, hK233_89, hc_89, hF89⟩ | ⟨rfl, hK233_89, hc_89, hF89⟩
            · refine g_if_eq F (q := 95) (tgt := 108) (dk dX7_order 49 rfl) (by decide) rfl (fun h => absurd h (by decide)) (fun _ => ?_)
              refine g_aload_n F (q := 96) (dk dX7_order 50 rfl) rfl rfl 4 rfl ?_
              have hc10 := (hF89 238 (by omega)).trans hc9
              refine g_callVI F (q := 99) (av := []) (st := []) (c_X7_number hK233_89 hc10 (by first | assumption | decide | omega) (by omega)) kv_X7_number tq_802 hK233_89 rfl (by omega) ⟨rfl, rfl⟩ (by decide) ⟨Nat.le_refl _, Nat.le_refl _⟩ rfl rfl (Nat.le_of_ble_eq_true rfl) (dk dX7_order 51 rfl) rfl (fun r96 E96 hp96 => ?_)
              obtain ⟨rfl, hK233_96, hF96⟩ := hp96
              refine g_istore F (q := 101) (lv' := [(5, .int (numV txt ln ((numP txt ln ((numP txt ln (p + 1)) + 1)) + 1))), (4, .int (numV txt ln ((numP txt ln (p + 1)) + 1))), (3, .int (numV txt ln (p + 1))), (2, .int 1), (0, .ref (ad 233)), (1, .int 0)]) (dk dX7_order 52 rfl) rfl (Nat.le_of_ble_eq_true rfl) rfl ?_
              refine g_iload F (q := 103) (dk dX7_order 53 rfl) rfl 0 rfl ?_
              refine g_if_ge F (q := 106) (tgt := 108) (dk dX7_order 54 rfl) (by decide) rfl (fun c103 => ?_) (fun c103 => ?_)
              · refine g_aload_n F (q := 109) (dk dX7_order 57 rfl) rfl rfl 4 rfl ?_
                refine g_iload_n F (q := 110) (dk dX7_order 58 rfl) rfl rfl 5 rfl ?_
                refine g_if_eq F (q := 113) (tgt := 126) (dk dX7_order 59 rfl) (by decide) rfl (fun _ => ?_) (fun h => absurd h (by decide))
                refine g_iconst F (q := 127) (v := 0) (dk dX7_order 67 rfl) rfl (by decide) ?_
                refine g_putf F (q := 130) (ty := .int) hK233_96 rfl inX7 tyX7 tyX7_ok nmX7 (by omega) (j := 9) (by decide) tq_632 rfl rfl (by decide +kernel) rfl rfl (Nat.le_of_ble_eq_true rfl) (dk dX7_order 68 rfl) rfl (fun E127 hE127 hO127 => ?_)
                have hE127 : E127 233 = .inr (7, [.ref (ad 234), .ref (ad 235), .ref (ad 236), .ref (ad 237), .int s0, .int s1, .ref (ad 238), .int (nI ln), .int (nI ((numP txt ln ((numP txt ln ((numP txt ln (p + 1)) + 1)) + 1)))), .int 0, .int s5, .ref (ad 239), .ref (ad 240), .ref (ad 241), .long lo, .long mo, .ref (ad 242)]) := hE127
                refine g_iconst F (q := 131) (v := 1) (dk dX7_order 69 rfl) rfl (by decide) ?_
                refine hret 1 E127 _ _ (dk dX7_order 70 rfl) rfl ?_
                exact Or.inl ⟨rfl, _, _, hE127, ((ordP_k b5 b20).trans (ordQ_f c54 hc_60 (Int32.not_lt.mpr c76) hc_89 (Int32.not_lt.mpr c103))), (fun j hj => (((((((hO127 j (by omega)).trans (hF96 j (by omega))).trans (hF89 j (by omega))).trans (hF69 j (by omega))).trans (hF60 j (by omega))).trans (hF49 j (by omega))).trans (hO45 j (by omega))))⟩
              · refine g_iconst F (q := 107) (v := 0) (dk dX7_order 55 rfl) rfl (by decide) ?_
                refine hret 0 E96 _ _ (dk dX7_order 56 rfl) rfl ?_
                exact Or.inr ⟨rfl, _, hK233_96, ((ordP_k b5 b20).trans (ordQ_e c54 hc_60 (Int32.not_lt.mpr c76) hc_89 (Int32.not_le.mp c103))), (fun j hj => ((((((hF96 j (by omega)).trans (hF89 j (by omega))).trans (hF69 j (by omega))).trans (hF60 j (by omega))).trans (hF49 j (by omega))).trans (hO45 j (by omega))))⟩
            · refine g_if_eq F (q := 95) (tgt := 108) (dk dX7_order 49 rfl) (by decide) rfl (fun _ => ?_) (fun h => absurd h (by decide))
              refine g_aload_n F (q := 109) (dk dX7_order 57 rfl) rfl rfl 4 rfl ?_
              refine g_iload_n F (q := 110) (dk dX7_order 58 rfl) rfl rfl 5 rfl ?_
              refine g_if_eq F (q := 113) (tgt := 126) (dk dX7_order 59 rfl) (by decide) rfl (fun _ => ?_) (fun h => absurd h (by decide))
              refine g_iconst F (q := 127) (v := 0) (dk dX7_order 67 rfl) rfl (by decide) ?_
              refine g_putf F (q := 130) (ty := .int) hK233_89 rfl inX7 tyX7 tyX7_ok nmX7 (by omega) (j := 9) (by decide) tq_632 rfl rfl (by decide +kernel) rfl rfl (Nat.le_of_ble_eq_true rfl) (dk dX7_order 68 rfl) rfl (fun E127 hE127 hO127 => ?_)
              have hE127 : E127 233 = .inr (7, [.ref (ad 234), .ref (ad 235), .ref (ad 236), .ref (ad 237), .int s0, .int s1, .ref (ad 238), .int (nI ln), .int (nI ((numP txt ln ((numP txt ln (p + 1)) + 1)))), .int 0, .int s5, .ref (ad 239), .ref (ad 240), .ref (ad 241), .long lo, .long mo, .ref (ad 242)]) := hE127
              refine g_iconst F (q := 131) (v := 1) (dk dX7_order 69 rfl) rfl (by decide) ?_
              refine hret 1 E127 _ _ (dk dX7_order 70 rfl) rfl ?_
              exact Or.inl ⟨rfl, _, _, hE127, ((ordP_k b5 b20).trans (ordQ_d c54 hc_60 (Int32.not_lt.mpr c76) hc_89)), (fun j hj => ((((((hO127 j (by omega)).trans (hF89 j (by omega))).trans (hF69 j (by omega))).trans (hF60 j (by omega))).trans (hF49 j (by omega))).trans (hO45 j (by omega))))⟩
          · refine g_iconst F (q := 80) (v := 0) (dk dX7_order 42 rfl) rfl (by decide) ?_
            refine hret 0 E69 _ _ (dk dX7_order 43 rfl) rfl ?_
            exact Or.inr ⟨rfl, _, hK233_69, ((ordP_k b5 b20).trans (ordQ_c c54 hc_60 (Int32.not_le.mp c76))), (fun j hj => ((((hF69 j (by omega)).trans (hF60 j (by omega))).trans (hF49 j (by omega))).trans (hO45 j (by omega))))⟩
        · refine g_if_ne F (q := 66) (tgt := 68) (dk dX7_order 34 rfl) (by decide) rfl (fun h => absurd h (by decide)) (fun _ => ?_)
          refine g_iconst F (q := 67) (v := 0) (dk dX7_order 35 rfl) rfl (by decide) ?_
          refine hret 0 E60 _ _ (dk dX7_order 36 rfl) rfl ?_
          exact Or.inr ⟨rfl, _, hK233_60, ((ordP_k b5 b20).trans (ordQ_b c54 hc_60)), (fun j hj => (((hF60 j (by omega)).trans (hF49 j (by omega))).trans (hO45 j (by omega))))⟩
    · refine g_if_eq F (q := 26) (tgt := 30) (dk dX7_order 11 rfl) (by decide) rfl (fun _ => ?_) (fun h => absurd h (by decide))
      refine g_iconst F (q := 31) (v := (-1)) (dk dX7_order 14 rfl) rfl (by decide) ?_
      refine g_istore_n F (q := 32) (lv' := [(2, .int (-1)), (0, .ref (ad 233)), (1, .int 0)]) (dk dX7_order 15 rfl) rfl rfl (Nat.le_of_ble_eq_true rfl) rfl ?_
      refine g_iload_n F (q := 33) (dk dX7_order 16 rfl) rfl rfl 0 rfl ?_
      refine g_if_ge F (q := 36) (tgt := 38) (dk dX7_order 17 rfl) (by decide) rfl (fun h => absurd h (by decide)) (fun _ => ?_)
      refine g_iconst F (q := 37) (v := 0) (dk dX7_order 18 rfl) rfl (by decide) ?_
      refine hret 0 E _ _ (dk dX7_order 19 rfl) rfl ?_
      exact Or.inr ⟨rfl, _, h233, (ordP_n b5 b20), (fun j _ => rfl)⟩
theorem kv_X7_order : KV yX7_order "ThumpEarsModel" cX7_order 6 (some .boolean) 1 := ⟨tq_796, tq_22, tq_47, tq_797, by decide +kernel⟩
abbrev rm_X7_order_b : Room := { frames := 3, cells := 0, slots := 0, locals := 77 }
set_option maxHeartbeats 4000000 in
set_option maxRecDepth 100000 in
theorem c_X7_order_b {l : Launch} {D : va_G} {cA : Nat → ClassId} {ad : Nat → Nat} {E : Nat → va_E} {ln p : Nat} {s0 s1 s4 s5 : Int32} {lo mo : Int64} {txt : Nat → Int32} {r : Nat → Int32} {ne nt nk : Nat} (h233 : E 233 = .inr (7, [.ref (ad 234), .ref (ad 235), .ref (ad 236), .ref (ad 237), .int s0, .int s1, .ref (ad 238), .int (nI ln), .int (nI p), .int s4, .int s5, .ref (ad 239), .ref (ad 240), .ref (ad 241), .long lo, .long mo, .ref (ad 242)])) (h238 : E 238 = .inl (cA 3, 60, .inl txt)) (h234 : E 234 = .inl (cA 0, 346, .inl r))  (hln : ln ≤ 60) (hp : p ≤ ln) (h0 : r 0 = nI ne) (hne : ne ≤ 10) (h1 : r 1 = nI nt) (hnt : nt ≤ 10) (h2 : r 2 = nI nk) (hnk : nk ≤ 10) : CtI l D cA yX7_order cX7_order 6 .boolean rm_X7_order_b 243 ad E [.ref (ad 233), .int 1] (fun x E' => (1 = x ∧ (∃ (q : Nat) (k : Nat) (pl : Int32) (ti : Int32) (re : Int32), E' 233 = .inr (7, [.ref (ad 234), .ref (ad 235), .ref (ad 236), .ref (ad 237), .int s0, .int s1, .ref (ad 238), .int (nI ln), .int (nI q), .int ((mkS r ne k (if k = 0 then nt else nk) pl ti re).1), .int s5, .ref (ad 239), .ref (ad 240), .ref (ad 241), .long lo, .long mo, .ref (ad 242)]) ∧ E' 234 = .inl (cA 0, 346, .inl ((mkS r ne k (if k = 0 then nt else nk) pl ti re).2)) ∧ (ordP txt ln p = (q, some (k, pl, ti, re))) ∧ ∀ j, (j ≠ 233 ∧ j ≠ 234) → E' j = E j)) ∨ (0 = x ∧ (∃ (q : Nat), E' 233 = .inr (7, [.ref (ad 234), .ref (ad 235), .ref (ad 236), .ref (ad 237), .int s0, .int s1, .ref (ad 238), .int (nI ln), .int (nI q), .int s4, .int s5, .ref (ad 239), .ref (ad 240), .ref (ad 241), .long lo, .long mo, .ref (ad 242)]) ∧ (ordP txt ln p = (q, none)) ∧ ∀ j, (j ≠ 233) → E' j = E j))) := by
  refine CtI.of (by decide +kernel) (Nat.le_of_ble_eq_true rfl) (fun X F hret => ?_)
  have F : Fr "ThumpEarsModel" cX7_order 6 D cA X := F
  refine (show GG rm_X7_order_b 6 l D X 0 0 243 ad E 0 [(0, .ref (ad 233)), (1, .int 1)] [] from ?_)
  refine g_aload_n F (q := 1) (dk dX7_order 0 rfl) rfl rfl 0 rfl ?_
  refine g_bipush F (q := 3) (v := 116) (dk dX7_order 1 rfl) rfl (by decide) ?_
  refine g_bipush F (q := 5) (v := 116) (dk dX7_order 2 rfl) rfl (by decide) ?_
  refine g_callVI F (q := 8) (av := [.int 116, .int 116]) (st := []) (c_X7_sees (a := 116) (b := 116) h233 h238 (by first | assumption | decide | omega) (by first | assumption | decide | omega)) kv_X7_sees tq_798 h233 rfl (by omega) ⟨rfl, rfl⟩ (by decide) ⟨Nat.le_refl _, Nat.le_refl _⟩ rfl rfl (Nat.le_of_ble_eq_true rfl) (dk dX7_order 3 rfl) rfl (fun r5 E5 hp5 => ?_)
  rcases hp5 with ⟨rfl, rfl, b5⟩ | ⟨rfl, rfl, b5⟩
  · refine g_if_eq F (q := 11) (tgt := 15) (dk dX7_order 4 rfl) (by decide) rfl (fun h => absurd h (by decide)) (fun _ => ?_)
    refine g_iconst F (q := 12) (v := 0) (dk dX7_order 5 rfl) rfl (by decide) ?_
    refine g_goto F (tgt := 31) (dk dX7_order 6 rfl) (by decide) ?_
    refine g_istore_n F (q := 32) (lv' := [(2, .int 0), (0, .ref (ad 233)), (1, .int 1)]) (dk dX7_order 15 rfl) rfl rfl (Nat.le_of_ble_eq_true rfl) rfl ?_
    refine g_iload_n F (q := 33) (dk dX7_order 16 rfl) rfl rfl 0 rfl ?_
    refine g_if_ge F (q := 36) (tgt := 38) (dk dX7_order 17 rfl) (by decide) rfl (fun _ => ?_) (fun h => absurd h (by decide))
    refine g_aload_n F (q := 39) (dk dX7_order 20 rfl) rfl rfl 1 rfl ?_
    refine g_dup F (q := 40) (dk dX7_order 21 rfl) rfl rfl ?_
    refine g_getf F (q := 43) h233 rfl inX7 (by omega) (j := 8) (by decide) tq_631 rfl rfl (dk dX7_order 22 rfl) rfl ?_
    refine g_iconst F (q := 44) (v := 1) (dk dX7_order 23 rfl) rfl (by decide) ?_
    refine g_iadd F (q := 45) (dk dX7_order 24 rfl) rfl ?_
    refine g_sti (nA rfl rfl) ?_
    refine g_putf F (q := 48) (ty := .int) h233 rfl inX7 tyX7 tyX7_ok nmX7 (by omega) (j := 8) (by decide) tq_631 rfl rfl (by decide +kernel) rfl rfl (Nat.le_of_ble_eq_true rfl) (dk dX7_order 25 rfl) rfl (fun E45 hE45 hO45 => ?_)
    have hE45 : E45 233 = .inr (7, [.ref (ad 234), .ref (ad 235), .ref (ad 236), .ref (ad 237), .int s0, .int s1, .ref (ad 238), .int (nI ln), .int (nI ((p + 1))), .int s4, .int s5, .ref (ad 239), .ref (ad 240), .ref (ad 241), .long lo, .long mo, .ref (ad 242)]) := hE45
    refine g_aload_n F (q := 49) (dk dX7_order 26 rfl) rfl rfl 1 rfl ?_
    have hc1 := (hO45 238 (by omega)).trans h238
    refine g_callVI F (q := 52) (av := []) (st := []) (c_X7_number hE45 hc1 (by first | assumption | decide | omega) (by omega)) kv_X7_number tq_802 hE45 rfl (by omega) ⟨rfl, rfl⟩ (by decide) ⟨Nat.le_refl _, Nat.le_refl _⟩ rfl rfl (Nat.le_of_ble_eq_true rfl) (dk dX7_order 27 rfl) rfl (fun r49 E49 hp49 => ?_)
    obtain ⟨rfl, hK233_49, hF49⟩ := hp49
    refine g_istore_n F (q := 53) (lv' := [(3, .int (numV txt ln (p + 1))), (2, .int 0), (0, .ref (ad 233)), (1, .int 1)]) (dk dX7_order 28 rfl) rfl rfl (Nat.le_of_ble_eq_true rfl) rfl ?_
    refine g_iload_n F (q := 54) (dk dX7_order 29 rfl) rfl rfl 0 rfl ?_
    refine g_if_lt F (q := 57) (tgt := 66) (dk dX7_order 30 rfl) (by decide) rfl (fun c54 => ?_) (fun c54 => ?_)
    · refine g_iconst F (q := 67) (v := 0) (dk dX7_order 35 rfl) rfl (by decide) ?_
      refine hret 0 E49 _ _ (dk dX7_order 36 rfl) rfl ?_
      exact Or.inr ⟨rfl, _, hK233_49, ((ordP_t b5).trans (ordQ_a c54)), (fun j hj => ((hF49 j (by omega)).trans (hO45 j (by omega))))⟩
    · refine g_aload_n F (q := 58) (dk dX7_order 31 rfl) rfl rfl 2 rfl ?_
      refine g_bipush F (q := 60) (v := 64) (dk dX7_order 32 rfl) rfl (by decide) ?_
      have hc2 := (hF49 238 (by omega)).trans hc1
      refine g_callVI F (q := 63) (av := [.int 64]) (st := []) (c_X7_takes (ch := 64) hK233_49 hc2 (by first | assumption | decide | omega) (numP_le (by omega))) kv_X7_takes tq_806 hK233_49 rfl (by omega) ⟨rfl, rfl⟩ (by decide) ⟨Nat.le_refl _, Nat.le_refl _⟩ rfl rfl (Nat.le_of_ble_eq_true rfl) (dk dX7_order 33 rfl) rfl (fun r60 E60 hp60 => ?_)
      rcases hp60 with ⟨rfl, hK233_60, hc_60, hF60⟩ | ⟨rfl, hK233_60, hc_60, hF60⟩
      · refine g_if_ne F (q := 66) (tgt := 68) (dk dX7_order 34 rfl) (by decide) rfl (fun _ => ?_) (fun h => absurd h (by decide))
        refine g_aload_n F (q := 69) (dk dX7_order 37 rfl) rfl rfl 2 rfl ?_
        have hc3 := (hF60 238 (by omega)).trans hc2
        refine g_callVI F (q := 72) (av := []) (st := []) (c_X7_number hK233_60 hc3 (by first | assumption | decide | omega) (by omega)) kv_X7_number tq_802 hK233_60 rfl (by omega) ⟨rfl, rfl⟩ (by decide) ⟨Nat.le_refl _, Nat.le_refl _⟩ rfl rfl (Nat.le_of_ble_eq_true rfl) (dk dX7_order 38 rfl) rfl (fun r69 E69 hp69 => ?_)
        obtain ⟨rfl, hK233_69, hF69⟩ := hp69
        refine g_istore F (q := 74) (lv' := [(4, .int (numV txt ln ((numP txt ln (p + 1)) + 1))), (3, .int (numV txt ln (p + 1))), (2, .int 0), (0, .ref (ad 233)), (1, .int 1)]) (dk dX7_order 39 rfl) rfl (Nat.le_of_ble_eq_true rfl) rfl ?_
        refine g_iload F (q := 76) (dk dX7_order 40 rfl) rfl 0 rfl ?_
        refine g_if_ge F (q := 79) (tgt := 81) (dk dX7_order 41 rfl) (by decide) rfl (fun c76 => ?_) (fun c76 => ?_)
        · refine g_sipush F (q := 84) (v := 1000) (dk dX7_order 44 rfl) rfl (by decide) ?_
          refine g_istore F (q := 86) (lv' := [(5, .int 1000), (4, .int (numV txt ln ((numP txt ln (p + 1)) + 1))), (3, .int (numV txt ln (p + 1))), (2, .int 0), (0, .ref (ad 233)), (1, .int 1)]) (dk dX7_order 45 rfl) rfl (Nat.le_of_ble_eq_true rfl) rfl ?_
          refine g_aload_n F (q := 87) (dk dX7_order 46 rfl) rfl rfl 4 rfl ?_
          refine g_bipush F (q := 89) (v := 42) (dk dX7_order 47 rfl) rfl (by decide) ?_
          have hc4 := (hF69 238 (by omega)).trans hc3
          refine g_callVI F (q := 92) (av := [.int 42]) (st := []) (c_X7_takes (ch := 42) hK233_69 hc4 (by first | assumption | decide | omega) (numP_le (by omega))) kv_X7_takes tq_806 hK233_69 rfl (by omega) ⟨rfl, rfl⟩ (by decide) ⟨Nat.le_refl _, Nat.le_refl _⟩ rfl rfl (Nat.le_of_ble_eq_true rfl) (dk dX7_order 48 rfl) rfl (fun r89 E89 hp89 => ?_)
          rcases hp89 with ⟨rfl, hK233_89, hc_89, hF89⟩ | ⟨rfl, hK233_89, hc_89, hF89⟩
          · refine g_if_eq F (q := 95) (tgt := 108) (dk dX7_order 49 rfl) (by decide) rfl (fun h => absurd h (by decide)) (fun _ => ?_)
            refine g_aload_n F (q := 96) (dk dX7_order 50 rfl) rfl rfl 4 rfl ?_
            have hc5 := (hF89 238 (by omega)).trans hc4
            refine g_callVI F (q := 99) (av := []) (st := []) (c_X7_number hK233_89 hc5 (by first | assumption | decide | omega) (by omega)) kv_X7_number tq_802 hK233_89 rfl (by omega) ⟨rfl, rfl⟩ (by decide) ⟨Nat.le_refl _, Nat.le_refl _⟩ rfl rfl (Nat.le_of_ble_eq_true rfl) (dk dX7_order 51 rfl) rfl (fun r96 E96 hp96 => ?_)
            obtain ⟨rfl, hK233_96, hF96⟩ := hp96
            refine g_istore F (q := 101) (lv' := [(5, .int (numV txt ln ((numP txt ln ((numP txt ln (p + 1)) + 1)) + 1))), (4, .int (numV txt ln ((numP txt ln (p + 1)) + 1))), (3, .int (numV txt ln (p + 1))), (2, .int 0), (0, .ref (ad 233)), (1, .int 1)]) (dk dX7_order 52 rfl) rfl (Nat.le_of_ble_eq_true rfl) rfl ?_
            refine g_iload F (q := 103) (dk dX7_order 53 rfl) rfl 0 rfl ?_
            refine g_if_ge F (q := 106) (tgt := 108) (dk dX7_order 54 rfl) (by decide) rfl (fun c103 => ?_) (fun c103 => ?_)
            · refine g_aload_n F (q := 109) (dk dX7_order 57 rfl) rfl rfl 4 rfl ?_
              refine g_iload_n F (q := 110) (dk dX7_order 58 rfl) rfl rfl 5 rfl ?_
              refine g_if_eq F (q := 113) (tgt := 126) (dk dX7_order 59 rfl) (by decide) rfl (fun h => absurd h (by decide)) (fun _ => ?_)
              refine g_aload_n F (q := 114) (dk dX7_order 60 rfl) rfl rfl 4 rfl ?_
              refine g_iload_n F (q := 115) (dk dX7_order 61 rfl) rfl rfl 3 rfl ?_
              refine g_iload_n F (q := 116) (dk dX7_order 62 rfl) rfl rfl 2 rfl ?_
              refine g_iload F (q := 118) (dk dX7_order 63 rfl) rfl 1 rfl ?_
              refine g_iload F (q := 120) (dk dX7_order 64 rfl) rfl 0 rfl ?_
              have hc6 := (hO45 234 (by omega)).trans h234
              have hc7 := (hF49 234 (by omega)).trans hc6
              have hc8 := (hF60 234 (by omega)).trans hc7
              have hc9 := (hF69 234 (by omega)).trans hc8
              have hc10 := (hF89 234 (by omega)).trans hc9
              have hc11 := (hF96 234 (by omega)).trans hc10
              refine g_callVI F (q := 123) (av := [.int 0, .int (numV txt ln (p + 1)), .int (numV txt ln ((numP txt ln (p + 1)) + 1)), .int (numV txt ln ((numP txt ln ((numP txt ln (p + 1)) + 1)) + 1))]) (st := [.ref (ad 233)]) (c_X7_make (k := 0) (p := (numV txt ln (p + 1))) (t := (numV txt ln ((numP txt ln (p + 1)) + 1))) (c := (numV txt ln ((numP txt ln ((numP txt ln (p + 1)) + 1)) + 1))) hK233_96 hc11 (by first | assumption | decide | omega) (by first | assumption | decide | omega) (by first | assumption | decide | omega) h1 (by omega)) kv_X7_make tq_742 hK233_96 rfl (by omega) ⟨rfl, rfl⟩ (by decide) ⟨Nat.le_refl _, Nat.le_refl _⟩ rfl rfl (Nat.le_of_ble_eq_true rfl) (dk dX7_order 65 rfl) rfl (fun r120 E120 hp120 => ?_)
              obtain ⟨rfl, hK234_120, hF120⟩ := hp120
              refine g_goto F (tgt := 127) (dk dX7_order 66 rfl) (by decide) ?_
              have hc12 := (hF120 233 (by omega)).trans hK233_96
              refine g_putf F (q := 130) (ty := .int) hc12 rfl inX7 tyX7 tyX7_ok nmX7 (by omega) (j := 9) (by decide) tq_632 rfl rfl (by decide +kernel) rfl rfl (Nat.le_of_ble_eq_true rfl) (dk dX7_order 68 rfl) rfl (fun E127 hE127 hO127 => ?_)
              have hE127 : E127 233 = .inr (7, [.ref (ad 234), .ref (ad 235), .ref (ad 236), .ref (ad 237), .int s0, .int s1, .ref (ad 238), .int (nI ln), .int (nI ((numP txt ln ((numP txt ln ((numP txt ln (p + 1)) + 1)) + 1)))), .int (mkS r ne 0 nt (numV txt ln (p + 1)) (numV txt ln ((numP txt ln (p + 1)) + 1)) (numV txt ln ((numP txt ln ((numP txt ln (p + 1)) + 1)) + 1))).1, .int s5, .ref (ad 239), .ref (ad 240), .ref (ad 241), .long lo, .long mo, .ref (ad 242)]) := hE127
              refine g_iconst F (q := 131) (v := 1) (dk dX7_order 69 rfl) rfl (by decide) ?_
              have hc13 := (hO127 234 (by omega)).trans hK234_120
              refine hret 1 E127 _ _ (dk dX7_order 70 rfl) rfl ?_
              exact Or.inl ⟨rfl, _, 0, (numV txt ln (p + 1)), (numV txt ln ((numP txt ln (p + 1)) + 1)), (numV txt ln ((numP txt ln ((numP txt ln (p + 1)) + 1)) + 1)), hE127, hc13, ((ordP_t b5).trans (ordQ_f c54 hc_60 (Int32.not_lt.mpr c76) hc_89 (Int32.not_lt.mpr c103))), (fun j hj => ((((((((hO127 j (by omega)).trans (hF120 j (by omega))).trans (hF96 j (by omega))).trans (hF89 j (by omega))).trans (hF69 j (by omega))).trans (hF60 j (by omega))).trans (hF49 j (by omega))).trans (hO45 j (by omega))))⟩
            · refine g_iconst F (q := 107) (v := 0) (dk dX7_order 55 rfl) rfl (by decide) ?_
              refine hret 0 E96 _ _ (dk dX7_order 56 rfl) rfl ?_
              exact Or.inr ⟨rfl, _, hK233_96, ((ordP_t b5).trans (ordQ_e c54 hc_60 (Int32.not_lt.mpr c76) hc_89 (Int32.not_le.mp c103))), (fun j hj => ((((((hF96 j (by omega)).trans (hF89 j (by omega))).trans (hF69 j (by omega))).trans (hF60 j (by omega))).trans (hF49 j (by omega))).trans (hO45 j (by omega))))⟩
          · refine g_if_eq F (q := 95) (tgt := 108) (dk dX7_order 49 rfl) (by decide) rfl (fun _ => ?_) (fun h => absurd h (by decide))
            refine g_aload_n F (q := 109) (dk dX7_order 57 rfl) rfl rfl 4 rfl ?_
            refine g_iload_n F (q := 110) (dk dX7_order 58 rfl) rfl rfl 5 rfl ?_
            refine g_if_eq F (q := 113) (tgt := 126) (dk dX7_order 59 rfl) (by decide) rfl (fun h => absurd h (by decide)) (fun _ => ?_)
            refine g_aload_n F (q := 114) (dk dX7_order 60 rfl) rfl rfl 4 rfl ?_
            refine g_iload_n F (q := 115) (dk dX7_order 61 rfl) rfl rfl 3 rfl ?_
            refine g_iload_n F (q := 116) (dk dX7_order 62 rfl) rfl rfl 2 rfl ?_
            refine g_iload F (q := 118) (dk dX7_order 63 rfl) rfl 1 rfl ?_
            refine g_iload F (q := 120) (dk dX7_order 64 rfl) rfl 0 rfl ?_
            have hc14 := (hO45 234 (by omega)).trans h234
            have hc15 := (hF49 234 (by omega)).trans hc14
            have hc16 := (hF60 234 (by omega)).trans hc15
            have hc17 := (hF69 234 (by omega)).trans hc16
            have hc18 := (hF89 234 (by omega)).trans hc17
            refine g_callVI F (q := 123) (av := [.int 0, .int (numV txt ln (p + 1)), .int (numV txt ln ((numP txt ln (p + 1)) + 1)), .int 1000]) (st := [.ref (ad 233)]) (c_X7_make (k := 0) (p := (numV txt ln (p + 1))) (t := (numV txt ln ((numP txt ln (p + 1)) + 1))) (c := 1000) hK233_89 hc18 (by first | assumption | decide | omega) (by first | assumption | decide | omega) (by first | assumption | decide | omega) h1 (by omega)) kv_X7_make tq_742 hK233_89 rfl (by omega) ⟨rfl, rfl⟩ (by decide) ⟨Nat.le_refl _, Nat.le_refl _⟩ rfl rfl (Nat.le_of_ble_eq_true rfl) (dk dX7_order 65 rfl) rfl (fun r120 E120 hp120 => ?_)
            obtain ⟨rfl, hK234_120, hF120⟩ := hp120
            refine g_goto F (tgt := 127) (dk dX7_order 66 rfl) (by decide) ?_
            have hc19 := (hF120 233 (by omega)).trans hK233_89
            refine g_putf F (q := 130) (ty := .int) hc19 rfl inX7 tyX7 tyX7_ok nmX7 (by omega) (j := 9) (by decide) tq_632 rfl rfl (by decide +kernel) rfl rfl (Nat.le_of_ble_eq_true rfl) (dk dX7_order 68 rfl) rfl (fun E127 hE127 hO127 => ?_)
            have hE127 : E127 233 = .inr (7, [.ref (ad 234), .ref (ad 235), .ref (ad 236), .ref (ad 237), .int s0, .int s1, .ref (ad 238), .int (nI ln), .int (nI ((numP txt ln ((numP txt ln (p + 1)) + 1)))), .int (mkS r ne 0 nt (numV txt ln (p + 1)) (numV txt ln ((numP txt ln (p + 1)) + 1)) 1000).1, .int s5, .ref (ad 239), .ref (ad 240), .ref (ad 241), .long lo, .long mo, .ref (ad 242)]) := hE127
            refine g_iconst F (q := 131) (v := 1) (dk dX7_order 69 rfl) rfl (by decide) ?_
            have hc20 := (hO127 234 (by omega)).trans hK234_120
            refine hret 1 E127 _ _ (dk dX7_order 70 rfl) rfl ?_
            exact Or.inl ⟨rfl, _, 0, (numV txt ln (p + 1)), (numV txt ln ((numP txt ln (p + 1)) + 1)), (1000), hE127, hc20, ((ordP_t b5).trans (ordQ_d c54 hc_60 (Int32.not_lt.mpr c76) hc_89)), (fun j hj => (((((((hO127 j (by omega)).trans (hF120 j (by omega))).trans (hF89 j (by omega))).trans (hF69 j (by omega))).trans (hF60 j (by omega))).trans (hF49 j (by omega))).trans (hO45 j (by omega))))⟩
        · refine g_iconst F (q := 80) (v := 0) (dk dX7_order 42 rfl) rfl (by decide) ?_
          refine hret 0 E69 _ _ (dk dX7_order 43 rfl) rfl ?_
          exact Or.inr ⟨rfl, _, hK233_69, ((ordP_t b5).trans (ordQ_c c54 hc_60 (Int32.not_le.mp c76))), (fun j hj => ((((hF69 j (by omega)).trans (hF60 j (by omega))).trans (hF49 j (by omega))).trans (hO45 j (by omega))))⟩
      · refine g_if_ne F (q := 66) (tgt := 68) (dk dX7_order 34 rfl) (by decide) rfl (fun h => absurd h (by decide)) (fun _ => ?_)
        refine g_iconst F (q := 67) (v := 0) (dk dX7_order 35 rfl) rfl (by decide) ?_
        refine hret 0 E60 _ _ (dk dX7_order 36 rfl) rfl ?_
        exact Or.inr ⟨rfl, _, hK233_60, ((ordP_t b5).trans (ordQ_b c54 hc_60)), (fun j hj => (((hF60 j (by omega)).trans (hF49 j (by omega))).trans (hO45 j (by omega))))⟩
  · refine g_if_eq F (q := 11) (tgt := 15) (dk dX7_order 4 rfl) (by decide) rfl (fun _ => ?_) (fun h => absurd h (by decide))
    refine g_aload_n F (q := 16) (dk dX7_order 7 rfl) rfl rfl 0 rfl ?_
    refine g_bipush F (q := 18) (v := 107) (dk dX7_order 8 rfl) rfl (by decide) ?_
    refine g_bipush F (q := 20) (v := 107) (dk dX7_order 9 rfl) rfl (by decide) ?_
    refine g_callVI F (q := 23) (av := [.int 107, .int 107]) (st := []) (c_X7_sees (a := 107) (b := 107) h233 h238 (by first | assumption | decide | omega) (by first | assumption | decide | omega)) kv_X7_sees tq_798 h233 rfl (by omega) ⟨rfl, rfl⟩ (by decide) ⟨Nat.le_refl _, Nat.le_refl _⟩ rfl rfl (Nat.le_of_ble_eq_true rfl) (dk dX7_order 10 rfl) rfl (fun r20 E20 hp20 => ?_)
    rcases hp20 with ⟨rfl, rfl, b20⟩ | ⟨rfl, rfl, b20⟩
    · refine g_if_eq F (q := 26) (tgt := 30) (dk dX7_order 11 rfl) (by decide) rfl (fun h => absurd h (by decide)) (fun _ => ?_)
      refine g_iconst F (q := 27) (v := 1) (dk dX7_order 12 rfl) rfl (by decide) ?_
      refine g_goto F (tgt := 31) (dk dX7_order 13 rfl) (by decide) ?_
      refine g_istore_n F (q := 32) (lv' := [(2, .int 1), (0, .ref (ad 233)), (1, .int 1)]) (dk dX7_order 15 rfl) rfl rfl (Nat.le_of_ble_eq_true rfl) rfl ?_
      refine g_iload_n F (q := 33) (dk dX7_order 16 rfl) rfl rfl 0 rfl ?_
      refine g_if_ge F (q := 36) (tgt := 38) (dk dX7_order 17 rfl) (by decide) rfl (fun _ => ?_) (fun h => absurd h (by decide))
      refine g_aload_n F (q := 39) (dk dX7_order 20 rfl) rfl rfl 1 rfl ?_
      refine g_dup F (q := 40) (dk dX7_order 21 rfl) rfl rfl ?_
      refine g_getf F (q := 43) h233 rfl inX7 (by omega) (j := 8) (by decide) tq_631 rfl rfl (dk dX7_order 22 rfl) rfl ?_
      refine g_iconst F (q := 44) (v := 1) (dk dX7_order 23 rfl) rfl (by decide) ?_
      refine g_iadd F (q := 45) (dk dX7_order 24 rfl) rfl ?_
      refine g_sti (nA rfl rfl) ?_
      refine g_putf F (q := 48) (ty := .int) h233 rfl inX7 tyX7 tyX7_ok nmX7 (by omega) (j := 8) (by decide) tq_631 rfl rfl (by decide +kernel) rfl rfl (Nat.le_of_ble_eq_true rfl) (dk dX7_order 25 rfl) rfl (fun E45 hE45 hO45 => ?_)
      have hE45 : E45 233 = .inr (7, [.ref (ad 234), .ref (ad 235), .ref (ad 236), .ref (ad 237), .int s0, .int s1, .ref (ad 238), .int (nI ln), .int (nI ((p + 1))), .int s4, .int s5, .ref (ad 239), .ref (ad 240), .ref (ad 241), .long lo, .long mo, .ref (ad 242)]) := hE45
      refine g_aload_n F (q := 49) (dk dX7_order 26 rfl) rfl rfl 1 rfl ?_
      have hc21 := (hO45 238 (by omega)).trans h238
      refine g_callVI F (q := 52) (av := []) (st := []) (c_X7_number hE45 hc21 (by first | assumption | decide | omega) (by omega)) kv_X7_number tq_802 hE45 rfl (by omega) ⟨rfl, rfl⟩ (by decide) ⟨Nat.le_refl _, Nat.le_refl _⟩ rfl rfl (Nat.le_of_ble_eq_true rfl) (dk dX7_order 27 rfl) rfl (fun r49 E49 hp49 => ?_)
      obtain ⟨rfl, hK233_49, hF49⟩ := hp49
      refine g_istore_n F (q := 53) (lv' := [(3, .int (numV txt ln (p + 1))), (2, .int 1), (0, .ref (ad 233)), (1, .int 1)]) (dk dX7_order 28 rfl) rfl rfl (Nat.le_of_ble_eq_true rfl) rfl ?_
      refine g_iload_n F (q := 54) (dk dX7_order 29 rfl) rfl rfl 0 rfl ?_
      refine g_if_lt F (q := 57) (tgt := 66) (dk dX7_order 30 rfl) (by decide) rfl (fun c54 => ?_) (fun c54 => ?_)
      · refine g_iconst F (q := 67) (v := 0) (dk dX7_order 35 rfl) rfl (by decide) ?_
        refine hret 0 E49 _ _ (dk dX7_order 36 rfl) rfl ?_
        exact Or.inr ⟨rfl, _, hK233_49, ((ordP_k b5 b20).trans (ordQ_a c54)), (fun j hj => ((hF49 j (by omega)).trans (hO45 j (by omega))))⟩
      · refine g_aload_n F (q := 58) (dk dX7_order 31 rfl) rfl rfl 2 rfl ?_
        refine g_bipush F (q := 60) (v := 64) (dk dX7_order 32 rfl) rfl (by decide) ?_
        have hc22 := (hF49 238 (by omega)).trans hc21
        refine g_callVI F (q := 63) (av := [.int 64]) (st := []) (c_X7_takes (ch := 64) hK233_49 hc22 (by first | assumption | decide | omega) (numP_le (by omega))) kv_X7_takes tq_806 hK233_49 rfl (by omega) ⟨rfl, rfl⟩ (by decide) ⟨Nat.le_refl _, Nat.le_refl _⟩ rfl rfl (Nat.le_of_ble_eq_true rfl) (dk dX7_order 33 rfl) rfl (fun r60 E60 hp60 => ?_)
        rcases hp60 with ⟨rfl, hK233_60, hc_60, hF60⟩ | ⟨rfl, hK233_60, hc_60, hF60⟩
        · refine g_if_ne F (q := 66) (tgt := 68) (dk dX7_order 34 rfl) (by decide) rfl (fun _ => ?_) (fun h => absurd h (by decide))
          refine g_aload_n F (q := 69) (dk dX7_order 37 rfl) rfl rfl 2 rfl ?_
          have hc23 := (hF60 238 (by omega)).trans hc22
          refine g_callVI F (q := 72) (av := []) (st := []) (c_X7_number hK233_60 hc23 (by first | assumption | decide | omega) (by omega)) kv_X7_number tq_802 hK233_60 rfl (by omega) ⟨rfl, rfl⟩ (by decide) ⟨Nat.le_refl _, Nat.le_refl _⟩ rfl rfl (Nat.le_of_ble_eq_true rfl) (dk dX7_order 38 rfl) rfl (fun r69 E69 hp69 => ?_)
          obtain ⟨rfl, hK233_69, hF69⟩ := hp69
          refine g_istore F (q := 74) (lv' := [(4, .int (numV txt ln ((numP txt ln (p + 1)) + 1))), (3, .int (numV txt ln (p + 1))), (2, .int 1), (0, .ref (ad 233)), (1, .int 1)]) (dk dX7_order 39 rfl) rfl (Nat.le_of_ble_eq_true rfl) rfl ?_
          refine g_iload F (q := 76) (dk dX7_order 40 rfl) rfl 0 rfl ?_
          refine g_if_ge F (q := 79) (tgt := 81) (dk dX7_order 41 rfl) (by decide) rfl (fun c76 => ?_) (fun c76 => ?_)
          · refine g_sipush F (q := 84) (v := 1000) (dk dX7_order 44 rfl) rfl (by decide) ?_
            refine g_istore F (q := 86) (lv' := [(5, .int 1000), (4, .int (numV txt ln ((numP txt ln (p + 1)) + 1))), (3, .int (numV txt ln (p + 1))), (2, .int 1), (0, .ref (ad 233)), (1, .int 1)]) (dk dX7_order 45 rfl) rfl (Nat.le_of_ble_eq_true rfl) rfl ?_
            refine g_aload_n F (q := 87) (dk dX7_order 46 rfl) rfl rfl 4 rfl ?_
            refine g_bipush F (q := 89) (v := 42) (dk dX7_order 47 rfl) rfl (by decide) ?_
            have hc24 := (hF69 238 (by omega)).trans hc23
            refine g_callVI F (q := 92) (av := [.int 42]) (st := []) (c_X7_takes (ch := 42) hK233_69 hc24 (by first | assumption | decide | omega) (numP_le (by omega))) kv_X7_takes tq_806 hK233_69 rfl (by omega) ⟨rfl, rfl⟩ (by decide) ⟨Nat.le_refl _, Nat.le_refl _⟩ rfl rfl (Nat.le_of_ble_eq_true rfl) (dk dX7_order 48 rfl) rfl (fun r89 E89 hp89 => ?_)
            rcases hp89 with ⟨rfl, hK233_89, hc_89, hF89⟩ | ⟨rfl, hK233_89, hc_89, hF89⟩
            · refine g_if_eq F (q := 95) (tgt := 108) (dk dX7_order 49 rfl) (by decide) rfl (fun h => absurd h (by decide)) (fun _ => ?_)
              refine g_aload_n F (q := 96) (dk dX7_order 50 rfl) rfl rfl 4 rfl ?_
              have hc25 := (hF89 238 (by omega)).trans hc24
              refine g_callVI F (q := 99) (av := []) (st := []) (c_X7_number hK233_89 hc25 (by first | assumption | decide | omega) (by omega)) kv_X7_number tq_802 hK233_89 rfl (by omega) ⟨rfl, rfl⟩ (by decide) ⟨Nat.le_refl _, Nat.le_refl _⟩ rfl rfl (Nat.le_of_ble_eq_true rfl) (dk dX7_order 51 rfl) rfl (fun r96 E96 hp96 => ?_)
              obtain ⟨rfl, hK233_96, hF96⟩ := hp96
              refine g_istore F (q := 101) (lv' := [(5, .int (numV txt ln ((numP txt ln ((numP txt ln (p + 1)) + 1)) + 1))), (4, .int (numV txt ln ((numP txt ln (p + 1)) + 1))), (3, .int (numV txt ln (p + 1))), (2, .int 1), (0, .ref (ad 233)), (1, .int 1)]) (dk dX7_order 52 rfl) rfl (Nat.le_of_ble_eq_true rfl) rfl ?_
              refine g_iload F (q := 103) (dk dX7_order 53 rfl) rfl 0 rfl ?_
              refine g_if_ge F (q := 106) (tgt := 108) (dk dX7_order 54 rfl) (by decide) rfl (fun c103 => ?_) (fun c103 => ?_)
              · refine g_aload_n F (q := 109) (dk dX7_order 57 rfl) rfl rfl 4 rfl ?_
                refine g_iload_n F (q := 110) (dk dX7_order 58 rfl) rfl rfl 5 rfl ?_
                refine g_if_eq F (q := 113) (tgt := 126) (dk dX7_order 59 rfl) (by decide) rfl (fun h => absurd h (by decide)) (fun _ => ?_)
                refine g_aload_n F (q := 114) (dk dX7_order 60 rfl) rfl rfl 4 rfl ?_
                refine g_iload_n F (q := 115) (dk dX7_order 61 rfl) rfl rfl 3 rfl ?_
                refine g_iload_n F (q := 116) (dk dX7_order 62 rfl) rfl rfl 2 rfl ?_
                refine g_iload F (q := 118) (dk dX7_order 63 rfl) rfl 1 rfl ?_
                refine g_iload F (q := 120) (dk dX7_order 64 rfl) rfl 0 rfl ?_
                have hc26 := (hO45 234 (by omega)).trans h234
                have hc27 := (hF49 234 (by omega)).trans hc26
                have hc28 := (hF60 234 (by omega)).trans hc27
                have hc29 := (hF69 234 (by omega)).trans hc28
                have hc30 := (hF89 234 (by omega)).trans hc29
                have hc31 := (hF96 234 (by omega)).trans hc30
                refine g_callVI F (q := 123) (av := [.int 1, .int (numV txt ln (p + 1)), .int (numV txt ln ((numP txt ln (p + 1)) + 1)), .int (numV txt ln ((numP txt ln ((numP txt ln (p + 1)) + 1)) + 1))]) (st := [.ref (ad 233)]) (c_X7_make (k := 1) (p := (numV txt ln (p + 1))) (t := (numV txt ln ((numP txt ln (p + 1)) + 1))) (c := (numV txt ln ((numP txt ln ((numP txt ln (p + 1)) + 1)) + 1))) hK233_96 hc31 (by first | assumption | decide | omega) (by first | assumption | decide | omega) (by first | assumption | decide | omega) h2 (by omega)) kv_X7_make tq_742 hK233_96 rfl (by omega) ⟨rfl, rfl⟩ (by decide) ⟨Nat.le_refl _, Nat.le_refl _⟩ rfl rfl (Nat.le_of_ble_eq_true rfl) (dk dX7_order 65 rfl) rfl (fun r120 E120 hp120 => ?_)
                obtain ⟨rfl, hK234_120, hF120⟩ := hp120
                refine g_goto F (tgt := 127) (dk dX7_order 66 rfl) (by decide) ?_
                have hc32 := (hF120 233 (by omega)).trans hK233_96
                refine g_putf F (q := 130) (ty := .int) hc32 rfl inX7 tyX7 tyX7_ok nmX7 (by omega) (j := 9) (by decide) tq_632 rfl rfl (by decide +kernel) rfl rfl (Nat.le_of_ble_eq_true rfl) (dk dX7_order 68 rfl) rfl (fun E127 hE127 hO127 => ?_)
                have hE127 : E127 233 = .inr (7, [.ref (ad 234), .ref (ad 235), .ref (ad 236), .ref (ad 237), .int s0, .int s1, .ref (ad 238), .int (nI ln), .int (nI ((numP txt ln ((numP txt ln ((numP txt ln (p + 1)) + 1)) + 1)))), .int (mkS r ne 1 nk (numV txt ln (p + 1)) (numV txt ln ((numP txt ln (p + 1)) + 1)) (numV txt ln ((numP txt ln ((numP txt ln (p + 1)) + 1)) + 1))).1, .int s5, .ref (ad 239), .ref (ad 240), .ref (ad 241), .long lo, .long mo, .ref (ad 242)]) := hE127
                refine g_iconst F (q := 131) (v := 1) (dk dX7_order 69 rfl) rfl (by decide) ?_
                have hc33 := (hO127 234 (by omega)).trans hK234_120
                refine hret 1 E127 _ _ (dk dX7_order 70 rfl) rfl ?_
                exact Or.inl ⟨rfl, _, 1, (numV txt ln (p + 1)), (numV txt ln ((numP txt ln (p + 1)) + 1)), (numV txt ln ((numP txt ln ((numP txt ln (p + 1)) + 1)) + 1)), hE127, hc33, ((ordP_k b5 b20).trans (ordQ_f c54 hc_60 (Int32.not_lt.mpr c76) hc_89 (Int32.not_lt.mpr c103))), (fun j hj => ((((((((hO127 j (by omega)).trans (hF120 j (by omega))).trans (hF96 j (by omega))).trans (hF89 j (by omega))).trans (hF69 j (by omega))).trans (hF60 j (by omega))).trans (hF49 j (by omega))).trans (hO45 j (by omega))))⟩
              · refine g_iconst F (q := 107) (v := 0) (dk dX7_order 55 rfl) rfl (by decide) ?_
                refine hret 0 E96 _ _ (dk dX7_order 56 rfl) rfl ?_
                exact Or.inr ⟨rfl, _, hK233_96, ((ordP_k b5 b20).trans (ordQ_e c54 hc_60 (Int32.not_lt.mpr c76) hc_89 (Int32.not_le.mp c103))), (fun j hj => ((((((hF96 j (by omega)).trans (hF89 j (by omega))).trans (hF69 j (by omega))).trans (hF60 j (by omega))).trans (hF49 j (by omega))).trans (hO45 j (by omega))))⟩
            · refine g_if_eq F (q := 95) (tgt := 108) (dk dX7_order 49 rfl) (by decide) rfl (fun _ => ?_) (fun h => absurd h (by decide))
              refine g_aload_n F (q := 109) (dk dX7_order 57 rfl) rfl rfl 4 rfl ?_
              refine g_iload_n F (q := 110) (dk dX7_order 58 rfl) rfl rfl 5 rfl ?_
              refine g_if_eq F (q := 113) (tgt := 126) (dk dX7_order 59 rfl) (by decide) rfl (fun h => absurd h (by decide)) (fun _ => ?_)
              refine g_aload_n F (q := 114) (dk dX7_order 60 rfl) rfl rfl 4 rfl ?_
              refine g_iload_n F (q := 115) (dk dX7_order 61 rfl) rfl rfl 3 rfl ?_
              refine g_iload_n F (q := 116) (dk dX7_order 62 rfl) rfl rfl 2 rfl ?_
              refine g_iload F (q := 118) (dk dX7_order 63 rfl) rfl 1 rfl ?_
              refine g_iload F (q := 120) (dk dX7_order 64 rfl) rfl 0 rfl ?_
              have hc34 := (hO45 234 (by omega)).trans h234
              have hc35 := (hF49 234 (by omega)).trans hc34
              have hc36 := (hF60 234 (by omega)).trans hc35
              have hc37 := (hF69 234 (by omega)).trans hc36
              have hc38 := (hF89 234 (by omega)).trans hc37
              refine g_callVI F (q := 123) (av := [.int 1, .int (numV txt ln (p + 1)), .int (numV txt ln ((numP txt ln (p + 1)) + 1)), .int 1000]) (st := [.ref (ad 233)]) (c_X7_make (k := 1) (p := (numV txt ln (p + 1))) (t := (numV txt ln ((numP txt ln (p + 1)) + 1))) (c := 1000) hK233_89 hc38 (by first | assumption | decide | omega) (by first | assumption | decide | omega) (by first | assumption | decide | omega) h2 (by omega)) kv_X7_make tq_742 hK233_89 rfl (by omega) ⟨rfl, rfl⟩ (by decide) ⟨Nat.le_refl _, Nat.le_refl _⟩ rfl rfl (Nat.le_of_ble_eq_true rfl) (dk dX7_order 65 rfl) rfl (fun r120 E120 hp120 => ?_)
              obtain ⟨rfl, hK234_120, hF120⟩ := hp120
              refine g_goto F (tgt := 127) (dk dX7_order 66 rfl) (by decide) ?_
              have hc39 := (hF120 233 (by omega)).trans hK233_89
              refine g_putf F (q := 130) (ty := .int) hc39 rfl inX7 tyX7 tyX7_ok nmX7 (by omega) (j := 9) (by decide) tq_632 rfl rfl (by decide +kernel) rfl rfl (Nat.le_of_ble_eq_true rfl) (dk dX7_order 68 rfl) rfl (fun E127 hE127 hO127 => ?_)
              have hE127 : E127 233 = .inr (7, [.ref (ad 234), .ref (ad 235), .ref (ad 236), .ref (ad 237), .int s0, .int s1, .ref (ad 238), .int (nI ln), .int (nI ((numP txt ln ((numP txt ln (p + 1)) + 1)))), .int (mkS r ne 1 nk (numV txt ln (p + 1)) (numV txt ln ((numP txt ln (p + 1)) + 1)) 1000).1, .int s5, .ref (ad 239), .ref (ad 240), .ref (ad 241), .long lo, .long mo, .ref (ad 242)]) := hE127
              refine g_iconst F (q := 131) (v := 1) (dk dX7_order 69 rfl) rfl (by decide) ?_
              have hc40 := (hO127 234 (by omega)).trans hK234_120
              refine hret 1 E127 _ _ (dk dX7_order 70 rfl) rfl ?_
              exact Or.inl ⟨rfl, _, 1, (numV txt ln (p + 1)), (numV txt ln ((numP txt ln (p + 1)) + 1)), (1000), hE127, hc40, ((ordP_k b5 b20).trans (ordQ_d c54 hc_60 (Int32.not_lt.mpr c76) hc_89)), (fun j hj => (((((((hO127 j (by omega)).trans (hF120 j (by omega))).trans (hF89 j (by omega))).trans (hF69 j (by omega))).trans (hF60 j (by omega))).trans (hF49 j (by omega))).trans (hO45 j (by omega))))⟩
          · refine g_iconst F (q := 80) (v := 0) (dk dX7_order 42 rfl) rfl (by decide) ?_
            refine hret 0 E69 _ _ (dk dX7_order 43 rfl) rfl ?_
            exact Or.inr ⟨rfl, _, hK233_69, ((ordP_k b5 b20).trans (ordQ_c c54 hc_60 (Int32.not_le.mp c76))), (fun j hj => ((((hF69 j (by omega)).trans (hF60 j (by omega))).trans (hF49 j (by omega))).trans (hO45 j (by omega))))⟩
        · refine g_if_ne F (q := 66) (tgt := 68) (dk dX7_order 34 rfl) (by decide) rfl (fun h => absurd h (by decide)) (fun _ => ?_)
          refine g_iconst F (q := 67) (v := 0) (dk dX7_order 35 rfl) rfl (by decide) ?_
          refine hret 0 E60 _ _ (dk dX7_order 36 rfl) rfl ?_
          exact Or.inr ⟨rfl, _, hK233_60, ((ordP_k b5 b20).trans (ordQ_b c54 hc_60)), (fun j hj => (((hF60 j (by omega)).trans (hF49 j (by omega))).trans (hO45 j (by omega))))⟩
    · refine g_if_eq F (q := 26) (tgt := 30) (dk dX7_order 11 rfl) (by decide) rfl (fun _ => ?_) (fun h => absurd h (by decide))
      refine g_iconst F (q := 31) (v := (-1)) (dk dX7_order 14 rfl) rfl (by decide) ?_
      refine g_istore_n F (q := 32) (lv' := [(2, .int (-1)), (0, .ref (ad 233)), (1, .int 1)]) (dk dX7_order 15 rfl) rfl rfl (Nat.le_of_ble_eq_true rfl) rfl ?_
      refine g_iload_n F (q := 33) (dk dX7_order 16 rfl) rfl rfl 0 rfl ?_
      refine g_if_ge F (q := 36) (tgt := 38) (dk dX7_order 17 rfl) (by decide) rfl (fun h => absurd h (by decide)) (fun _ => ?_)
      refine g_iconst F (q := 37) (v := 0) (dk dX7_order 18 rfl) rfl (by decide) ?_
      refine hret 0 E _ _ (dk dX7_order 19 rfl) rfl ?_
      exact Or.inr ⟨rfl, _, h233, (ordP_n b5 b20), (fun j _ => rfl)⟩
end
section
theorem mkS_ok {r : Nat → Int32} {ne k m : Nat} {p t c : Int32} (hk : k < 2) (h : ¬ (mkS r ne k m p t c).1 < 0) : (mkS r ne k m p t c).2 = mkR r ne k m p t c ∧ ¬ m = 10 := by
  unfold mkS at h ⊢
  by_cases h1 : (0 ≤ p ∧ p ≤ 1000) ∧ (0 ≤ t ∧ t ≤ 100000) ∧ (1 ≤ c ∧ c ≤ 1000)
  · rw [if_pos h1] at h ⊢
    by_cases h2 : t < r 5
    · rw [if_pos h2] at h
      exact absurd (show (-4 : Int32) < 0 by decide) h
    · rw [if_neg h2] at h ⊢
      by_cases h3 : m = 10
      · rw [if_pos h3] at h
        exact absurd (show (-4 : Int32) < 0 by decide) h
      · rw [if_neg h3]
        exact ⟨rfl, h3⟩
  · rw [if_neg h1] at h
    exact absurd (show (-2 : Int32) < 0 by decide) h
theorem mkR_0 {r : Nat → Int32} {ne k m : Nat} {p t c : Int32} : mkR r ne k m p t c 0 = r 0 := by
  unfold mkR; rw [upd_n (by omega), upd_n (by omega)]; exact stg_lo (by omega) _
theorem mkR_s {r : Nat → Int32} {ne k m : Nat} {p t c : Int32} (hk : k < 2) : mkR r ne k m p t c (1 + k) = nI (m + 1) := by
  unfold mkR; rw [upd_n (by omega), upd_s]
theorem mkR_o {r : Nat → Int32} {ne k m j : Nat} {p t c : Int32} (hj : j < 46) (h1 : j ≠ 1 + k) (h2 : j ≠ 5) : mkR r ne k m p t c j = r j := by
  unfold mkR; rw [upd_n h2, upd_n h1]; exact stg_lo hj _
/-- the counts behind an order that was done -/
theorem mkS_cnt {r : Nat → Int32} {ne k nt nk : Nat} {p t c : Int32} (hk : k < 2) (h : ¬ (mkS r ne k (if k = 0 then nt else nk) p t c).1 < 0) (h0 : r 0 = nI ne) (h1 : r 1 = nI nt) (h2 : r 2 = nI nk) (hnt : nt ≤ 10) (hnk : nk ≤ 10) :
    (mkS r ne k (if k = 0 then nt else nk) p t c).2 0 = nI ne ∧ (mkS r ne k (if k = 0 then nt else nk) p t c).2 1 = nI (if k = 0 then nt + 1 else nt) ∧ (mkS r ne k (if k = 0 then nt else nk) p t c).2 2 = nI (if k = 0 then nk else nk + 1) ∧ (if k = 0 then nt + 1 else nt) ≤ 10 ∧ (if k = 0 then nk else nk + 1) ≤ 10 := by
  obtain ⟨e, hm⟩ := mkS_ok hk h
  rw [e]
  rcases (show k = 0 ∨ k = 1 by omega) with rfl | rfl
  · simp only [if_pos] at hm ⊢
    exact ⟨mkR_0.trans h0, mkR_s (by omega), (mkR_o (by omega) (by omega) (by omega)).trans h2, by omega, hnk⟩
  · simp only [show ¬ (1 = 0) by omega, if_false] at hm ⊢
    exact ⟨mkR_0.trans h0, (mkR_o (by omega) (by omega) (by omega)).trans h1, mkR_s (by omega), hnt, by omega⟩
theorem rl_neg {ne k nt nk : Nat} {p t c : Int32} {os : List Ord} {r : Nat → Int32} (h : (mkS r ne k (if k = 0 then nt else nk) p t c).1 < 0) : rl ne ((k, p, t, c) :: os) r nt nk = mkS r ne k (if k = 0 then nt else nk) p t c := by
  unfold rl; rw [if_pos h]
theorem rl_pos {ne k nt nk : Nat} {p t c : Int32} {os : List Ord} {r : Nat → Int32} (h : ¬ (mkS r ne k (if k = 0 then nt else nk) p t c).1 < 0) : rl ne ((k, p, t, c) :: os) r nt nk = rl ne os (mkS r ne k (if k = 0 then nt else nk) p t c).2 (if k = 0 then nt + 1 else nt) (if k = 0 then nk else nk + 1) := by
  conv => lhs; unfold rl
  rw [if_neg h]
theorem rl_nil {ne nt nk : Nat} {r : Nat → Int32} : rl ne [] r nt nk = (0, r) := rfl
theorem prs_ne {tx : Nat → Int32} {ln f p q : Nat} {o : Ord} (h : ordP tx ln p = (q, some o)) : ∃ os, (prs tx ln (f + 1) p).1 = o :: os := by
  by_cases h2 : q < ln ∧ tx q = 59
  · exact ⟨_, by rw [prs_c h h2]⟩
  · exact ⟨_, by rw [prs_e h h2]⟩
end
section
abbrev rm_X7_orders_a : Room := { frames := 4, cells := 0, slots := 0, locals := 91 }
set_option maxHeartbeats 4000000 in
set_option maxRecDepth 100000 in
theorem c_X7_orders_a {l : Launch} {D : va_G} {cA : Nat → ClassId} {ad : Nat → Nat} {E : Nat → va_E} {ln : Nat} {s0 s1 s3 s4 s5 : Int32} {lo mo : Int64} {txt : Nat → Int32}  (h233 : E 233 = .inr (7, [.ref (ad 234), .ref (ad 235), .ref (ad 236), .ref (ad 237), .int s0, .int s1, .ref (ad 238), .int (nI ln), .int s3, .int s4, .int s5, .ref (ad 239), .ref (ad 240), .ref (ad 241), .long lo, .long mo, .ref (ad 242)])) (h238 : E 238 = .inl (cA 3, 60, .inl txt))  (hln : ln ≤ 60) : CtI l D cA yX7_orders cX7_orders 4 .int rm_X7_orders_a 243 ad E [.ref (ad 233), .int 0] (fun x E' => ∃ (q : Nat) (tld : Int32), E' 233 = .inr (7, [.ref (ad 234), .ref (ad 235), .ref (ad 236), .ref (ad 237), .int s0, .int s1, .ref (ad 238), .int (nI ln), .int (nI q), .int tld, .int s5, .ref (ad 239), .ref (ad 240), .ref (ad 241), .long lo, .long mo, .ref (ad 242)]) ∧ ((x = -5 ∧ (prs txt ln 61 0).2 = some q) ∨ ((prs txt ln 61 0).2 = none ∧ x = nI (prs txt ln 61 0).1.length ∧ (prs txt ln 61 0).1.length ≤ 60)) ∧ ∀ j, (j ≠ 233) → E' j = E j) := by
  refine CtI.of (by decide +kernel) (Nat.le_of_ble_eq_true rfl) (fun X F hret => ?_)
  have F : Fr "ThumpEarsModel" cX7_orders 4 D cA X := F
  refine (show GG rm_X7_orders_a 4 l D X 0 0 243 ad E 0 [(0, .ref (ad 233)), (1, .int 0)] [] from ?_)
  refine g_aload_n F (q := 1) (dk dX7_orders 0 rfl) rfl rfl 0 rfl ?_
  refine g_iconst F (q := 2) (v := 0) (dk dX7_orders 1 rfl) rfl (by decide) ?_
  refine g_putf F (q := 5) (ty := .int) h233 rfl inX7 tyX7 tyX7_ok nmX7 (by omega) (j := 8) (by decide) tq_631 rfl rfl (by decide +kernel) rfl rfl (Nat.le_of_ble_eq_true rfl) (dk dX7_orders 2 rfl) rfl (fun E2 hE2 hO2 => ?_)
  have hE2 : E2 233 = .inr (7, [.ref (ad 234), .ref (ad 235), .ref (ad 236), .ref (ad 237), .int s0, .int s1, .ref (ad 238), .int (nI ln), .int 0, .int s4, .int s5, .ref (ad 239), .ref (ad 240), .ref (ad 241), .long lo, .long mo, .ref (ad 242)]) := hE2
  refine g_iconst F (q := 6) (v := 0) (dk dX7_orders 3 rfl) rfl (by decide) ?_
  refine g_istore_n F (q := 7) (lv' := [(2, .int 0), (0, .ref (ad 233)), (1, .int 0)]) (dk dX7_orders 4 rfl) rfl rfl (Nat.le_of_ble_eq_true rfl) rfl ?_
  refine g_iconst F (q := 8) (v := 1) (dk dX7_orders 5 rfl) rfl (by decide) ?_
  refine g_istore_n F (q := 9) (lv' := [(3, .int 1), (2, .int 0), (0, .ref (ad 233)), (1, .int 0)]) (dk dX7_orders 6 rfl) rfl rfl (Nat.le_of_ble_eq_true rfl) rfl ?_
  refine g_iload_n F (q := 10) (dk dX7_orders 7 rfl) rfl rfl 0 rfl ?_
  refine g_if_eq F (q := 13) (tgt := 49) (dk dX7_orders 8 rfl) (by decide) rfl (fun h => absurd h (by decide)) (fun _ => ?_)
  have K13 : ∀ (fu : Nat) (p : Nat) (n : Nat) (f : Nat) (pre : List Ord) (tld : Int32) (E1 : Nat → va_E), f < fu → (h3 : E1 233 = .inr (7, [.ref (ad 234), .ref (ad 235), .ref (ad 236), .ref (ad 237), .int s0, .int s1, .ref (ad 238), .int (nI ln), .int (nI p), .int tld, .int s5, .ref (ad 239), .ref (ad 240), .ref (ad 241), .long lo, .long mo, .ref (ad 242)])) → (hfr13 : ∀ j, (j ≠ 233) → E1 j = E2 j) → (hp : p ≤ ln) → (hf : ln - p < f) → (hnp : n ≤ p) → (hn : pre.length = n) → (hP : prs txt ln 61 0 = (pre ++ (prs txt ln f p).1, (prs txt ln f p).2)) → GG rm_X7_orders_a 4 l D X 0 0 243 ad E1 13 [(0, .ref (ad 233)), (1, .int 0), (2, .int (nI n))] [] := by
    intro fu
    induction fu with
    | zero => intro p n f pre tld E1 hfu_; exact absurd hfu_ (Nat.not_lt_zero _)
    | succ fu ih =>
      intro p n f pre tld E1 hfu_ h3 hfr13 hp hf hnp hn hP
      obtain ⟨g, rfl⟩ : ∃ g, f = g + 1 := ⟨f - 1, by omega⟩
      refine g_aload_n F (q := 14) (dk dX7_orders 9 rfl) rfl rfl 0 rfl ?_
      refine g_iload_n F (q := 15) (dk dX7_orders 10 rfl) rfl rfl 1 rfl ?_
      have hc1 := (hO2 238 (by omega)).trans h238
      have hc2 := (hfr13 238 (by omega)).trans hc1
      refine g_callVI F (q := 18) (av := [.int 0]) (st := []) (c_X7_order_a h3 hc2 (by first | assumption | decide | omega) (by first | assumption | decide | omega)) kv_X7_order tq_794 h3 rfl (by omega) ⟨rfl, rfl⟩ (by decide) ⟨Nat.le_refl _, Nat.le_refl _⟩ rfl rfl (Nat.le_of_ble_eq_true rfl) (dk dX7_orders 11 rfl) rfl (fun r15 E15 hp15 => ?_)
      rcases hp15 with ⟨rfl, q_15, o_15, hK233_15, ho_15, hF15⟩ | ⟨rfl, q_15, hK233_15, ho_15, hF15⟩
      · have hos := ordP_s ho_15
        refine g_if_ne F (q := 21) (tgt := 24) (dk dX7_orders 12 rfl) (by decide) rfl (fun _ => ?_) (fun h => absurd h (by decide))
        refine g_aload_n F (q := 25) (dk dX7_orders 15 rfl) rfl rfl 0 rfl ?_
        refine g_getf F (q := 28) hK233_15 rfl inX7 (by omega) (j := 9) (by decide) tq_632 rfl rfl (dk dX7_orders 16 rfl) rfl ?_
        refine g_if_ge F (q := 31) (tgt := 36) (dk dX7_orders 17 rfl) (by decide) rfl (fun _ => ?_) (fun h => absurd h (by decide))
        refine g_iinc F (q := 39) (v := (nI ((n + 1)))) (lv' := [(2, .int (nI ((n + 1)))), (0, .ref (ad 233)), (1, .int 0)]) (dk dX7_orders 21 rfl) rfl 2 rfl (nI_1 _) (Nat.le_of_ble_eq_true rfl) rfl ?_
        refine g_aload_n F (q := 40) (dk dX7_orders 22 rfl) rfl rfl 1 rfl ?_
        refine g_bipush F (q := 42) (v := 59) (dk dX7_orders 23 rfl) rfl (by decide) ?_
        have hc3 := (hF15 238 (by omega)).trans hc2
        refine g_callVI F (q := 45) (av := [.int 59]) (st := []) (c_X7_takes (ch := 59) hK233_15 hc3 (by first | assumption | decide | omega) (by omega)) kv_X7_takes tq_806 hK233_15 rfl (by omega) ⟨rfl, rfl⟩ (by decide) ⟨Nat.le_refl _, Nat.le_refl _⟩ rfl rfl (Nat.le_of_ble_eq_true rfl) (dk dX7_orders 24 rfl) rfl (fun r42 E42 hp42 => ?_)
        rcases hp42 with ⟨rfl, hK233_42, hc_42, hF42⟩ | ⟨rfl, hK233_42, hc_42, hF42⟩
        · refine g_istore_n F (q := 46) (lv' := [(3, .int 1), (2, .int (nI ((n + 1)))), (0, .ref (ad 233)), (1, .int 0)]) (dk dX7_orders 25 rfl) rfl rfl (Nat.le_of_ble_eq_true rfl) rfl ?_
          refine g_goto F (tgt := 9) (dk dX7_orders 26 rfl) (by decide) ?_
          refine g_iload_n F (q := 10) (dk dX7_orders 7 rfl) rfl rfl 0 rfl ?_
          refine g_if_eq F (q := 13) (tgt := 49) (dk dX7_orders 8 rfl) (by decide) rfl (fun h => absurd h (by decide)) (fun _ => ?_)
          refine g_lv (lv' := [(0, .ref (ad 233)), (1, .int 0), (2, .int (nI ((n + 1))))]) [2, 3, 1] rfl ?_
          exact ih (q_15 + 1) (n + 1) g (pre ++ [o_15]) 0 E42 (by omega) hK233_42 (fun j hj => (((hF42 j (by omega)).trans (hF15 j (by omega))).trans (hfr13 j (by omega)))) (by omega) (by omega) (by omega) (by simp [hn]) (by rw [hP, prs_c ho_15 hc_42]; simp)
        · refine g_istore_n F (q := 46) (lv' := [(3, .int 0), (2, .int (nI ((n + 1)))), (0, .ref (ad 233)), (1, .int 0)]) (dk dX7_orders 25 rfl) rfl rfl (Nat.le_of_ble_eq_true rfl) rfl ?_
          refine g_goto F (tgt := 9) (dk dX7_orders 26 rfl) (by decide) ?_
          refine g_iload_n F (q := 10) (dk dX7_orders 7 rfl) rfl rfl 0 rfl ?_
          refine g_if_eq F (q := 13) (tgt := 49) (dk dX7_orders 8 rfl) (by decide) rfl (fun _ => ?_) (fun h => absurd h (by decide))
          refine g_aload_n F (q := 50) (dk dX7_orders 27 rfl) rfl rfl 2 rfl ?_
          refine g_getf F (q := 53) hK233_42 rfl inX7 (by omega) (j := 8) (by decide) tq_631 rfl rfl (dk dX7_orders 28 rfl) rfl ?_
          refine g_aload_n F (q := 54) (dk dX7_orders 29 rfl) rfl rfl 2 rfl ?_
          refine g_getf F (q := 57) hK233_42 rfl inX7 (by omega) (j := 7) (by decide) tq_630 rfl rfl (dk dX7_orders 30 rfl) rfl ?_
          refine g_icmp_ge F (q := 60) (tgt := 65) (dk dX7_orders 31 rfl) (by decide) rfl (fun c57 => ?_) (fun c57 => ?_)
          · have nc57 : ln ≤ q_15 := (nI_leI (a := ln) (b := q_15) (by omega) (by omega)).mp c57
            refine g_iload_n F (q := 66) (dk dX7_orders 34 rfl) rfl rfl 1 rfl ?_
            refine hret (nI ((n + 1))) E42 _ _ (dk dX7_orders 35 rfl) (nint _) ?_
            exact ⟨q_15, _, hK233_42, (Or.inr ⟨by rw [hP, prs_e ho_15 hc_42]; exact if_neg (by omega), by rw [hP, prs_e ho_15 hc_42]; simp [hn], by rw [hP, prs_e ho_15 hc_42]; simp [hn]; omega⟩), (fun j hj => ((((hF42 j (by omega)).trans (hF15 j (by omega))).trans (hfr13 j (by omega))).trans (hO2 j (by omega))))⟩
          · have nc57 : ¬ ln ≤ q_15 := fun h => c57 ((nI_leI (a := ln) (b := q_15) (by omega) (by omega)).mpr h)
            refine g_bipush F (q := 62) (v := (-5)) (dk dX7_orders 32 rfl) rfl (by decide) ?_
            refine g_goto F (tgt := 66) (dk dX7_orders 33 rfl) (by decide) ?_
            refine hret (-5) E42 _ _ (dk dX7_orders 35 rfl) (nint _) ?_
            exact ⟨q_15, _, hK233_42, (Or.inl ⟨rfl, by rw [hP, prs_e ho_15 hc_42]; exact if_pos (by omega)⟩), (fun j hj => ((((hF42 j (by omega)).trans (hF15 j (by omega))).trans (hfr13 j (by omega))).trans (hO2 j (by omega))))⟩
      · refine g_if_ne F (q := 21) (tgt := 24) (dk dX7_orders 12 rfl) (by decide) rfl (fun h => absurd h (by decide)) (fun _ => ?_)
        refine g_bipush F (q := 23) (v := (-5)) (dk dX7_orders 13 rfl) rfl (by decide) ?_
        refine hret (-5) E15 _ _ (dk dX7_orders 14 rfl) (nint _) ?_
        exact ⟨q_15, _, hK233_15, (Or.inl ⟨rfl, by rw [hP, prs_n ho_15]⟩), (fun j hj => (((hF15 j (by omega)).trans (hfr13 j (by omega))).trans (hO2 j (by omega))))⟩
  refine g_lv (lv' := [(0, .ref (ad 233)), (1, .int 0), (2, .int 0)]) [2, 3, 1] rfl ?_
  exact K13 _ 0 0 61 ([]) s4 E2 (Nat.lt_succ_self _) hE2 (fun j _ => rfl) (by omega) (by omega) (by omega) rfl (by simp)
theorem kv_X7_orders : KV yX7_orders "ThumpEarsModel" cX7_orders 4 (some .int) 1 := ⟨tq_792, tq_21, tq_47, tq_793, by decide +kernel⟩
abbrev rm_X7_orders_b : Room := { frames := 4, cells := 0, slots := 0, locals := 102 }
set_option maxHeartbeats 4000000 in
set_option maxRecDepth 100000 in
theorem c_X7_orders_b {l : Launch} {D : va_G} {cA : Nat → ClassId} {ad : Nat → Nat} {E : Nat → va_E} {ln : Nat} {s0 s1 s3 s4 s5 : Int32} {lo mo : Int64} {txt r : Nat → Int32} {ne nt nk : Nat} (h233 : E 233 = .inr (7, [.ref (ad 234), .ref (ad 235), .ref (ad 236), .ref (ad 237), .int s0, .int s1, .ref (ad 238), .int (nI ln), .int s3, .int s4, .int s5, .ref (ad 239), .ref (ad 240), .ref (ad 241), .long lo, .long mo, .ref (ad 242)])) (h238 : E 238 = .inl (cA 3, 60, .inl txt)) (h234 : E 234 = .inl (cA 0, 346, .inl r))  (hln : ln ≤ 60) (h0 : r 0 = nI ne) (hne : ne ≤ 10) (h1 : r 1 = nI nt) (hnt : nt ≤ 10) (h2 : r 2 = nI nk) (hnk : nk ≤ 10) (hok : (prs txt ln 61 0).2 = none) : CtI l D cA yX7_orders cX7_orders 4 .int rm_X7_orders_b 243 ad E [.ref (ad 233), .int 1] (fun x E' => ∃ (q : Nat) (tld : Int32), E' 233 = .inr (7, [.ref (ad 234), .ref (ad 235), .ref (ad 236), .ref (ad 237), .int s0, .int s1, .ref (ad 238), .int (nI ln), .int (nI q), .int tld, .int s5, .ref (ad 239), .ref (ad 240), .ref (ad 241), .long lo, .long mo, .ref (ad 242)]) ∧ E' 234 = .inl (cA 0, 346, .inl (rl ne (prs txt ln 61 0).1 r nt nk).2) ∧ (((rl ne (prs txt ln 61 0).1 r nt nk).1 < 0 ∧ x = (rl ne (prs txt ln 61 0).1 r nt nk).1) ∨ (¬ (rl ne (prs txt ln 61 0).1 r nt nk).1 < 0 ∧ x = nI (prs txt ln 61 0).1.length)) ∧ ∀ j, (j ≠ 233 ∧ j ≠ 234) → E' j = E j) := by
  refine CtI.of (by decide +kernel) (Nat.le_of_ble_eq_true rfl) (fun X F hret => ?_)
  have F : Fr "ThumpEarsModel" cX7_orders 4 D cA X := F
  refine (show GG rm_X7_orders_b 4 l D X 0 0 243 ad E 0 [(0, .ref (ad 233)), (1, .int 1)] [] from ?_)
  refine g_aload_n F (q := 1) (dk dX7_orders 0 rfl) rfl rfl 0 rfl ?_
  refine g_iconst F (q := 2) (v := 0) (dk dX7_orders 1 rfl) rfl (by decide) ?_
  refine g_putf F (q := 5) (ty := .int) h233 rfl inX7 tyX7 tyX7_ok nmX7 (by omega) (j := 8) (by decide) tq_631 rfl rfl (by decide +kernel) rfl rfl (Nat.le_of_ble_eq_true rfl) (dk dX7_orders 2 rfl) rfl (fun E2 hE2 hO2 => ?_)
  have hE2 : E2 233 = .inr (7, [.ref (ad 234), .ref (ad 235), .ref (ad 236), .ref (ad 237), .int s0, .int s1, .ref (ad 238), .int (nI ln), .int 0, .int s4, .int s5, .ref (ad 239), .ref (ad 240), .ref (ad 241), .long lo, .long mo, .ref (ad 242)]) := hE2
  refine g_iconst F (q := 6) (v := 0) (dk dX7_orders 3 rfl) rfl (by decide) ?_
  refine g_istore_n F (q := 7) (lv' := [(2, .int 0), (0, .ref (ad 233)), (1, .int 1)]) (dk dX7_orders 4 rfl) rfl rfl (Nat.le_of_ble_eq_true rfl) rfl ?_
  refine g_iconst F (q := 8) (v := 1) (dk dX7_orders 5 rfl) rfl (by decide) ?_
  refine g_istore_n F (q := 9) (lv' := [(3, .int 1), (2, .int 0), (0, .ref (ad 233)), (1, .int 1)]) (dk dX7_orders 6 rfl) rfl rfl (Nat.le_of_ble_eq_true rfl) rfl ?_
  refine g_iload_n F (q := 10) (dk dX7_orders 7 rfl) rfl rfl 0 rfl ?_
  refine g_if_eq F (q := 13) (tgt := 49) (dk dX7_orders 8 rfl) (by decide) rfl (fun h => absurd h (by decide)) (fun _ => ?_)
  have K13 : ∀ (fu : Nat) (p : Nat) (n : Nat) (f : Nat) (pre : List Ord) (tld : Int32) (rw2 : Nat → Int32) (nt2 : Nat) (nk2 : Nat) (E1 : Nat → va_E), f < fu → (h3 : E1 233 = .inr (7, [.ref (ad 234), .ref (ad 235), .ref (ad 236), .ref (ad 237), .int s0, .int s1, .ref (ad 238), .int (nI ln), .int (nI p), .int tld, .int s5, .ref (ad 239), .ref (ad 240), .ref (ad 241), .long lo, .long mo, .ref (ad 242)])) → (h4 : E1 234 = .inl (cA 0, 346, .inl rw2)) → (hfr13 : ∀ j, (j ≠ 233 ∧ j ≠ 234) → E1 j = E2 j) → (hp : p ≤ ln) → (hf : ln - p < f) → (hnp : n ≤ p) → (hn : pre.length = n) → (hP : prs txt ln 61 0 = (pre ++ (prs txt ln f p).1, (prs txt ln f p).2)) → (g0 : rw2 0 = nI ne) → (g1 : rw2 1 = nI nt2) → (g2 : rw2 2 = nI nk2) → (gt : nt2 ≤ 10) → (gk : nk2 ≤ 10) → (hR : (rl ne (prs txt ln 61 0).1 r nt nk) = rl ne (prs txt ln f p).1 rw2 nt2 nk2) → GG rm_X7_orders_b 4 l D X 0 0 243 ad E1 13 [(0, .ref (ad 233)), (1, .int 1), (2, .int (nI n))] [] := by
    intro fu
    induction fu with
    | zero => intro p n f pre tld rw2 nt2 nk2 E1 hfu_; exact absurd hfu_ (Nat.not_lt_zero _)
    | succ fu ih =>
      intro p n f pre tld rw2 nt2 nk2 E1 hfu_ h3 h4 hfr13 hp hf hnp hn hP g0 g1 g2 gt gk hR
      obtain ⟨g, rfl⟩ : ∃ g, f = g + 1 := ⟨f - 1, by omega⟩
      refine g_aload_n F (q := 14) (dk dX7_orders 9 rfl) rfl rfl 0 rfl ?_
      refine g_iload_n F (q := 15) (dk dX7_orders 10 rfl) rfl rfl 1 rfl ?_
      have hc1 := (hO2 238 (by omega)).trans h238
      have hc2 := (hfr13 238 (by omega)).trans hc1
      refine g_callVI F (q := 18) (av := [.int 1]) (st := []) (c_X7_order_b h3 hc2 h4 (by first | assumption | decide | omega) (by first | assumption | decide | omega) g0 (by first | assumption | decide | omega) g1 gt g2 gk) kv_X7_order tq_794 h3 rfl (by omega) ⟨rfl, rfl⟩ (by decide) ⟨Nat.le_refl _, Nat.le_refl _⟩ rfl rfl (Nat.le_of_ble_eq_true rfl) (dk dX7_orders 11 rfl) rfl (fun r15 E15 hp15 => ?_)
      rcases hp15 with ⟨rfl, q_15, k_15, pl_15, ti_15, re_15, hK233_15, hK234_15, ho_15, hF15⟩ | ⟨rfl, q_15, hK233_15, ho_15, hF15⟩
      · have hos := ordP_s ho_15
        refine g_if_ne F (q := 21) (tgt := 24) (dk dX7_orders 12 rfl) (by decide) rfl (fun _ => ?_) (fun h => absurd h (by decide))
        refine g_aload_n F (q := 25) (dk dX7_orders 15 rfl) rfl rfl 0 rfl ?_
        refine g_getf F (q := 28) hK233_15 rfl inX7 (by omega) (j := 9) (by decide) tq_632 rfl rfl (dk dX7_orders 16 rfl) rfl ?_
        refine g_if_ge F (q := 31) (tgt := 36) (dk dX7_orders 17 rfl) (by decide) rfl (fun c28 => ?_) (fun c28 => ?_)
        · refine g_iinc F (q := 39) (v := (nI ((n + 1)))) (lv' := [(2, .int (nI ((n + 1)))), (0, .ref (ad 233)), (1, .int 1)]) (dk dX7_orders 21 rfl) rfl 2 rfl (nI_1 _) (Nat.le_of_ble_eq_true rfl) rfl ?_
          refine g_aload_n F (q := 40) (dk dX7_orders 22 rfl) rfl rfl 1 rfl ?_
          refine g_bipush F (q := 42) (v := 59) (dk dX7_orders 23 rfl) rfl (by decide) ?_
          have hc3 := (hF15 238 (by omega)).trans hc2
          refine g_callVI F (q := 45) (av := [.int 59]) (st := []) (c_X7_takes (ch := 59) hK233_15 hc3 (by first | assumption | decide | omega) (by omega)) kv_X7_takes tq_806 hK233_15 rfl (by omega) ⟨rfl, rfl⟩ (by decide) ⟨Nat.le_refl _, Nat.le_refl _⟩ rfl rfl (Nat.le_of_ble_eq_true rfl) (dk dX7_orders 24 rfl) rfl (fun r42 E42 hp42 => ?_)
          rcases hp42 with ⟨rfl, hK233_42, hc_42, hF42⟩ | ⟨rfl, hK233_42, hc_42, hF42⟩
          · refine g_istore_n F (q := 46) (lv' := [(3, .int 1), (2, .int (nI ((n + 1)))), (0, .ref (ad 233)), (1, .int 1)]) (dk dX7_orders 25 rfl) rfl rfl (Nat.le_of_ble_eq_true rfl) rfl ?_
            refine g_goto F (tgt := 9) (dk dX7_orders 26 rfl) (by decide) ?_
            refine g_iload_n F (q := 10) (dk dX7_orders 7 rfl) rfl rfl 0 rfl ?_
            refine g_if_eq F (q := 13) (tgt := 49) (dk dX7_orders 8 rfl) (by decide) rfl (fun h => absurd h (by decide)) (fun _ => ?_)
            have hcn := mkS_cnt hos.1 (Int32.not_lt.mpr c28) g0 g1 g2 gt gk
            refine g_lv (lv' := [(0, .ref (ad 233)), (1, .int 1), (2, .int (nI ((n + 1))))]) [2, 3, 1] rfl ?_
            have hc4 := (hF42 234 (by omega)).trans hK234_15
            exact ih (q_15 + 1) (n + 1) g (pre ++ [(k_15, pl_15, ti_15, re_15)]) ((mkS rw2 ne k_15 (if k_15 = 0 then nt2 else nk2) pl_15 ti_15 re_15).1) ((mkS rw2 ne k_15 (if k_15 = 0 then nt2 else nk2) pl_15 ti_15 re_15).2) _ _ E42 (by omega) hK233_42 hc4 (fun j hj => (((hF42 j (by omega)).trans (hF15 j (by omega))).trans (hfr13 j (by omega)))) (by omega) (by omega) (by omega) (by simp [hn]) (by rw [hP, prs_c ho_15 hc_42]; simp) hcn.1 hcn.2.1 hcn.2.2.1 hcn.2.2.2.1 hcn.2.2.2.2 (by rw [hR, prs_c ho_15 hc_42, rl_pos (Int32.not_lt.mpr c28)])
          · refine g_istore_n F (q := 46) (lv' := [(3, .int 0), (2, .int (nI ((n + 1)))), (0, .ref (ad 233)), (1, .int 1)]) (dk dX7_orders 25 rfl) rfl rfl (Nat.le_of_ble_eq_true rfl) rfl ?_
            refine g_goto F (tgt := 9) (dk dX7_orders 26 rfl) (by decide) ?_
            refine g_iload_n F (q := 10) (dk dX7_orders 7 rfl) rfl rfl 0 rfl ?_
            refine g_if_eq F (q := 13) (tgt := 49) (dk dX7_orders 8 rfl) (by decide) rfl (fun _ => ?_) (fun h => absurd h (by decide))
            refine g_aload_n F (q := 50) (dk dX7_orders 27 rfl) rfl rfl 2 rfl ?_
            refine g_getf F (q := 53) hK233_42 rfl inX7 (by omega) (j := 8) (by decide) tq_631 rfl rfl (dk dX7_orders 28 rfl) rfl ?_
            refine g_aload_n F (q := 54) (dk dX7_orders 29 rfl) rfl rfl 2 rfl ?_
            refine g_getf F (q := 57) hK233_42 rfl inX7 (by omega) (j := 7) (by decide) tq_630 rfl rfl (dk dX7_orders 30 rfl) rfl ?_
            refine g_icmp_ge F (q := 60) (tgt := 65) (dk dX7_orders 31 rfl) (by decide) rfl (fun c57 => ?_) (fun c57 => absurd c57 (fun h => absurd hok (by rw [hP, prs_e ho_15 hc_42]; dsimp only; rw [if_pos (Nat.lt_of_not_le (fun h9 => h (nI_le h9 (by omega))))]; exact fun h8 => by cases h8)))
            have nc57 : ln ≤ q_15 := (nI_leI (a := ln) (b := q_15) (by omega) (by omega)).mp c57
            refine g_iload_n F (q := 66) (dk dX7_orders 34 rfl) rfl rfl 1 rfl ?_
            have hR2 : (rl ne (prs txt ln 61 0).1 r nt nk) = (0, (mkS rw2 ne k_15 (if k_15 = 0 then nt2 else nk2) pl_15 ti_15 re_15).2) := by rw [hR, prs_e ho_15 hc_42, rl_pos (Int32.not_lt.mpr c28)]; rfl
            have hc5 := (hF42 234 (by omega)).trans hK234_15
            refine hret (nI ((n + 1))) E42 _ _ (dk dX7_orders 35 rfl) (nint _) ?_
            exact ⟨q_15, _, hK233_42, (by rw [hR2]; exact hc5), (Or.inr ⟨by rw [hR2]; exact (by decide : ¬ (0 : Int32) < 0), by rw [hP, prs_e ho_15 hc_42]; simp [hn]⟩), (fun j hj => ((((hF42 j (by omega)).trans (hF15 j (by omega))).trans (hfr13 j (by omega))).trans (hO2 j (by omega))))⟩
        · refine g_aload_n F (q := 32) (dk dX7_orders 18 rfl) rfl rfl 0 rfl ?_
          refine g_getf F (q := 35) hK233_15 rfl inX7 (by omega) (j := 9) (by decide) tq_632 rfl rfl (dk dX7_orders 19 rfl) rfl ?_
          obtain ⟨os, hos2⟩ := prs_ne (f := g) ho_15
          have hR2 : (rl ne (prs txt ln 61 0).1 r nt nk) = mkS rw2 ne k_15 (if k_15 = 0 then nt2 else nk2) pl_15 ti_15 re_15 := by rw [hR, hos2, rl_neg (Int32.not_le.mp c28)]
          refine hret ((mkS rw2 ne k_15 (if k_15 = 0 then nt2 else nk2) pl_15 ti_15 re_15).1) E15 _ _ (dk dX7_orders 20 rfl) (nint _) ?_
          exact ⟨q_15, _, hK233_15, (by rw [hR2]; exact hK234_15), (Or.inl ⟨by rw [hR2]; exact Int32.not_le.mp c28, by rw [hR2]⟩), (fun j hj => (((hF15 j (by omega)).trans (hfr13 j (by omega))).trans (hO2 j (by omega))))⟩
      · exact absurd (show (prs txt ln 61 0).2 = some q_15 by rw [hP, prs_n ho_15]) (by rw [hok]; exact fun h => by cases h)
  refine g_lv (lv' := [(0, .ref (ad 233)), (1, .int 1), (2, .int 0)]) [2, 3, 1] rfl ?_
  have hc6 := (hO2 234 (by omega)).trans h234
  exact K13 _ 0 0 61 ([]) s4 r nt nk E2 (Nat.lt_succ_self _) hE2 hc6 (fun j _ => rfl) (by omega) (by omega) (by omega) rfl (by simp) h0 h1 h2 hnt hnk rfl
abbrev rm_X7_readOrders : Room := { frames := 5, cells := 0, slots := 0, locals := 125 }
set_option maxHeartbeats 4000000 in
set_option maxRecDepth 100000 in
theorem c_X7_readOrders {l : Launch} {D : va_G} {cA : Nat → ClassId} {ad : Nat → Nat} {E : Nat → va_E} {ln nh : Nat} {s1 s3 s4 s5 : Int32} {lo mo : Int64} {txt r past bef : Nat → Int32} {ne nt nk : Nat} (h233 : E 233 = .inr (7, [.ref (ad 234), .ref (ad 235), .ref (ad 236), .ref (ad 237), .int (nI nh), .int s1, .ref (ad 238), .int (nI ln), .int s3, .int s4, .int s5, .ref (ad 239), .ref (ad 240), .ref (ad 241), .long lo, .long mo, .ref (ad 242)])) (h238 : E 238 = .inl (cA 3, 60, .inl txt)) (h234 : E 234 = .inl (cA 0, 346, .inl r)) (h235 : E 235 = .inl (cA 0, 1384, .inl past)) (h237 : E 237 = .inl (cA 0, 346, .inl bef))  (hln : ln ≤ 60) (hnh : nh ≤ 4) (h0 : r 0 = nI ne) (hne : ne ≤ 10) (h1 : r 1 = nI nt) (hnt : nt ≤ 10) (h2 : r 2 = nI nk) (hnk : nk ≤ 10) : CtI l D cA yX7_readOrders cX7_readOrders 2 .int rm_X7_readOrders 243 ad E [.ref (ad 233)] (fun x E' => ∃ (f : Nat → Int32) (q : Nat → Int32) (g : Nat → Int32) (n2 : Nat) (a2 : Int32) (t2 : Int32), (sRead r ne nt nk txt ln).1 = x ∧ E' 233 = .inr (7, [.ref (ad 234), .ref (ad 235), .ref (ad 236), .ref (ad 237), .int (nI n2), .int s1, .ref (ad 238), .int (nI ln), .int a2, .int t2, .int s5, .ref (ad 239), .ref (ad 240), .ref (ad 241), .long lo, .long mo, .ref (ad 242)]) ∧ E' 234 = .inl (cA 0, 346, .inl f) ∧ E' 235 = .inl (cA 0, 1384, .inl q) ∧ E' 237 = .inl (cA 0, 346, .inl g) ∧ (NX ((sRead r ne nt nk txt ln).2) r past nh f q n2) ∧ ∀ j, (j ≠ 233 ∧ j ≠ 234 ∧ j ≠ 235 ∧ j ≠ 237) → E' j = E j) := by
  refine CtI.of (by decide +kernel) (Nat.le_of_ble_eq_true rfl) (fun X F hret => ?_)
  have F : Fr "ThumpEarsModel" cX7_readOrders 2 D cA X := F
  refine (show GG rm_X7_readOrders 2 l D X 0 0 243 ad E 0 [(0, .ref (ad 233))] [] from ?_)
  refine g_aload_n F (q := 1) (dk dX7_readOrders 0 rfl) rfl rfl 0 rfl ?_
  refine g_iconst F (q := 2) (v := 0) (dk dX7_readOrders 1 rfl) rfl (by decide) ?_
  refine g_callVI F (q := 5) (av := [.int 0]) (st := []) (c_X7_orders_a h233 h238 (by first | assumption | decide | omega)) kv_X7_orders tq_790 h233 rfl (by omega) ⟨rfl, rfl⟩ (by decide) ⟨Nat.le_refl _, Nat.le_refl _⟩ rfl rfl (Nat.le_of_ble_eq_true rfl) (dk dX7_readOrders 2 rfl) rfl (fun r2 E2 hp2 => ?_)
  obtain ⟨q_2, tld_2, hK233_2, hr_2, hF2⟩ := hp2
  rcases hr_2 with ⟨rfl, hq⟩ | ⟨hok, rfl, hlen⟩
  · refine g_if_ge F (q := 8) (tgt := 16) (dk dX7_readOrders 3 rfl) (by decide) rfl (fun h => absurd h (by decide)) (fun _ => ?_)
    refine g_bipush F (q := 10) (v := (-100)) (dk dX7_readOrders 4 rfl) rfl (by decide) ?_
    refine g_aload_n F (q := 11) (dk dX7_readOrders 5 rfl) rfl rfl 0 rfl ?_
    refine g_getf F (q := 14) hK233_2 rfl inX7 (by omega) (j := 8) (by decide) tq_631 rfl rfl (dk dX7_readOrders 6 rfl) rfl ?_
    refine g_isub F (q := 15) (dk dX7_readOrders 7 rfl) rfl ?_
    have hs : sRead r ne nt nk txt ln = (-100 - nI q_2, none) := by unfold sRead; rw [hq]
    have hc1 := (hF2 234 (by omega)).trans h234
    have hc2 := (hF2 235 (by omega)).trans h235
    have hc3 := (hF2 237 (by omega)).trans h237
    refine hret ((-100) - (nI q_2)) E2 _ _ (dk dX7_readOrders 8 rfl) (nint _) ?_
    exact ⟨r, past, bef, nh, _, _, (by rw [hs]), hK233_2, hc1, hc2, hc3, (by rw [hs]; exact NX.nil), (fun j hj => (hF2 j (by omega)))⟩
  · refine g_if_ge F (q := 8) (tgt := 16) (dk dX7_readOrders 3 rfl) (by decide) rfl (fun c5 => ?_) (fun c5 => absurd c5 (fun h => h (nI_pos' (by omega))))
    refine g_aload_n F (q := 17) (dk dX7_readOrders 9 rfl) rfl rfl 0 rfl ?_
    have hc4 := (hF2 234 (by omega)).trans h234
    have hc5 := (hF2 237 (by omega)).trans h237
    refine g_callVV F (q := 20) (av := []) (st := []) (c_X7_remember hK233_2 hc4 hc5) kv_X7_remember tq_695 hK233_2 rfl (by omega) ⟨rfl, rfl⟩ (by decide) ⟨Nat.le_refl _, Nat.le_refl _⟩ rfl rfl (Nat.le_of_ble_eq_true rfl) (dk dX7_readOrders 10 rfl) rfl (fun E17 hp17 => ?_)
    obtain ⟨g_17, hK237_17, hg2_17, hF17⟩ := hp17
    refine g_aload_n F (q := 21) (dk dX7_readOrders 11 rfl) rfl rfl 0 rfl ?_
    refine g_iconst F (q := 22) (v := 1) (dk dX7_readOrders 12 rfl) rfl (by decide) ?_
    have hc6 := (hF17 233 (by omega)).trans hK233_2
    have hc7 := (hF2 238 (by omega)).trans h238
    have hc8 := (hF17 238 (by omega)).trans hc7
    have hc9 := (hF17 234 (by omega)).trans hc4
    refine g_callVI F (q := 25) (av := [.int 1]) (st := []) (c_X7_orders_b hc6 hc8 hc9 (by first | assumption | decide | omega) (by first | assumption | decide | omega) (by first | assumption | decide | omega) (by first | assumption | decide | omega) (by first | assumption | decide | omega) (by first | assumption | decide | omega) (by first | assumption | decide | omega) (by first | assumption | decide | omega)) kv_X7_orders tq_790 hc6 rfl (by omega) ⟨rfl, rfl⟩ (by decide) ⟨Nat.le_refl _, Nat.le_refl _⟩ rfl rfl (Nat.le_of_ble_eq_true rfl) (dk dX7_readOrders 13 rfl) rfl (fun r22 E22 hp22 => ?_)
    obtain ⟨q_22, tld_22, hK233_22, hK234_22, hr_22, hF22⟩ := hp22
    refine g_istore_n F (q := 26) (lv' := [(1, .int r22), (0, .ref (ad 233))]) (dk dX7_readOrders 14 rfl) rfl rfl (Nat.le_of_ble_eq_true rfl) rfl ?_
    rcases hr_22 with ⟨hneg, rfl⟩ | ⟨hneg, rfl⟩
    · refine g_iload_n F (q := 27) (dk dX7_readOrders 15 rfl) rfl rfl 0 rfl ?_
      refine g_if_ge F (q := 30) (tgt := 36) (dk dX7_readOrders 16 rfl) (by decide) rfl (fun c27 => absurd c27 (Int32.not_le.mpr hneg)) (fun c27 => ?_)
      refine g_aload_n F (q := 31) (dk dX7_readOrders 17 rfl) rfl rfl 1 rfl ?_
      have hc10 := (hF22 237 (by omega)).trans hK237_17
      refine g_callVV F (q := 34) (av := []) (st := []) (c_X7_goBack hK233_22 hc10 hK234_22) kv_X7_goBack tq_810 hK233_22 rfl (by omega) ⟨rfl, rfl⟩ (by decide) ⟨Nat.le_refl _, Nat.le_refl _⟩ rfl rfl (Nat.le_of_ble_eq_true rfl) (dk dX7_readOrders 18 rfl) rfl (fun E31 hp31 => ?_)
      obtain ⟨g_31, hK234_31, hg2_31, hF31⟩ := hp31
      refine g_iload_n F (q := 35) (dk dX7_readOrders 19 rfl) rfl rfl 0 rfl ?_
      have hs : sRead r ne nt nk txt ln = ((rl ne (prs txt ln 61 0).1 r nt nk).1, none) := by unfold sRead; rw [hok]; exact if_pos hneg
      have hc11 := (hF31 233 (by omega)).trans hK233_22
      have hc12 := (hF2 235 (by omega)).trans h235
      have hc13 := (hF17 235 (by omega)).trans hc12
      have hc14 := (hF22 235 (by omega)).trans hc13
      have hc15 := (hF31 235 (by omega)).trans hc14
      have hc16 := (hF31 237 (by omega)).trans hc10
      refine hret (rl ne (prs txt ln 61 0).1 r nt nk).1 E31 _ _ (dk dX7_readOrders 20 rfl) (nint _) ?_
      exact ⟨_, past, _, nh, _, _, (by rw [hs]), hc11, hK234_31, hc15, hc16, (by rw [hs]; exact ⟨rfl, fun k hk => (hg2_31 k hk).trans (hg2_17 k hk), fun _ _ => eqN.rf⟩), (fun j hj => ((((hF31 j (by omega)).trans (hF22 j (by omega))).trans (hF17 j (by omega))).trans (hF2 j (by omega))))⟩
    · refine g_iload_n F (q := 27) (dk dX7_readOrders 15 rfl) rfl rfl 0 rfl ?_
      refine g_if_ge F (q := 30) (tgt := 36) (dk dX7_readOrders 16 rfl) (by decide) rfl (fun c27 => ?_) (fun c27 => absurd c27 (fun h => h (nI_pos' (by omega))))
      refine g_aload_n F (q := 37) (dk dX7_readOrders 21 rfl) rfl rfl 1 rfl ?_
      have hc17 := (hF2 235 (by omega)).trans h235
      have hc18 := (hF17 235 (by omega)).trans hc17
      have hc19 := (hF22 235 (by omega)).trans hc18
      have hc20 := (hF22 237 (by omega)).trans hK237_17
      refine g_callVV F (q := 40) (av := []) (st := []) (c_X7_record hK233_22 hc19 hc20 (by first | assumption | decide | omega)) kv_X7_record tq_699 hK233_22 rfl (by omega) ⟨rfl, rfl⟩ (by decide) ⟨Nat.le_refl _, Nat.le_refl _⟩ rfl rfl (Nat.le_of_ble_eq_true rfl) (dk dX7_readOrders 22 rfl) rfl (fun E37 hp37 => ?_)
      obtain ⟨q_37, hK233_37, hK235_37, hp_37, hF37⟩ := hp37
      refine g_iload_n F (q := 41) (dk dX7_readOrders 23 rfl) rfl rfl 0 rfl ?_
      have hs : sRead r ne nt nk txt ln = (nI (prs txt ln 61 0).1.length, some (rl ne (prs txt ln 61 0).1 r nt nk).2) := by unfold sRead; rw [hok]; exact if_neg hneg
      have hc21 := (hF37 234 (by omega)).trans hK234_22
      have hc22 := (hF37 237 (by omega)).trans hc20
      refine hret (nI (((prs txt ln 61 0).1.length))) E37 _ _ (dk dX7_readOrders 24 rfl) (nint _) ?_
      exact ⟨_, _, _, (nup nh), _, _, (by rw [hs]), hK233_37, hc21, hK235_37, hc22, (by rw [hs]; exact ⟨rfl, eqN.rf, hpush_cg hg2_17 hp_37⟩), (fun j hj => ((((hF37 j (by omega)).trans (hF22 j (by omega))).trans (hF17 j (by omega))).trans (hF2 j (by omega))))⟩
theorem kv_X7_readOrders : KV yX7_readOrders "ThumpEarsModel" cX7_readOrders 2 (some .int) 0 := ⟨tq_787, tq_788, tq_47, tq_789, by decide +kernel⟩
end
section
/-! ===== marks ===== -/
def Rb (x : Int32) : Prop := x = MISS ∨ (-2000 ≤ x.toInt ∧ x.toInt ≤ 130000)
/-- what holds of a row: counts and bounds -/
def Inv (r : Nat → Int32) (ne nt nk : Nat) : Prop :=
  (r 0 = nI ne ∧ ne ≤ 10) ∧ (r 1 = nI nt ∧ nt ≤ 10) ∧ (r 2 = nI nk ∧ nk ≤ 10) ∧ (1 ≤ (r 3).toInt ∧ (r 3).toInt ≤ 20) ∧ (0 ≤ (r 4).toInt ∧ (r 4).toInt ≤ 500) ∧ (0 ≤ (r 5).toInt ∧ (r 5).toInt ≤ 100000) ∧
  (∀ e, e < ne → (0 ≤ (r (6 + 4 * e + 0)).toInt ∧ (r (6 + 4 * e + 0)).toInt ≤ 1000) ∧ (r (6 + 4 * e + 1) = 0 ∨ r (6 + 4 * e + 1) = 1) ∧ (-500 ≤ (r (6 + 4 * e + 2)).toInt ∧ (r (6 + 4 * e + 2)).toInt ≤ 500) ∧ (-50 ≤ (r (6 + 4 * e + 3)).toInt ∧ (r (6 + 4 * e + 3)).toInt ≤ 50)) ∧
  (∀ k m, k < 2 → m < (if k = 0 then nt else nk) → (0 ≤ (r (46 + 50 * k + 5 * m + 0)).toInt ∧ (r (46 + 50 * k + 5 * m + 0)).toInt ≤ 1000) ∧ (0 ≤ (r (46 + 50 * k + 5 * m + 1)).toInt ∧ (r (46 + 50 * k + 5 * m + 1)).toInt ≤ 100000) ∧ (1 ≤ (r (46 + 50 * k + 5 * m + 3)).toInt ∧ (r (46 + 50 * k + 5 * m + 3)).toInt ≤ 20) ∧ (r (46 + 50 * k + 5 * m + 4) = 0 ∨ r (46 + 50 * k + 5 * m + 4) = 1) ∧ ∀ e, e < 10 → Rb (r (146 + 100 * k + 10 * m + e)))
theorem Inv.h0 {r : Nat → Int32} {ne nt nk : Nat} (h : Inv r ne nt nk) : r 0 = nI ne := h.1.1
theorem Inv.e0 {r : Nat → Int32} {ne nt nk : Nat} (h : Inv r ne nt nk) : ne ≤ 10 := h.1.2
theorem Inv.h1 {r : Nat → Int32} {ne nt nk : Nat} (h : Inv r ne nt nk) : r 1 = nI nt := h.2.1.1
theorem Inv.e1 {r : Nat → Int32} {ne nt nk : Nat} (h : Inv r ne nt nk) : nt ≤ 10 := h.2.1.2
theorem Inv.h2 {r : Nat → Int32} {ne nt nk : Nat} (h : Inv r ne nt nk) : r 2 = nI nk := h.2.2.1.1
theorem Inv.e2 {r : Nat → Int32} {ne nt nk : Nat} (h : Inv r ne nt nk) : nk ≤ 10 := h.2.2.1.2
theorem Inv.rb {r : Nat → Int32} {ne nt nk : Nat} (h : Inv r ne nt nk) {m e : Nat} (hm : m < nt) (he : e < 10) : Rb (r (146 + 100 * 0 + 10 * m + e)) := (h.2.2.2.2.2.2.2 0 m (by omega) hm).2.2.2.2 e he
theorem Inv.rb1 {r : Nat → Int32} {ne nt nk : Nat} (h : Inv r ne nt nk) {m e : Nat} (hm : m < nk) (he : e < 10) : Rb (r (146 + 100 * 1 + 10 * m + e)) := (h.2.2.2.2.2.2.2 1 m (by omega) hm).2.2.2.2 e he
/-- does thump k give the ear e a mark that counts, behind c marks with the readings R -/
def mG (r : Nat → Int32) (e k c : Nat) (R : Nat → Int32) : Prop := ¬ r (146 + 100 * 0 + 10 * k + e) = MISS ∧ r (46 + 50 * 0 + 5 * k + 4) = 0 ∧ (c = 0 ∨ R (c - 1) < r (146 + 100 * 0 + 10 * k + e))
def mE (r : Nat → Int32) (e k : Nat) : Int32 := r (146 + 100 * 0 + 10 * k + e) - (r (46 + 50 * 0 + 5 * k + 1) + r (46 + 50 * 0 + 5 * k + 3) * far (r (46 + 50 * 0 + 5 * k + 0)) (r (6 + 4 * e + 0)))
def mF (r : Nat → Int32) (e : Nat) : Nat → Nat × (Nat → Int32) × (Nat → Int32) × (Nat → Int32)
  | 0 => (0, fun _ => 0, fun _ => 0, fun _ => 0)
  | k + 1 => if ¬ r (146 + 100 * 0 + 10 * k + e) = MISS ∧ r (46 + 50 * 0 + 5 * k + 4) = 0 ∧ ((mF r e k).1 = 0 ∨ (mF r e k).2.1 ((mF r e k).1 - 1) < r (146 + 100 * 0 + 10 * k + e)) then ((mF r e k).1 + 1, upd (mF r e k).2.1 (mF r e k).1 (r (146 + 100 * 0 + 10 * k + e)), upd (mF r e k).2.2.1 (mF r e k).1 (mE r e k), upd (mF r e k).2.2.2 (mF r e k).1 (nI k)) else mF r e k
def mC (r : Nat → Int32) (e k : Nat) : Nat := (mF r e k).1
def mRd (r : Nat → Int32) (e k : Nat) : Nat → Int32 := (mF r e k).2.1
def mEr (r : Nat → Int32) (e k : Nat) : Nat → Int32 := (mF r e k).2.2.1
def mTh (r : Nat → Int32) (e k : Nat) : Nat → Int32 := (mF r e k).2.2.2
def mH (r : Nat → Int32) (e k : Nat) (rd er th : Nat → Int32) : Prop := ∀ j, j < mC r e k → rd j = mRd r e k j ∧ er j = mEr r e k j ∧ th j = mTh r e k j
theorem mF_t {r : Nat → Int32} {e k : Nat} (h : mG r e k (mC r e k) (mRd r e k)) : mF r e (k + 1) = (mC r e k + 1, upd (mRd r e k) (mC r e k) (r (146 + 100 * 0 + 10 * k + e)), upd (mEr r e k) (mC r e k) (mE r e k), upd (mTh r e k) (mC r e k) (nI k)) := by
  conv => lhs; unfold mF
  exact if_pos h
theorem mF_f {r : Nat → Int32} {e k : Nat} (h : ¬ mG r e k (mC r e k) (mRd r e k)) : mF r e (k + 1) = mF r e k := by
  conv => lhs; unfold mF
  exact if_neg h
theorem mC_t {r : Nat → Int32} {e k : Nat} (h : mG r e k (mC r e k) (mRd r e k)) : mC r e (k + 1) = mC r e k + 1 := by
  show (mF r e (k + 1)).1 = _
  rw [mF_t h]
theorem mC_f {r : Nat → Int32} {e k : Nat} (h : ¬ mG r e k (mC r e k) (mRd r e k)) : mC r e (k + 1) = mC r e k := by
  show (mF r e (k + 1)).1 = _
  rw [mF_f h]; rfl
theorem mC_le {r : Nat → Int32} {e : Nat} : ∀ k, mC r e k ≤ k
  | 0 => Nat.le_refl _
  | k + 1 => by
    have := mC_le (r := r) (e := e) k
    by_cases h : mG r e k (mC r e k) (mRd r e k)
    · rw [mC_t h]; omega
    · rw [mC_f h]; omega
theorem mH_0 {r : Nat → Int32} {e : Nat} {rd er th : Nat → Int32} : mH r e 0 rd er th := fun j hj => absurd hj (Nat.not_lt_zero j)
theorem mH_f {r : Nat → Int32} {e k : Nat} {rd er th : Nat → Int32} (h : ¬ mG r e k (mC r e k) (mRd r e k)) (hH : mH r e k rd er th) : mH r e (k + 1) rd er th := by
  intro j hj
  rw [mC_f h] at hj
  unfold mRd mEr mTh
  rw [mF_f h]
  exact hH j hj
theorem mH_t {r : Nat → Int32} {e k : Nat} {rd er th : Nat → Int32} {x y : Int32} (h : mG r e k (mC r e k) (mRd r e k)) (hH : mH r e k rd er th) (hx : x = r (146 + 100 * 0 + 10 * k + e)) (hy : y = mE r e k) : mH r e (k + 1) (upd rd (mC r e k) x) (upd er (mC r e k) y) (upd th (mC r e k) (nI k)) := by
  intro j hj
  rw [mC_t h] at hj
  unfold mRd mEr mTh
  rw [mF_t h]
  by_cases q : j = mC r e k
  · subst q
    simp only [upd_s]
    exact ⟨hx, hy, trivial⟩
  · have := hH j (by omega)
    simp only [upd_n q]
    exact this
/-- the readings of marks grow; they are readings that were heard -/
theorem mRd_in {r : Nat → Int32} {e : Nat} : ∀ k j, j < mC r e k → ∃ m, m < k ∧ mRd r e k j = r (146 + 100 * 0 + 10 * m + e) ∧ ¬ r (146 + 100 * 0 + 10 * m + e) = MISS ∧ mEr r e k j = mE r e m
  | 0, j, h => absurd h (Nat.not_lt_zero j)
  | k + 1, j, h => by
    by_cases g : mG r e k (mC r e k) (mRd r e k)
    · rw [mC_t g] at h
      unfold mRd mEr
      rw [mF_t g]
      by_cases q : j = mC r e k
      · subst q
        exact ⟨k, by omega, by simp only [upd_s], g.1, by simp only [upd_s]⟩
      · obtain ⟨m, h1, h2, h3, h4⟩ := mRd_in (r := r) (e := e) k j (by omega)
        exact ⟨m, by omega, by simp only [upd_n q]; exact h2, h3, by simp only [upd_n q]; exact h4⟩
    · rw [mC_f g] at h
      unfold mRd mEr
      rw [mF_f g]
      obtain ⟨m, h1, h2, h3, h4⟩ := mRd_in k j h
      exact ⟨m, by omega, h2, h3, h4⟩
theorem mRd_mono {r : Nat → Int32} {e : Nat} : ∀ k j, j + 1 < mC r e k → mRd r e k j < mRd r e k (j + 1)
  | 0, j, h => absurd h (Nat.not_lt_zero _)
  | k + 1, j, h => by
    by_cases g : mG r e k (mC r e k) (mRd r e k)
    · rw [mC_t g] at h
      unfold mRd
      rw [mF_t g]
      by_cases q : j + 1 = mC r e k
      · have q2 : j ≠ mC r e k := by omega
        simp only [← q, upd_s]
        rw [upd_n (by omega)]
        have := g.2.2
        rcases this with h0 | h0
        · omega
        · rw [← q] at h0; exact h0
      · simp only [upd_n q]
        rw [upd_n (by omega)]
        exact mRd_mono k j (by omega)
    · rw [mC_f g] at h
      unfold mRd
      rw [mF_f g]
      exact mRd_mono k j h
/-- of the readings 1 .. m the last that is not greater than c, or 0 -/
def fI (R : Nat → Int32) (c : Int32) : Nat → Nat
  | 0 => 0
  | m + 1 => if R (m + 1) ≤ c then m + 1 else fI R c m
theorem fI_le {R : Nat → Int32} {c : Int32} : ∀ m, fI R c m ≤ m
  | 0 => Nat.le_refl _
  | m + 1 => by
    unfold fI
    split
    · exact Nat.le_refl _
    · exact Nat.le_trans (fI_le m) (by omega)
theorem mono_lt {R : Nat → Int32} {n : Nat} (hm : ∀ j, j + 1 < n → R j < R (j + 1)) : ∀ d i, i + d + 1 < n → R i < R (i + d + 1)
  | 0, i, h => hm i h
  | d + 1, i, h => Int32.lt_trans (mono_lt hm d i (by omega)) (hm (i + d + 1) (by omega))
theorem fI_ex {R : Nat → Int32} {c : Int32} {n k : Nat} (hm : ∀ j, j + 1 < n → R j < R (j + 1)) : ∀ m, m + 1 < n → k ≤ m → (k = 0 ∨ R k ≤ c) → (k = m ∨ c < R (k + 1)) → fI R c m = k
  | 0, h1, h2, h3, h4 => by
    unfold fI; omega
  | m + 1, h1, h2, h3, h4 => by
    unfold fI
    by_cases e : k = m + 1
    · subst e
      rw [if_pos (h3.elim (fun h => absurd h (by omega)) id)]
    · have hgt : c < R (k + 1) := h4.elim (fun h => absurd h e) id
      have hgt2 : c < R (m + 1) := by
        by_cases e2 : k = m
        · subst e2; exact hgt
        · have := mono_lt hm (m - k - 1) (k + 1) (by omega)
          rw [show k + 1 + (m - k - 1) + 1 = m + 1 by omega] at this
          exact Int32.lt_trans hgt this
      rw [if_neg (Int32.not_le.mpr hgt2)]
      exact fI_ex hm m (by omega) (by omega) h3 (by right; exact hgt)
def eA (n : Nat) (R Er : Nat → Int32) (c : Int32) : Int64 :=
  if n < 2 then (if n = 0 then 0 else 1000 * (Er 0).toInt64) else 1000 * (Er (fI R c (n - 2))).toInt64 + dn (1000 * (Er (fI R c (n - 2) + 1) - Er (fI R c (n - 2))).toInt64 * (c - R (fI R c (n - 2))).toInt64) ((R (fI R c (n - 2) + 1) - R (fI R c (n - 2))).toInt64)
/-- two readings apart: their difference is no 0 as a long -/
theorem df_nz {x y : Int32} (hx : -2000 ≤ x.toInt ∧ x.toInt ≤ 130000) (hy : -2000 ≤ y.toInt ∧ y.toInt ≤ 130000) (h : x < y) : (y - x).toInt = y.toInt - x.toInt ∧ ¬ (y - x).toInt64 = 0 := by
  rw [Int32.lt_iff_toInt_lt] at h
  have e : (y - x).toInt = y.toInt - x.toInt := by
    rw [Int32.toInt_sub]
    apply Int.bmod_eq_of_le <;> omega
  refine ⟨e, fun h0 => ?_⟩
  have h1 := congrArg Int64.toInt h0
  rw [Int32.toInt_toInt64, e] at h1
  have : (0 : Int64).toInt = 0 := by decide
  omega
theorem mRd_b {r : Nat → Int32} {ne nt nk e j : Nat} (hI : Inv r ne nt nk) (he : e < 10) (hj : j < mC r e nt) : -2000 ≤ (mRd r e nt j).toInt ∧ (mRd r e nt j).toInt ≤ 130000 := by
  obtain ⟨m, h1, h2, h3, -⟩ := mRd_in nt j hj
  rw [h2]
  rcases hI.rb h1 he with h | h
  · exact absurd h h3
  · exact h
end
section
abbrev rm_X7_findMarks : Room := { frames := 1, cells := 0, slots := 0, locals := 23 }
set_option maxHeartbeats 4000000 in
set_option maxRecDepth 100000 in
theorem c_X7_findMarks {l : Launch} {D : va_G} {cA : Nat → ClassId} {ad : Nat → Nat} {E : Nat → va_E} {s0 s1 s2 s3 s4 s5 : Int32} {lo mo : Int64} {r rd er th : Nat → Int32} {e nt : Nat}  (h233 : E 233 = .inr (7, [.ref (ad 234), .ref (ad 235), .ref (ad 236), .ref (ad 237), .int s0, .int s1, .ref (ad 238), .int s2, .int s3, .int s4, .int s5, .ref (ad 239), .ref (ad 240), .ref (ad 241), .long lo, .long mo, .ref (ad 242)])) (h234 : E 234 = .inl (cA 0, 346, .inl r)) (h239 : E 239 = .inl (cA 0, 10, .inl rd)) (h240 : E 240 = .inl (cA 0, 10, .inl er)) (h241 : E 241 = .inl (cA 0, 10, .inl th))  (he : e < 10) (h1 : r 1 = nI nt) (hnt : nt ≤ 10) : CtV l D cA yX7_findMarks cX7_findMarks 4 rm_X7_findMarks 243 ad E [.ref (ad 233), .int (nI e)] (fun E' => ∃ (rd1 : Nat → Int32) (er1 : Nat → Int32) (th1 : Nat → Int32), E' 233 = .inr (7, [.ref (ad 234), .ref (ad 235), .ref (ad 236), .ref (ad 237), .int s0, .int s1, .ref (ad 238), .int s2, .int s3, .int s4, .int (nI ((mC r e nt))), .ref (ad 239), .ref (ad 240), .ref (ad 241), .long lo, .long mo, .ref (ad 242)]) ∧ E' 239 = .inl (cA 0, 10, .inl rd1) ∧ E' 240 = .inl (cA 0, 10, .inl er1) ∧ E' 241 = .inl (cA 0, 10, .inl th1) ∧ (mH r e nt rd1 er1 th1) ∧ ∀ j, (j ≠ 233 ∧ j ≠ 239 ∧ j ≠ 240 ∧ j ≠ 241) → E' j = E j) := by
  refine CtV.of (by decide +kernel) (Nat.le_of_ble_eq_true rfl) (fun X F hret => ?_)
  have F : Fr "ThumpEarsModel" cX7_findMarks 4 D cA X := F
  refine (show GG rm_X7_findMarks 4 l D X 0 0 243 ad E 0 [(0, .ref (ad 233)), (1, .int (nI e))] [] from ?_)
  refine g_aload_n F (q := 1) (dk dX7_findMarks 0 rfl) rfl rfl 0 rfl ?_
  refine g_iconst F (q := 2) (v := 0) (dk dX7_findMarks 1 rfl) rfl (by decide) ?_
  refine g_putf F (q := 5) (ty := .int) h233 rfl inX7 tyX7 tyX7_ok nmX7 (by omega) (j := 10) (by decide) tq_633 rfl rfl (by decide +kernel) rfl rfl (Nat.le_of_ble_eq_true rfl) (dk dX7_findMarks 2 rfl) rfl (fun E2 hE2 hO2 => ?_)
  have hE2 : E2 233 = .inr (7, [.ref (ad 234), .ref (ad 235), .ref (ad 236), .ref (ad 237), .int s0, .int s1, .ref (ad 238), .int s2, .int s3, .int s4, .int 0, .ref (ad 239), .ref (ad 240), .ref (ad 241), .long lo, .long mo, .ref (ad 242)]) := hE2
  refine g_iconst F (q := 6) (v := 0) (dk dX7_findMarks 3 rfl) rfl (by decide) ?_
  refine g_istore_n F (q := 7) (lv' := [(2, .int 0), (0, .ref (ad 233)), (1, .int (nI e))]) (dk dX7_findMarks 4 rfl) rfl rfl (Nat.le_of_ble_eq_true rfl) rfl ?_
  have K7 : ∀ (fu : Nat) (i : Nat) (rd1 : Nat → Int32) (er1 : Nat → Int32) (th1 : Nat → Int32) (E1 : Nat → va_E), nt - i < fu → (h3 : E1 233 = .inr (7, [.ref (ad 234), .ref (ad 235), .ref (ad 236), .ref (ad 237), .int s0, .int s1, .ref (ad 238), .int s2, .int s3, .int s4, .int (nI ((mC r e i))), .ref (ad 239), .ref (ad 240), .ref (ad 241), .long lo, .long mo, .ref (ad 242)])) → (hrd : E1 239 = .inl (cA 0, 10, .inl rd1)) → (her : E1 240 = .inl (cA 0, 10, .inl er1)) → (hth : E1 241 = .inl (cA 0, 10, .inl th1)) → (hfr7 : ∀ j, (j ≠ 233 ∧ j ≠ 239 ∧ j ≠ 240 ∧ j ≠ 241) → E1 j = E2 j) → (hi : i ≤ nt) → (hH : mH r e i rd1 er1 th1) → GG rm_X7_findMarks 4 l D X 0 0 243 ad E1 7 [(0, .ref (ad 233)), (1, .int (nI e)), (2, .int (nI i))] [] := by
    intro fu
    induction fu with
    | zero => intro i rd1 er1 th1 E1 hfu_; exact absurd hfu_ (Nat.not_lt_zero _)
    | succ fu ih =>
      intro i rd1 er1 th1 E1 hfu_ h3 hrd her hth hfr7 hi hH
      have hml := mC_le (r := r) (e := e) i
      refine g_iload_n F (q := 8) (dk dX7_findMarks 5 rfl) rfl rfl 2 rfl ?_
      refine g_aload_n F (q := 9) (dk dX7_findMarks 6 rfl) rfl rfl 0 rfl ?_
      refine g_getf F (q := 12) h3 rfl inX7 (by omega) (j := 0) (by decide) tq_623 rfl rfl (dk dX7_findMarks 7 rfl) rfl ?_
      refine g_iconst F (q := 13) (v := 1) (dk dX7_findMarks 8 rfl) rfl (by decide) ?_
      have hc1 := (hO2 234 (by omega)).trans h234
      have hc2 := (hfr7 234 (by omega)).trans hc1
      refine g_iald F (q := 14) 1 hc2 (by omega) rfl (by omega) (by decide) (dk dX7_findMarks 9 rfl) rfl ?_
      refine g_sti (y := (nI nt)) h1 ?_
      refine g_icmp_ge F (q := 17) (tgt := 142) (dk dX7_findMarks 10 rfl) (by decide) rfl (fun c14 => ?_) (fun c14 => ?_)
      · have nc14 : nt ≤ i := (nI_leI (a := nt) (b := i) (by omega) (by omega)).mp c14
        refine hret E1 _ _ (dk dX7_findMarks 87 rfl) ?_
        have hie : i = nt := by omega
        subst hie
        exact ⟨_, _, _, h3, hrd, her, hth, hH, (fun j hj => ((hfr7 j (by omega)).trans (hO2 j (by omega))))⟩
      · have nc14 : ¬ nt ≤ i := fun h => c14 ((nI_leI (a := nt) (b := i) (by omega) (by omega)).mpr h)
        refine g_aload_n F (q := 18) (dk dX7_findMarks 11 rfl) rfl rfl 0 rfl ?_
        refine g_iconst F (q := 19) (v := 0) (dk dX7_findMarks 12 rfl) rfl (by decide) ?_
        refine g_iload_n F (q := 20) (dk dX7_findMarks 13 rfl) rfl rfl 2 rfl ?_
        refine g_iload_n F (q := 21) (dk dX7_findMarks 14 rfl) rfl rfl 1 rfl ?_
        refine g_callVI F (q := 24) (av := [.int 0, .int (nI i), .int (nI e)]) (st := []) (c_X7_heardOf (k := 0) (m := i) (e := e) h3 hc2 (by first | assumption | decide | omega)) kv_X7_heardOf tq_822 h3 rfl (by omega) ⟨rfl, rfl⟩ (by decide) ⟨Nat.le_refl _, Nat.le_refl _⟩ rfl rfl (Nat.le_of_ble_eq_true rfl) (dk dX7_findMarks 15 rfl) rfl (fun r21 E21 hp21 => ?_)
        obtain ⟨rfl, rfl⟩ := hp21
        refine g_istore_n F (q := 25) (lv' := [(3, .int (r (146 + 100 * 0 + 10 * i + e))), (0, .ref (ad 233)), (1, .int (nI e)), (2, .int (nI i))]) (dk dX7_findMarks 16 rfl) rfl rfl (Nat.le_of_ble_eq_true rfl) rfl ?_
        refine g_iload_n F (q := 26) (dk dX7_findMarks 17 rfl) rfl rfl 0 rfl ?_
        refine g_ldc F (q := 28) (v := (-1000000000)) (dk dX7_findMarks 18 rfl) rfl tq_622 ?_
        refine g_sti (y := MISS) rfl ?_
        refine g_icmp_eq F (q := 31) (tgt := 136) (dk dX7_findMarks 19 rfl) (by decide) rfl (fun c28 => ?_) (fun c28 => ?_)
        · refine g_iinc F (q := 139) (v := (nI ((i + 1)))) (lv' := [(2, .int (nI ((i + 1)))), (3, .int (r (146 + 100 * 0 + 10 * i + e))), (0, .ref (ad 233)), (1, .int (nI e))]) (dk dX7_findMarks 85 rfl) rfl 3 rfl (nI_1 _) (Nat.le_of_ble_eq_true rfl) rfl ?_
          refine g_goto F (tgt := 7) (dk dX7_findMarks 86 rfl) (by decide) ?_
          have hg : ¬ mG r e i (mC r e i) (mRd r e i) := fun h => h.1 c28
          refine g_lv (lv' := [(0, .ref (ad 233)), (1, .int (nI e)), (2, .int (nI ((i + 1))))]) [2, 3, 0] rfl ?_
          exact ih (i + 1) rd1 er1 th1 E1 (by omega) (by rw [mC_f hg]; exact h3) hrd her hth (fun j hj => (hfr7 j (by omega))) (by omega) (mH_f hg hH)
        · refine g_aload_n F (q := 32) (dk dX7_findMarks 20 rfl) rfl rfl 1 rfl ?_
          refine g_iconst F (q := 33) (v := 0) (dk dX7_findMarks 21 rfl) rfl (by decide) ?_
          refine g_iload_n F (q := 34) (dk dX7_findMarks 22 rfl) rfl rfl 3 rfl ?_
          refine g_iconst F (q := 35) (v := 4) (dk dX7_findMarks 23 rfl) rfl (by decide) ?_
          refine g_callVI F (q := 38) (av := [.int 0, .int (nI i), .int 4]) (st := []) (c_X7_come (k := 0) (m := i) (w := 4) h3 hc2 (by first | assumption | decide | omega)) kv_X7_come tq_770 h3 rfl (by omega) ⟨rfl, rfl⟩ (by decide) ⟨Nat.le_refl _, Nat.le_refl _⟩ rfl rfl (Nat.le_of_ble_eq_true rfl) (dk dX7_findMarks 24 rfl) rfl (fun r35 E35 hp35 => ?_)
          obtain ⟨rfl, rfl⟩ := hp35
          refine g_if_ne F (q := 41) (tgt := 136) (dk dX7_findMarks 25 rfl) (by decide) rfl (fun c38 => ?_) (fun c38 => ?_)
          · refine g_iinc F (q := 139) (v := (nI ((i + 1)))) (lv' := [(2, .int (nI ((i + 1)))), (3, .int (r (146 + 100 * 0 + 10 * i + e))), (0, .ref (ad 233)), (1, .int (nI e))]) (dk dX7_findMarks 85 rfl) rfl 3 rfl (nI_1 _) (Nat.le_of_ble_eq_true rfl) rfl ?_
            refine g_goto F (tgt := 7) (dk dX7_findMarks 86 rfl) (by decide) ?_
            have hg : ¬ mG r e i (mC r e i) (mRd r e i) := fun h => c38 h.2.1
            refine g_lv (lv' := [(0, .ref (ad 233)), (1, .int (nI e)), (2, .int (nI ((i + 1))))]) [2, 3, 0] rfl ?_
            exact ih (i + 1) rd1 er1 th1 E1 (by omega) (by rw [mC_f hg]; exact h3) hrd her hth (fun j hj => (hfr7 j (by omega))) (by omega) (mH_f hg hH)
          · refine g_aload_n F (q := 42) (dk dX7_findMarks 26 rfl) rfl rfl 1 rfl ?_
            refine g_getf F (q := 45) h3 rfl inX7 (by omega) (j := 10) (by decide) tq_633 rfl rfl (dk dX7_findMarks 27 rfl) rfl ?_
            refine g_if_eq F (q := 48) (tgt := 63) (dk dX7_findMarks 28 rfl) (by decide) rfl (fun c45 => ?_) (fun c45 => ?_)
            · have nc45 : (mC r e i) = 0 := (nI_eq (a := (mC r e i)) (b := 0) (by omega) (by omega)).mp c45
              refine g_aload_n F (q := 64) (dk dX7_findMarks 38 rfl) rfl rfl 1 rfl ?_
              refine g_getf F (q := 67) h3 rfl inX7 (by omega) (j := 11) (by decide) tq_634 rfl rfl (dk dX7_findMarks 39 rfl) rfl ?_
              refine g_aload_n F (q := 68) (dk dX7_findMarks 40 rfl) rfl rfl 1 rfl ?_
              refine g_getf F (q := 71) h3 rfl inX7 (by omega) (j := 10) (by decide) tq_633 rfl rfl (dk dX7_findMarks 41 rfl) rfl ?_
              refine g_iload_n F (q := 72) (dk dX7_findMarks 42 rfl) rfl rfl 0 rfl ?_
              refine g_iast F (q := 73) ((mC r e i)) hrd (by omega) rfl (by omega) (by decide) (dk dX7_findMarks 43 rfl) rfl (fun E72 hE72 hO72 => ?_)
              refine g_aload_n F (q := 74) (dk dX7_findMarks 44 rfl) rfl rfl 1 rfl ?_
              have hc3 := (hO72 233 (by omega)).trans h3
              refine g_getf F (q := 77) hc3 rfl inX7 (by omega) (j := 12) (by decide) tq_635 rfl rfl (dk dX7_findMarks 45 rfl) rfl ?_
              refine g_aload_n F (q := 78) (dk dX7_findMarks 46 rfl) rfl rfl 1 rfl ?_
              refine g_getf F (q := 81) hc3 rfl inX7 (by omega) (j := 10) (by decide) tq_633 rfl rfl (dk dX7_findMarks 47 rfl) rfl ?_
              refine g_iload_n F (q := 82) (dk dX7_findMarks 48 rfl) rfl rfl 0 rfl ?_
              refine g_aload_n F (q := 83) (dk dX7_findMarks 49 rfl) rfl rfl 1 rfl ?_
              refine g_iconst F (q := 84) (v := 0) (dk dX7_findMarks 50 rfl) rfl (by decide) ?_
              refine g_iload_n F (q := 85) (dk dX7_findMarks 51 rfl) rfl rfl 3 rfl ?_
              refine g_iconst F (q := 86) (v := 1) (dk dX7_findMarks 52 rfl) rfl (by decide) ?_
              have hc4 := (hO72 234 (by omega)).trans hc2
              refine g_callVI F (q := 89) (av := [.int 0, .int (nI i), .int 1]) (st := [.int (r (146 + 100 * 0 + 10 * i + e)), .int (nI ((mC r e i))), .ref (ad 240)]) (c_X7_come (k := 0) (m := i) (w := 1) hc3 hc4 (by first | assumption | decide | omega)) kv_X7_come tq_770 hc3 rfl (by omega) ⟨rfl, rfl⟩ (by decide) ⟨Nat.le_refl _, Nat.le_refl _⟩ rfl rfl (Nat.le_of_ble_eq_true rfl) (dk dX7_findMarks 53 rfl) rfl (fun r86 E86 hp86 => ?_)
              obtain ⟨rfl, rfl⟩ := hp86
              refine g_aload_n F (q := 90) (dk dX7_findMarks 54 rfl) rfl rfl 1 rfl ?_
              refine g_iconst F (q := 91) (v := 0) (dk dX7_findMarks 55 rfl) rfl (by decide) ?_
              refine g_iload_n F (q := 92) (dk dX7_findMarks 56 rfl) rfl rfl 3 rfl ?_
              refine g_iconst F (q := 93) (v := 3) (dk dX7_findMarks 57 rfl) rfl (by decide) ?_
              refine g_callVI F (q := 96) (av := [.int 0, .int (nI i), .int 3]) (st := [.int (r (46 + 50 * 0 + 5 * i + 1)), .int (r (146 + 100 * 0 + 10 * i + e)), .int (nI ((mC r e i))), .ref (ad 240)]) (c_X7_come (k := 0) (m := i) (w := 3) hc3 hc4 (by first | assumption | decide | omega)) kv_X7_come tq_770 hc3 rfl (by omega) ⟨rfl, rfl⟩ (by decide) ⟨Nat.le_refl _, Nat.le_refl _⟩ rfl rfl (Nat.le_of_ble_eq_true rfl) (dk dX7_findMarks 58 rfl) rfl (fun r93 E93 hp93 => ?_)
              obtain ⟨rfl, rfl⟩ := hp93
              refine g_aload_n F (q := 97) (dk dX7_findMarks 59 rfl) rfl rfl 1 rfl ?_
              refine g_iconst F (q := 98) (v := 0) (dk dX7_findMarks 60 rfl) rfl (by decide) ?_
              refine g_iload_n F (q := 99) (dk dX7_findMarks 61 rfl) rfl rfl 3 rfl ?_
              refine g_iconst F (q := 100) (v := 0) (dk dX7_findMarks 62 rfl) rfl (by decide) ?_
              refine g_callVI F (q := 103) (av := [.int 0, .int (nI i), .int 0]) (st := [.int (r (46 + 50 * 0 + 5 * i + 3)), .int (r (46 + 50 * 0 + 5 * i + 1)), .int (r (146 + 100 * 0 + 10 * i + e)), .int (nI ((mC r e i))), .ref (ad 240)]) (c_X7_come (k := 0) (m := i) (w := 0) hc3 hc4 (by first | assumption | decide | omega)) kv_X7_come tq_770 hc3 rfl (by omega) ⟨rfl, rfl⟩ (by decide) ⟨Nat.le_refl _, Nat.le_refl _⟩ rfl rfl (Nat.le_of_ble_eq_true rfl) (dk dX7_findMarks 63 rfl) rfl (fun r100 E100 hp100 => ?_)
              obtain ⟨rfl, rfl⟩ := hp100
              refine g_aload_n F (q := 104) (dk dX7_findMarks 64 rfl) rfl rfl 1 rfl ?_
              refine g_iload_n F (q := 105) (dk dX7_findMarks 65 rfl) rfl rfl 2 rfl ?_
              refine g_iconst F (q := 106) (v := 0) (dk dX7_findMarks 66 rfl) rfl (by decide) ?_
              refine g_callVI F (q := 109) (av := [.int (nI e), .int 0]) (st := [.int (r (46 + 50 * 0 + 5 * i + 0)), .int (r (46 + 50 * 0 + 5 * i + 3)), .int (r (46 + 50 * 0 + 5 * i + 1)), .int (r (146 + 100 * 0 + 10 * i + e)), .int (nI ((mC r e i))), .ref (ad 240)]) (c_X7_of (e := e) (w := 0) hc3 hc4 (by first | assumption | decide | omega)) kv_X7_of tq_718 hc3 rfl (by omega) ⟨rfl, rfl⟩ (by decide) ⟨Nat.le_refl _, Nat.le_refl _⟩ rfl rfl (Nat.le_of_ble_eq_true rfl) (dk dX7_findMarks 67 rfl) rfl (fun r106 E106 hp106 => ?_)
              obtain ⟨rfl, rfl⟩ := hp106
              refine g_callSI F (q := 112) (av := [.int (r (46 + 50 * 0 + 5 * i + 0)), .int (r (6 + 4 * e + 0))]) (st := [.int (r (46 + 50 * 0 + 5 * i + 3)), .int (r (46 + 50 * 0 + 5 * i + 1)), .int (r (146 + 100 * 0 + 10 * i + e)), .int (nI ((mC r e i))), .ref (ad 240)]) (c_X7_far (a := (r (46 + 50 * 0 + 5 * i + 0))) (b := (r (6 + 4 * e + 0)))) ks_X7_far tq_747 ⟨rfl, rfl⟩ (by decide) ⟨Nat.le_refl _, Nat.le_refl _⟩ rfl rfl (Nat.le_of_ble_eq_true rfl) (dk dX7_findMarks 68 rfl) rfl (fun r109 E109 hp109 => ?_)
              obtain ⟨rfl, rfl⟩ := hp109
              refine g_imul F (q := 113) (dk dX7_findMarks 69 rfl) rfl ?_
              refine g_iadd F (q := 114) (dk dX7_findMarks 70 rfl) rfl ?_
              refine g_isub F (q := 115) (dk dX7_findMarks 71 rfl) rfl ?_
              have hc5 := (hO72 240 (by omega)).trans her
              refine g_iast F (q := 116) ((mC r e i)) hc5 (by omega) rfl (by omega) (by decide) (dk dX7_findMarks 72 rfl) rfl (fun E115 hE115 hO115 => ?_)
              refine g_aload_n F (q := 117) (dk dX7_findMarks 73 rfl) rfl rfl 1 rfl ?_
              have hc6 := (hO115 233 (by omega)).trans hc3
              refine g_getf F (q := 120) hc6 rfl inX7 (by omega) (j := 13) (by decide) tq_636 rfl rfl (dk dX7_findMarks 74 rfl) rfl ?_
              refine g_aload_n F (q := 121) (dk dX7_findMarks 75 rfl) rfl rfl 1 rfl ?_
              refine g_getf F (q := 124) hc6 rfl inX7 (by omega) (j := 10) (by decide) tq_633 rfl rfl (dk dX7_findMarks 76 rfl) rfl ?_
              refine g_iload_n F (q := 125) (dk dX7_findMarks 77 rfl) rfl rfl 3 rfl ?_
              have hc7 := (hO72 241 (by omega)).trans hth
              have hc8 := (hO115 241 (by omega)).trans hc7
              refine g_iast F (q := 126) ((mC r e i)) hc8 (by omega) rfl (by omega) (by decide) (dk dX7_findMarks 78 rfl) rfl (fun E125 hE125 hO125 => ?_)
              refine g_aload_n F (q := 127) (dk dX7_findMarks 79 rfl) rfl rfl 1 rfl ?_
              refine g_dup F (q := 128) (dk dX7_findMarks 80 rfl) rfl rfl ?_
              have hc9 := (hO125 233 (by omega)).trans hc6
              refine g_getf F (q := 131) hc9 rfl inX7 (by omega) (j := 10) (by decide) tq_633 rfl rfl (dk dX7_findMarks 81 rfl) rfl ?_
              refine g_iconst F (q := 132) (v := 1) (dk dX7_findMarks 82 rfl) rfl (by decide) ?_
              refine g_iadd F (q := 133) (dk dX7_findMarks 83 rfl) rfl ?_
              refine g_sti (nA rfl rfl) ?_
              refine g_putf F (q := 136) (ty := .int) hc9 rfl inX7 tyX7 tyX7_ok nmX7 (by omega) (j := 10) (by decide) tq_633 rfl rfl (by decide +kernel) rfl rfl (Nat.le_of_ble_eq_true rfl) (dk dX7_findMarks 84 rfl) rfl (fun E133 hE133 hO133 => ?_)
              have hE133 : E133 233 = .inr (7, [.ref (ad 234), .ref (ad 235), .ref (ad 236), .ref (ad 237), .int s0, .int s1, .ref (ad 238), .int s2, .int s3, .int s4, .int (nI (((mC r e i) + 1))), .ref (ad 239), .ref (ad 240), .ref (ad 241), .long lo, .long mo, .ref (ad 242)]) := hE133
              refine g_iinc F (q := 139) (v := (nI ((i + 1)))) (lv' := [(2, .int (nI ((i + 1)))), (3, .int (r (146 + 100 * 0 + 10 * i + e))), (0, .ref (ad 233)), (1, .int (nI e))]) (dk dX7_findMarks 85 rfl) rfl 3 rfl (nI_1 _) (Nat.le_of_ble_eq_true rfl) rfl ?_
              refine g_goto F (tgt := 7) (dk dX7_findMarks 86 rfl) (by decide) ?_
              have hg : mG r e i (mC r e i) (mRd r e i) := ⟨c28, c38, Or.inl nc45⟩
              have hc10 := (hO115 239 (by omega)).trans hE72
              have hc11 := (hO125 239 (by omega)).trans hc10
              have hc12 := (hO133 239 (by omega)).trans hc11
              have hc13 := (hO125 240 (by omega)).trans hE115
              have hc14 := (hO133 240 (by omega)).trans hc13
              have hc15 := (hO133 241 (by omega)).trans hE125
              refine g_lv (lv' := [(0, .ref (ad 233)), (1, .int (nI e)), (2, .int (nI ((i + 1))))]) [2, 3, 0] rfl ?_
              exact ih (i + 1) (upd rd1 ((mC r e i)) (r (146 + 100 * 0 + 10 * i + e))) (upd er1 ((mC r e i)) ((r (146 + 100 * 0 + 10 * i + e)) - ((r (46 + 50 * 0 + 5 * i + 1)) + ((r (46 + 50 * 0 + 5 * i + 3)) * (far (r (46 + 50 * 0 + 5 * i + 0)) (r (6 + 4 * e + 0))))))) (upd th1 ((mC r e i)) (nI i)) E133 (by omega) (by rw [mC_t hg]; exact hE133) hc12 hc14 hc15 (fun j hj => (((((hO133 j (by omega)).trans (hO125 j (by omega))).trans (hO115 j (by omega))).trans (hO72 j (by omega))).trans (hfr7 j (by omega)))) (by omega) (mH_t hg hH rfl rfl)
            · have nc45 : ¬ (mC r e i) = 0 := fun h => c45 ((nI_eq (a := (mC r e i)) (b := 0) (by omega) (by omega)).mpr h)
              refine g_iload_n F (q := 49) (dk dX7_findMarks 29 rfl) rfl rfl 0 rfl ?_
              refine g_aload_n F (q := 50) (dk dX7_findMarks 30 rfl) rfl rfl 1 rfl ?_
              refine g_getf F (q := 53) h3 rfl inX7 (by omega) (j := 11) (by decide) tq_634 rfl rfl (dk dX7_findMarks 31 rfl) rfl ?_
              refine g_aload_n F (q := 54) (dk dX7_findMarks 32 rfl) rfl rfl 1 rfl ?_
              refine g_getf F (q := 57) h3 rfl inX7 (by omega) (j := 10) (by decide) tq_633 rfl rfl (dk dX7_findMarks 33 rfl) rfl ?_
              refine g_iconst F (q := 58) (v := 1) (dk dX7_findMarks 34 rfl) rfl (by decide) ?_
              refine g_isub F (q := 59) (dk dX7_findMarks 35 rfl) rfl ?_
              refine g_sti (y := (nI ((mC r e i - 1)))) (nI_sub1 (by omega)) ?_
              refine g_iald F (q := 60) ((mC r e i - 1)) hrd (by omega) rfl (by omega) (by decide) (dk dX7_findMarks 36 rfl) rfl ?_
              refine g_sti (y := (mRd r e i (mC r e i - 1))) (hH _ (by omega)).1 ?_
              refine g_icmp_le F (q := 63) (tgt := 136) (dk dX7_findMarks 37 rfl) (by decide) rfl (fun c60 => ?_) (fun c60 => ?_)
              · refine g_iinc F (q := 139) (v := (nI ((i + 1)))) (lv' := [(2, .int (nI ((i + 1)))), (3, .int (r (146 + 100 * 0 + 10 * i + e))), (0, .ref (ad 233)), (1, .int (nI e))]) (dk dX7_findMarks 85 rfl) rfl 3 rfl (nI_1 _) (Nat.le_of_ble_eq_true rfl) rfl ?_
                refine g_goto F (tgt := 7) (dk dX7_findMarks 86 rfl) (by decide) ?_
                have hg : ¬ mG r e i (mC r e i) (mRd r e i) := fun h => h.2.2.elim (fun q => nc45 q) (fun q => absurd q (Int32.not_lt.mpr c60))
                refine g_lv (lv' := [(0, .ref (ad 233)), (1, .int (nI e)), (2, .int (nI ((i + 1))))]) [2, 3, 0] rfl ?_
                exact ih (i + 1) rd1 er1 th1 E1 (by omega) (by rw [mC_f hg]; exact h3) hrd her hth (fun j hj => (hfr7 j (by omega))) (by omega) (mH_f hg hH)
              · refine g_aload_n F (q := 64) (dk dX7_findMarks 38 rfl) rfl rfl 1 rfl ?_
                refine g_getf F (q := 67) h3 rfl inX7 (by omega) (j := 11) (by decide) tq_634 rfl rfl (dk dX7_findMarks 39 rfl) rfl ?_
                refine g_aload_n F (q := 68) (dk dX7_findMarks 40 rfl) rfl rfl 1 rfl ?_
                refine g_getf F (q := 71) h3 rfl inX7 (by omega) (j := 10) (by decide) tq_633 rfl rfl (dk dX7_findMarks 41 rfl) rfl ?_
                refine g_iload_n F (q := 72) (dk dX7_findMarks 42 rfl) rfl rfl 0 rfl ?_
                refine g_iast F (q := 73) ((mC r e i)) hrd (by omega) rfl (by omega) (by decide) (dk dX7_findMarks 43 rfl) rfl (fun E72 hE72 hO72 => ?_)
                refine g_aload_n F (q := 74) (dk dX7_findMarks 44 rfl) rfl rfl 1 rfl ?_
                have hc16 := (hO72 233 (by omega)).trans h3
                refine g_getf F (q := 77) hc16 rfl inX7 (by omega) (j := 12) (by decide) tq_635 rfl rfl (dk dX7_findMarks 45 rfl) rfl ?_
                refine g_aload_n F (q := 78) (dk dX7_findMarks 46 rfl) rfl rfl 1 rfl ?_
                refine g_getf F (q := 81) hc16 rfl inX7 (by omega) (j := 10) (by decide) tq_633 rfl rfl (dk dX7_findMarks 47 rfl) rfl ?_
                refine g_iload_n F (q := 82) (dk dX7_findMarks 48 rfl) rfl rfl 0 rfl ?_
                refine g_aload_n F (q := 83) (dk dX7_findMarks 49 rfl) rfl rfl 1 rfl ?_
                refine g_iconst F (q := 84) (v := 0) (dk dX7_findMarks 50 rfl) rfl (by decide) ?_
                refine g_iload_n F (q := 85) (dk dX7_findMarks 51 rfl) rfl rfl 3 rfl ?_
                refine g_iconst F (q := 86) (v := 1) (dk dX7_findMarks 52 rfl) rfl (by decide) ?_
                have hc17 := (hO72 234 (by omega)).trans hc2
                refine g_callVI F (q := 89) (av := [.int 0, .int (nI i), .int 1]) (st := [.int (r (146 + 100 * 0 + 10 * i + e)), .int (nI ((mC r e i))), .ref (ad 240)]) (c_X7_come (k := 0) (m := i) (w := 1) hc16 hc17 (by first | assumption | decide | omega)) kv_X7_come tq_770 hc16 rfl (by omega) ⟨rfl, rfl⟩ (by decide) ⟨Nat.le_refl _, Nat.le_refl _⟩ rfl rfl (Nat.le_of_ble_eq_true rfl) (dk dX7_findMarks 53 rfl) rfl (fun r86 E86 hp86 => ?_)
                obtain ⟨rfl, rfl⟩ := hp86
                refine g_aload_n F (q := 90) (dk dX7_findMarks 54 rfl) rfl rfl 1 rfl ?_
                refine g_iconst F (q := 91) (v := 0) (dk dX7_findMarks 55 rfl) rfl (by decide) ?_
                refine g_iload_n F (q := 92) (dk dX7_findMarks 56 rfl) rfl rfl 3 rfl ?_
                refine g_iconst F (q := 93) (v := 3) (dk dX7_findMarks 57 rfl) rfl (by decide) ?_
                refine g_callVI F (q := 96) (av := [.int 0, .int (nI i), .int 3]) (st := [.int (r (46 + 50 * 0 + 5 * i + 1)), .int (r (146 + 100 * 0 + 10 * i + e)), .int (nI ((mC r e i))), .ref (ad 240)]) (c_X7_come (k := 0) (m := i) (w := 3) hc16 hc17 (by first | assumption | decide | omega)) kv_X7_come tq_770 hc16 rfl (by omega) ⟨rfl, rfl⟩ (by decide) ⟨Nat.le_refl _, Nat.le_refl _⟩ rfl rfl (Nat.le_of_ble_eq_true rfl) (dk dX7_findMarks 58 rfl) rfl (fun r93 E93 hp93 => ?_)
                obtain ⟨rfl, rfl⟩ := hp93
                refine g_aload_n F (q := 97) (dk dX7_findMarks 59 rfl) rfl rfl 1 rfl ?_
                refine g_iconst F (q := 98) (v := 0) (dk dX7_findMarks 60 rfl) rfl (by decide) ?_
                refine g_iload_n F (q := 99) (dk dX7_findMarks 61 rfl) rfl rfl 3 rfl ?_
                refine g_iconst F (q := 100) (v := 0) (dk dX7_findMarks 62 rfl) rfl (by decide) ?_
                refine g_callVI F (q := 103) (av := [.int 0, .int (nI i), .int 0]) (st := [.int (r (46 + 50 * 0 + 5 * i + 3)), .int (r (46 + 50 * 0 + 5 * i + 1)), .int (r (146 + 100 * 0 + 10 * i + e)), .int (nI ((mC r e i))), .ref (ad 240)]) (c_X7_come (k := 0) (m := i) (w := 0) hc16 hc17 (by first | assumption | decide | omega)) kv_X7_come tq_770 hc16 rfl (by omega) ⟨rfl, rfl⟩ (by decide) ⟨Nat.le_refl _, Nat.le_refl _⟩ rfl rfl (Nat.le_of_ble_eq_true rfl) (dk dX7_findMarks 63 rfl) rfl (fun r100 E100 hp100 => ?_)
                obtain ⟨rfl, rfl⟩ := hp100
                refine g_aload_n F (q := 104) (dk dX7_findMarks 64 rfl) rfl rfl 1 rfl ?_
                refine g_iload_n F (q := 105) (dk dX7_findMarks 65 rfl) rfl rfl 2 rfl ?_
                refine g_iconst F (q := 106) (v := 0) (dk dX7_findMarks 66 rfl) rfl (by decide) ?_
                refine g_callVI F (q := 109) (av := [.int (nI e), .int 0]) (st := [.int (r (46 + 50 * 0 + 5 * i + 0)), .int (r (46 + 50 * 0 + 5 * i + 3)), .int (r (46 + 50 * 0 + 5 * i + 1)), .int (r (146 + 100 * 0 + 10 * i + e)), .int (nI ((mC r e i))), .ref (ad 240)]) (c_X7_of (e := e) (w := 0) hc16 hc17 (by first | assumption | decide | omega)) kv_X7_of tq_718 hc16 rfl (by omega) ⟨rfl, rfl⟩ (by decide) ⟨Nat.le_refl _, Nat.le_refl _⟩ rfl rfl (Nat.le_of_ble_eq_true rfl) (dk dX7_findMarks 67 rfl) rfl (fun r106 E106 hp106 => ?_)
                obtain ⟨rfl, rfl⟩ := hp106
                refine g_callSI F (q := 112) (av := [.int (r (46 + 50 * 0 + 5 * i + 0)), .int (r (6 + 4 * e + 0))]) (st := [.int (r (46 + 50 * 0 + 5 * i + 3)), .int (r (46 + 50 * 0 + 5 * i + 1)), .int (r (146 + 100 * 0 + 10 * i + e)), .int (nI ((mC r e i))), .ref (ad 240)]) (c_X7_far (a := (r (46 + 50 * 0 + 5 * i + 0))) (b := (r (6 + 4 * e + 0)))) ks_X7_far tq_747 ⟨rfl, rfl⟩ (by decide) ⟨Nat.le_refl _, Nat.le_refl _⟩ rfl rfl (Nat.le_of_ble_eq_true rfl) (dk dX7_findMarks 68 rfl) rfl (fun r109 E109 hp109 => ?_)
                obtain ⟨rfl, rfl⟩ := hp109
                refine g_imul F (q := 113) (dk dX7_findMarks 69 rfl) rfl ?_
                refine g_iadd F (q := 114) (dk dX7_findMarks 70 rfl) rfl ?_
                refine g_isub F (q := 115) (dk dX7_findMarks 71 rfl) rfl ?_
                have hc18 := (hO72 240 (by omega)).trans her
                refine g_iast F (q := 116) ((mC r e i)) hc18 (by omega) rfl (by omega) (by decide) (dk dX7_findMarks 72 rfl) rfl (fun E115 hE115 hO115 => ?_)
                refine g_aload_n F (q := 117) (dk dX7_findMarks 73 rfl) rfl rfl 1 rfl ?_
                have hc19 := (hO115 233 (by omega)).trans hc16
                refine g_getf F (q := 120) hc19 rfl inX7 (by omega) (j := 13) (by decide) tq_636 rfl rfl (dk dX7_findMarks 74 rfl) rfl ?_
                refine g_aload_n F (q := 121) (dk dX7_findMarks 75 rfl) rfl rfl 1 rfl ?_
                refine g_getf F (q := 124) hc19 rfl inX7 (by omega) (j := 10) (by decide) tq_633 rfl rfl (dk dX7_findMarks 76 rfl) rfl ?_
                refine g_iload_n F (q := 125) (dk dX7_findMarks 77 rfl) rfl rfl 3 rfl ?_
                have hc20 := (hO72 241 (by omega)).trans hth
                have hc21 := (hO115 241 (by omega)).trans hc20
                refine g_iast F (q := 126) ((mC r e i)) hc21 (by omega) rfl (by omega) (by decide) (dk dX7_findMarks 78 rfl) rfl (fun E125 hE125 hO125 => ?_)
                refine g_aload_n F (q := 127) (dk dX7_findMarks 79 rfl) rfl rfl 1 rfl ?_
                refine g_dup F (q := 128) (dk dX7_findMarks 80 rfl) rfl rfl ?_
                have hc22 := (hO125 233 (by omega)).trans hc19
                refine g_getf F (q := 131) hc22 rfl inX7 (by omega) (j := 10) (by decide) tq_633 rfl rfl (dk dX7_findMarks 81 rfl) rfl ?_
                refine g_iconst F (q := 132) (v := 1) (dk dX7_findMarks 82 rfl) rfl (by decide) ?_
                refine g_iadd F (q := 133) (dk dX7_findMarks 83 rfl) rfl ?_
                refine g_sti (nA rfl rfl) ?_
                refine g_putf F (q := 136) (ty := .int) hc22 rfl inX7 tyX7 tyX7_ok nmX7 (by omega) (j := 10) (by decide) tq_633 rfl rfl (by decide +kernel) rfl rfl (Nat.le_of_ble_eq_true rfl) (dk dX7_findMarks 84 rfl) rfl (fun E133 hE133 hO133 => ?_)
                have hE133 : E133 233 = .inr (7, [.ref (ad 234), .ref (ad 235), .ref (ad 236), .ref (ad 237), .int s0, .int s1, .ref (ad 238), .int s2, .int s3, .int s4, .int (nI (((mC r e i) + 1))), .ref (ad 239), .ref (ad 240), .ref (ad 241), .long lo, .long mo, .ref (ad 242)]) := hE133
                refine g_iinc F (q := 139) (v := (nI ((i + 1)))) (lv' := [(2, .int (nI ((i + 1)))), (3, .int (r (146 + 100 * 0 + 10 * i + e))), (0, .ref (ad 233)), (1, .int (nI e))]) (dk dX7_findMarks 85 rfl) rfl 3 rfl (nI_1 _) (Nat.le_of_ble_eq_true rfl) rfl ?_
                refine g_goto F (tgt := 7) (dk dX7_findMarks 86 rfl) (by decide) ?_
                have hg : mG r e i (mC r e i) (mRd r e i) := ⟨c28, c38, Or.inr (Int32.not_le.mp c60)⟩
                have hc23 := (hO115 239 (by omega)).trans hE72
                have hc24 := (hO125 239 (by omega)).trans hc23
                have hc25 := (hO133 239 (by omega)).trans hc24
                have hc26 := (hO125 240 (by omega)).trans hE115
                have hc27 := (hO133 240 (by omega)).trans hc26
                have hc28 := (hO133 241 (by omega)).trans hE125
                refine g_lv (lv' := [(0, .ref (ad 233)), (1, .int (nI e)), (2, .int (nI ((i + 1))))]) [2, 3, 0] rfl ?_
                exact ih (i + 1) (upd rd1 ((mC r e i)) (r (146 + 100 * 0 + 10 * i + e))) (upd er1 ((mC r e i)) ((r (146 + 100 * 0 + 10 * i + e)) - ((r (46 + 50 * 0 + 5 * i + 1)) + ((r (46 + 50 * 0 + 5 * i + 3)) * (far (r (46 + 50 * 0 + 5 * i + 0)) (r (6 + 4 * e + 0))))))) (upd th1 ((mC r e i)) (nI i)) E133 (by omega) (by rw [mC_t hg]; exact hE133) hc25 hc27 hc28 (fun j hj => (((((hO133 j (by omega)).trans (hO125 j (by omega))).trans (hO115 j (by omega))).trans (hO72 j (by omega))).trans (hfr7 j (by omega)))) (by omega) (mH_t hg hH rfl rfl)
  refine g_lv (lv' := [(0, .ref (ad 233)), (1, .int (nI e)), (2, .int 0)]) [1, 2, 0] rfl ?_
  have hc29 := (hO2 239 (by omega)).trans h239
  have hc30 := (hO2 240 (by omega)).trans h240
  have hc31 := (hO2 241 (by omega)).trans h241
  exact K7 _ 0 rd er th E2 (Nat.lt_succ_self _) hE2 hc29 hc30 hc31 (fun j _ => rfl) (by omega) mH_0
theorem kv_X7_findMarks : KV yX7_findMarks "ThumpEarsModel" cX7_findMarks 4 (none) 1 := ⟨tq_820, tq_27, tq_47, tq_821, by decide +kernel⟩
end
section
theorem eA_cg {n : Nat} {R Er R' Er' : Nat → Int32} {c : Int32} (h : ∀ j, j < n → R j = R' j ∧ Er j = Er' j) : eA n R Er c = eA n R' Er' c := by
  have hf : ∀ m, m < n → fI R c m = fI R' c m := by
    intro m
    induction m with
    | zero => intro _; rfl
    | succ m ih =>
      intro hm
      unfold fI
      rw [(h _ hm).1, ih (by omega)]
  unfold eA
  by_cases h2 : n < 2
  · rw [if_pos h2, if_pos h2]
    by_cases h0 : n = 0
    · rw [if_pos h0, if_pos h0]
    · rw [if_neg h0, if_neg h0, (h 0 (by omega)).2]
  · rw [if_neg h2, if_neg h2, hf _ (by omega)]
    have hk := fI_le (R := R') (c := c) (n - 2)
    have h3 := h (fI R' c (n - 2)) (by omega)
    have h4 := h (fI R' c (n - 2) + 1) (by omega)
    rw [h3.1, h3.2, h4.1, h4.2]
/-- the error of an ear at a reading, in thousandths -/
def errR (r : Nat → Int32) (e nt : Nat) (c : Int32) : Int64 := eA (mC r e nt) (mRd r e nt) (mEr r e nt) c
/-- what an ear wrote down of a knock, put right -/
def rgt (r : Nat → Int32) (nt kn e : Nat) : Int64 := 1000 * (r (146 + 100 * 1 + 10 * kn + e)).toInt64 - errR r e nt (r (146 + 100 * 1 + 10 * kn + e))
def hC0 (r : Nat → Int32) (e : Nat) : Nat → Int32
  | 0 => 0
  | k + 1 => hC0 r e k + (if r (146 + 100 * 1 + 10 * k + e) = MISS then 0 else 1)
/-- the ears that heard a knock, in their order: how many below e, and which -/
def hF (r : Nat → Int32) (kn : Nat) : Nat → Nat × (Nat → Nat)
  | 0 => (0, fun _ => 0)
  | e + 1 => if r (146 + 100 * 1 + 10 * kn + e) = MISS then hF r kn e else ((hF r kn e).1 + 1, fun j => if j = (hF r kn e).1 then e else (hF r kn e).2 j)
def hC (r : Nat → Int32) (kn e : Nat) : Nat := (hF r kn e).1
def hI (r : Nat → Int32) (kn e : Nat) : Nat → Nat := (hF r kn e).2
theorem hF_t {r : Nat → Int32} {kn e : Nat} (h : ¬ r (146 + 100 * 1 + 10 * kn + e) = MISS) : hC r kn (e + 1) = hC r kn e + 1 ∧ hI r kn (e + 1) = fun j => if j = hC r kn e then e else hI r kn e j := by
  unfold hC hI
  conv => lhs; lhs; unfold hF
  rw [if_neg h]
  refine ⟨rfl, ?_⟩
  conv => lhs; unfold hF
  rw [if_neg h]
theorem hF_f {r : Nat → Int32} {kn e : Nat} (h : r (146 + 100 * 1 + 10 * kn + e) = MISS) : hC r kn (e + 1) = hC r kn e ∧ hI r kn (e + 1) = hI r kn e := by
  unfold hC hI
  conv => lhs; lhs; unfold hF
  rw [if_pos h]
  refine ⟨rfl, ?_⟩
  conv => lhs; unfold hF
  rw [if_pos h]
theorem hC_le {r : Nat → Int32} {kn : Nat} : ∀ e, hC r kn e ≤ e
  | 0 => Nat.le_refl _
  | e + 1 => by
    have := hC_le (r := r) (kn := kn) e
    by_cases h : r (146 + 100 * 1 + 10 * kn + e) = MISS
    · rw [(hF_f h).1]; omega
    · rw [(hF_t h).1]; omega
theorem hI_in {r : Nat → Int32} {kn : Nat} : ∀ e j, j < hC r kn e → hI r kn e j < e ∧ ¬ r (146 + 100 * 1 + 10 * kn + hI r kn e j) = MISS
  | 0, j, h => absurd h (Nat.not_lt_zero _)
  | e + 1, j, h => by
    by_cases g : r (146 + 100 * 1 + 10 * kn + e) = MISS
    · rw [(hF_f g).1] at h
      rw [(hF_f g).2]
      have := hI_in e j h
      exact ⟨by omega, this.2⟩
    · rw [(hF_t g).1] at h
      rw [(hF_t g).2]
      by_cases q : j = hC r kn e
      · simp only [if_pos q]; exact ⟨by omega, g⟩
      · simp only [if_neg q]
        have := hI_in (r := r) (kn := kn) e j (by omega)
        exact ⟨by omega, this.2⟩
def hN (r : Nat → Int32) (kn : Nat) : Nat → Int32
  | 0 => 0
  | e + 1 => hN r kn e + (if r (146 + 100 * 1 + 10 * kn + e) = MISS then 0 else 1)
theorem hN_t {r : Nat → Int32} {kn e : Nat} (h : ¬ r (146 + 100 * 1 + 10 * kn + e) = MISS) : nI (hC r kn e) + 1 = nI (hC r kn (e + 1)) := by rw [(hF_t h).1, nI_1]
theorem hN_f {r : Nat → Int32} {kn e : Nat} (h : r (146 + 100 * 1 + 10 * kn + e) = MISS) : nI (hC r kn e) + 0 = nI (hC r kn (e + 1)) := by rw [(hF_f h).1]; simp
/-- knocks that an ear heard -/
def kC (r : Nat → Int32) (e : Nat) : Nat → Nat
  | 0 => 0
  | k + 1 => if r (146 + 100 * 1 + 10 * k + e) = MISS then kC r e k else kC r e k + 1
theorem kC_le {r : Nat → Int32} {e : Nat} : ∀ k, kC r e k ≤ k
  | 0 => Nat.le_refl _
  | k + 1 => by
    have := kC_le (r := r) (e := e) k
    unfold kC
    split <;> omega
theorem kN_t {r : Nat → Int32} {e k : Nat} (h : ¬ r (146 + 100 * 1 + 10 * k + e) = MISS) : nI (kC r e k) + 1 = nI (kC r e (k + 1)) := by rw [show kC r e (k + 1) = kC r e k + 1 from if_neg h, nI_1]
theorem kN_f {r : Nat → Int32} {e k : Nat} (h : r (146 + 100 * 1 + 10 * k + e) = MISS) : nI (kC r e k) + 0 = nI (kC r e (k + 1)) := by rw [show kC r e (k + 1) = kC r e k from if_pos h]; simp
/-- from where a knock would have begun, by one ear -/
def bg (r : Nat → Int32) (nt kn : Nat) (x : Int32) (e : Nat) : Int64 := rgt r nt kn e - 1000 * (r (46 + 50 * 1 + 5 * kn + 3)).toInt64 * (far x (r (6 + 4 * e + 0))).toInt64
def mnF (b : Nat → Int64) : Nat → Int64
  | 0 => b 0
  | i + 1 => if b (i + 1) < mnF b i then b (i + 1) else mnF b i
def mxF (b : Nat → Int64) : Nat → Int64
  | 0 => b 0
  | i + 1 => if mxF b i < b (i + 1) then b (i + 1) else mxF b i
theorem mnF_cg {b b' : Nat → Int64} : ∀ n, (∀ j, j ≤ n → b j = b' j) → mnF b n = mnF b' n
  | 0, h => h 0 (Nat.le_refl _)
  | n + 1, h => by
    unfold mnF
    rw [mnF_cg n (fun j hj => h j (by omega)), h (n + 1) (Nat.le_refl _)]
theorem mxF_cg {b b' : Nat → Int64} : ∀ n, (∀ j, j ≤ n → b j = b' j) → mxF b n = mxF b' n
  | 0, h => h 0 (Nat.le_refl _)
  | n + 1, h => by
    unfold mxF
    rw [mxF_cg n (fun j hj => h j (by omega)), h (n + 1) (Nat.le_refl _)]
/-- the least and the greatest beginning of the ears below e, and the spread -/
def lsB (r : Nat → Int32) (nt kn : Nat) (x : Int32) (e : Nat) : Int64 := mnF (fun i => bg r nt kn x (hI r kn e i)) (hC r kn e - 1)
def msB (r : Nat → Int32) (nt kn : Nat) (x : Int32) (e : Nat) : Int64 := mxF (fun i => bg r nt kn x (hI r kn e i)) (hC r kn e - 1)
def spW (r : Nat → Int32) (ne nt kn : Nat) (x : Int32) : Int64 := msB r nt kn x ne - lsB r nt kn x ne
theorem lsB_f {r : Nat → Int32} {nt kn e : Nat} {x : Int32} (h : r (146 + 100 * 1 + 10 * kn + e) = MISS) : lsB r nt kn x (e + 1) = lsB r nt kn x e ∧ msB r nt kn x (e + 1) = msB r nt kn x e := by
  unfold lsB msB
  rw [(hF_f h).1, (hF_f h).2]
  exact ⟨rfl, rfl⟩
theorem lsB_0 {r : Nat → Int32} {nt kn e : Nat} {x : Int32} (h : ¬ r (146 + 100 * 1 + 10 * kn + e) = MISS) (h0 : hC r kn e = 0) : lsB r nt kn x (e + 1) = bg r nt kn x e ∧ msB r nt kn x (e + 1) = bg r nt kn x e := by
  unfold lsB msB
  rw [(hF_t h).1, (hF_t h).2, h0]
  exact ⟨rfl, rfl⟩
theorem lsB_t {r : Nat → Int32} {nt kn e : Nat} {x : Int32} (h : ¬ r (146 + 100 * 1 + 10 * kn + e) = MISS) (h0 : 0 < hC r kn e) : lsB r nt kn x (e + 1) = (if bg r nt kn x e < lsB r nt kn x e then bg r nt kn x e else lsB r nt kn x e) ∧ msB r nt kn x (e + 1) = (if msB r nt kn x e < bg r nt kn x e then bg r nt kn x e else msB r nt kn x e) := by
  obtain ⟨c, hc⟩ : ∃ c, hC r kn e = c + 1 := ⟨hC r kn e - 1, by omega⟩
  have e1 : ∀ j, j ≤ c → bg r nt kn x (if j = hC r kn e then e else hI r kn e j) = bg r nt kn x (hI r kn e j) := fun j hj => by rw [if_neg (by omega)]
  have e2 : (if c + 1 = hC r kn e then e else hI r kn e (c + 1)) = e := if_pos (by omega)
  unfold lsB msB
  rw [(hF_t h).1, (hF_t h).2, show hC r kn e + 1 - 1 = c + 1 by omega, show hC r kn e - 1 = c by omega]
  constructor
  · conv => lhs; unfold mnF
    rw [mnF_cg c e1]
    simp only [e2]
  · conv => lhs; unfold mxF
    rw [mxF_cg c e1]
    simp only [e2]
/-- the place with the least spread, of several the lowest, and that spread -/
def bsF (w : Nat → Int64) : Nat → Nat × Int64
  | 0 => (0, w 0)
  | n + 1 => if w (n + 1) < (bsF w n).2 then (n + 1, w (n + 1)) else bsF w n
def plcN (r : Nat → Int32) (ne nt kn n : Nat) : Nat := (bsF (fun x => spW r ne nt kn (nI x)) n).1
def plc (r : Nat → Int32) (ne nt kn : Nat) : Nat := plcN r ne nt kn 1000
theorem plc_at {r : Nat → Int32} {ne nt kn n : Nat} (h : n = 1000) : plc r ne nt kn = plcN r ne nt kn n := by rw [h]; rfl
theorem bsF_le {w : Nat → Int64} : ∀ n, (bsF w n).1 ≤ n ∧ (bsF w n).2 = w (bsF w n).1
  | 0 => ⟨Nat.le_refl _, rfl⟩
  | n + 1 => by
    unfold bsF
    split
    · exact ⟨Nat.le_refl _, rfl⟩
    · have := bsF_le (w := w) n
      exact ⟨by omega, this.2⟩
/-- the ear whose a is greatest, of several the first -/
def wsF (a : Nat → Int64) : Nat → Nat × Int64
  | 0 => (0, a 0)
  | i + 1 => if (wsF a i).2 < a (i + 1) then (i + 1, a (i + 1)) else wsF a i
theorem wsF_cg {b b' : Nat → Int64} : ∀ n, (∀ j, j ≤ n → b j = b' j) → wsF b n = wsF b' n
  | 0, h => by unfold wsF; rw [h 0 (Nat.le_refl _)]
  | n + 1, h => by
    unfold wsF
    rw [wsF_cg n (fun j hj => h j (by omega)), h (n + 1) (Nat.le_refl _)]
theorem wsF_le {a : Nat → Int64} : ∀ n, (wsF a n).1 ≤ n
  | 0 => Nat.le_refl _
  | n + 1 => by
    unfold wsF
    split
    · exact Nat.le_refl _
    · have := wsF_le (a := a) n; omega
def ab64 (x : Int64) : Int64 := if x < 0 then -x else x
end
section
abbrev rm_X7_errorAt : Room := { frames := 2, cells := 0, slots := 0, locals := 46 }
set_option maxHeartbeats 4000000 in
set_option maxRecDepth 100000 in
theorem c_X7_errorAt {l : Launch} {D : va_G} {cA : Nat → ClassId} {ad : Nat → Nat} {E : Nat → va_E} {s0 s1 s2 s3 s4 s5 : Int32} {lo mo : Int64} {r rd er th : Nat → Int32} {ne nt nk : Nat} {e : Nat} {c : Int32} (h233 : E 233 = .inr (7, [.ref (ad 234), .ref (ad 235), .ref (ad 236), .ref (ad 237), .int s0, .int s1, .ref (ad 238), .int s2, .int s3, .int s4, .int s5, .ref (ad 239), .ref (ad 240), .ref (ad 241), .long lo, .long mo, .ref (ad 242)])) (h234 : E 234 = .inl (cA 0, 346, .inl r)) (h239 : E 239 = .inl (cA 0, 10, .inl rd)) (h240 : E 240 = .inl (cA 0, 10, .inl er)) (h241 : E 241 = .inl (cA 0, 10, .inl th))  (he : e < 10) (hI : Inv r ne nt nk) : CtL l D cA yX7_errorAt cX7_errorAt 6 rm_X7_errorAt 243 ad E [.ref (ad 233), .int (nI e), .int c] (fun x E' => ∃ (m2 : Int32) (rd1 : Nat → Int32) (er1 : Nat → Int32) (th1 : Nat → Int32), (errR r e nt c) = x ∧ E' 233 = .inr (7, [.ref (ad 234), .ref (ad 235), .ref (ad 236), .ref (ad 237), .int s0, .int s1, .ref (ad 238), .int s2, .int s3, .int s4, .int m2, .ref (ad 239), .ref (ad 240), .ref (ad 241), .long lo, .long mo, .ref (ad 242)]) ∧ E' 239 = .inl (cA 0, 10, .inl rd1) ∧ E' 240 = .inl (cA 0, 10, .inl er1) ∧ E' 241 = .inl (cA 0, 10, .inl th1) ∧ ∀ j, (j ≠ 233 ∧ j ≠ 239 ∧ j ≠ 240 ∧ j ≠ 241) → E' j = E j) := by
  refine CtL.of (by decide +kernel) (Nat.le_of_ble_eq_true rfl) (fun X F hret => ?_)
  have F : Fr "ThumpEarsModel" cX7_errorAt 6 D cA X := F
  refine (show GG rm_X7_errorAt 6 l D X 0 0 243 ad E 0 [(0, .ref (ad 233)), (1, .int (nI e)), (2, .int c)] [] from ?_)
  refine g_aload_n F (q := 1) (dk dX7_errorAt 0 rfl) rfl rfl 0 rfl ?_
  refine g_iload_n F (q := 2) (dk dX7_errorAt 1 rfl) rfl rfl 1 rfl ?_
  refine g_callVV F (q := 5) (av := [.int (nI e)]) (st := []) (c_X7_findMarks (e := e) h233 h234 h239 h240 h241 (by first | assumption | decide | omega) hI.h1 hI.e1) kv_X7_findMarks tq_818 h233 rfl (by omega) ⟨rfl, rfl⟩ (by decide) ⟨Nat.le_refl _, Nat.le_refl _⟩ rfl rfl (Nat.le_of_ble_eq_true rfl) (dk dX7_errorAt 2 rfl) rfl (fun E2 hp2 => ?_)
  obtain ⟨rd1_2, er1_2, th1_2, hK233_2, hK239_2, hK240_2, hK241_2, hH_2, hF2⟩ := hp2
  have hml := mC_le (r := r) (e := e) nt
  have hnt := hI.e1
  refine g_aload_n F (q := 6) (dk dX7_errorAt 3 rfl) rfl rfl 0 rfl ?_
  refine g_getf F (q := 9) hK233_2 rfl inX7 (by omega) (j := 10) (by decide) tq_633 rfl rfl (dk dX7_errorAt 4 rfl) rfl ?_
  refine g_iconst F (q := 10) (v := 2) (dk dX7_errorAt 5 rfl) rfl (by decide) ?_
  refine g_icmp_ge F (q := 13) (tgt := 36) (dk dX7_errorAt 6 rfl) (by decide) rfl (fun c10 => ?_) (fun c10 => ?_)
  · have nc10 : 2 ≤ (mC r e nt) := (nI_leI (a := 2) (b := (mC r e nt)) (by omega) (by omega)).mp c10
    refine g_iconst F (q := 37) (v := 0) (dk dX7_errorAt 20 rfl) rfl (by decide) ?_
    refine g_istore_n F (q := 38) (lv' := [(3, .int 0), (0, .ref (ad 233)), (1, .int (nI e)), (2, .int c)]) (dk dX7_errorAt 21 rfl) rfl rfl (Nat.le_of_ble_eq_true rfl) rfl ?_
    have K38 : ∀ (fu : Nat) (k : Nat), 10 - k < fu → (hk : k ≤ mC r e nt - 2) → (hkle : k = 0 ∨ mRd r e nt k ≤ c) → GG rm_X7_errorAt 6 l D X 0 0 243 ad E2 38 [(0, .ref (ad 233)), (1, .int (nI e)), (2, .int c), (3, .int (nI k))] [] := by
      intro fu
      induction fu with
      | zero => intro k hfu_; exact absurd hfu_ (Nat.not_lt_zero _)
      | succ fu ih =>
        intro k hfu_ hk hkle
        refine g_iload_n F (q := 39) (dk dX7_errorAt 22 rfl) rfl rfl 3 rfl ?_
        refine g_aload_n F (q := 40) (dk dX7_errorAt 23 rfl) rfl rfl 0 rfl ?_
        refine g_getf F (q := 43) hK233_2 rfl inX7 (by omega) (j := 10) (by decide) tq_633 rfl rfl (dk dX7_errorAt 24 rfl) rfl ?_
        refine g_iconst F (q := 44) (v := 2) (dk dX7_errorAt 25 rfl) rfl (by decide) ?_
        refine g_isub F (q := 45) (dk dX7_errorAt 26 rfl) rfl ?_
        refine g_sti (y := (nI ((mC r e nt - 2)))) (by rw [show (2 : Int32) = nI 2 from rfl, pk_sub (by omega)]) ?_
        refine g_icmp_ge F (q := 48) (tgt := 66) (dk dX7_errorAt 27 rfl) (by decide) rfl (fun c45 => ?_) (fun c45 => ?_)
        · have nc45 : (mC r e nt - 2) ≤ k := (nI_leI (a := (mC r e nt - 2)) (b := k) (by omega) (by omega)).mp c45
          have hnz : ¬ (rd1_2 (k + 1) - rd1_2 k).toInt64 = 0 := by rw [(hH_2 k (by omega)).1, (hH_2 (k + 1) (by omega)).1]; exact (df_nz (mRd_b hI he (by omega)) (mRd_b hI he (by omega)) (mRd_mono nt k (by omega))).2
          refine g_ldc2 F (q := 69) (v := 1000) (dk dX7_errorAt 38 rfl) rfl tq_852 ?_
          refine g_aload_n F (q := 70) (dk dX7_errorAt 39 rfl) rfl rfl 0 rfl ?_
          refine g_getf F (q := 73) hK233_2 rfl inX7 (by omega) (j := 12) (by decide) tq_635 rfl rfl (dk dX7_errorAt 40 rfl) rfl ?_
          refine g_iload_n F (q := 74) (dk dX7_errorAt 41 rfl) rfl rfl 3 rfl ?_
          refine g_iconst F (q := 75) (v := 1) (dk dX7_errorAt 42 rfl) rfl (by decide) ?_
          refine g_iadd F (q := 76) (dk dX7_errorAt 43 rfl) rfl ?_
          refine g_sti (y := (nI ((k + 1)))) (nI_1 k) ?_
          refine g_iald F (q := 77) ((k + 1)) hK240_2 (by omega) rfl (by omega) (by decide) (dk dX7_errorAt 44 rfl) rfl ?_
          refine g_aload_n F (q := 78) (dk dX7_errorAt 45 rfl) rfl rfl 0 rfl ?_
          refine g_getf F (q := 81) hK233_2 rfl inX7 (by omega) (j := 12) (by decide) tq_635 rfl rfl (dk dX7_errorAt 46 rfl) rfl ?_
          refine g_iload_n F (q := 82) (dk dX7_errorAt 47 rfl) rfl rfl 3 rfl ?_
          refine g_iald F (q := 83) k hK240_2 (by omega) rfl (by omega) (by decide) (dk dX7_errorAt 48 rfl) rfl ?_
          refine g_isub F (q := 84) (dk dX7_errorAt 49 rfl) rfl ?_
          refine g_i2l F (q := 85) (dk dX7_errorAt 50 rfl) rfl ?_
          refine g_lmul F (q := 86) (dk dX7_errorAt 51 rfl) rfl ?_
          refine g_iload_n F (q := 87) (dk dX7_errorAt 52 rfl) rfl rfl 2 rfl ?_
          refine g_aload_n F (q := 88) (dk dX7_errorAt 53 rfl) rfl rfl 0 rfl ?_
          refine g_getf F (q := 91) hK233_2 rfl inX7 (by omega) (j := 11) (by decide) tq_634 rfl rfl (dk dX7_errorAt 54 rfl) rfl ?_
          refine g_iload_n F (q := 92) (dk dX7_errorAt 55 rfl) rfl rfl 3 rfl ?_
          refine g_iald F (q := 93) k hK239_2 (by omega) rfl (by omega) (by decide) (dk dX7_errorAt 56 rfl) rfl ?_
          refine g_isub F (q := 94) (dk dX7_errorAt 57 rfl) rfl ?_
          refine g_i2l F (q := 95) (dk dX7_errorAt 58 rfl) rfl ?_
          refine g_lmul F (q := 96) (dk dX7_errorAt 59 rfl) rfl ?_
          refine g_lstore F (q := 98) (lv' := [(4, .long ((1000 * ((er1_2 ((k + 1))) - (er1_2 k)).toInt64) * (c - (rd1_2 k)).toInt64)), (0, .ref (ad 233)), (1, .int (nI e)), (2, .int c), (3, .int (nI k))]) (dk dX7_errorAt 60 rfl) rfl (Nat.le_of_ble_eq_true rfl) rfl ?_
          refine g_ldc2 F (q := 101) (v := 1000) (dk dX7_errorAt 61 rfl) rfl tq_852 ?_
          refine g_aload_n F (q := 102) (dk dX7_errorAt 62 rfl) rfl rfl 1 rfl ?_
          refine g_getf F (q := 105) hK233_2 rfl inX7 (by omega) (j := 12) (by decide) tq_635 rfl rfl (dk dX7_errorAt 63 rfl) rfl ?_
          refine g_iload_n F (q := 106) (dk dX7_errorAt 64 rfl) rfl rfl 4 rfl ?_
          refine g_iald F (q := 107) k hK240_2 (by omega) rfl (by omega) (by decide) (dk dX7_errorAt 65 rfl) rfl ?_
          refine g_i2l F (q := 108) (dk dX7_errorAt 66 rfl) rfl ?_
          refine g_lmul F (q := 109) (dk dX7_errorAt 67 rfl) rfl ?_
          refine g_lload F (q := 111) (dk dX7_errorAt 68 rfl) rfl 0 rfl ?_
          refine g_aload_n F (q := 112) (dk dX7_errorAt 69 rfl) rfl rfl 1 rfl ?_
          refine g_getf F (q := 115) hK233_2 rfl inX7 (by omega) (j := 11) (by decide) tq_634 rfl rfl (dk dX7_errorAt 70 rfl) rfl ?_
          refine g_iload_n F (q := 116) (dk dX7_errorAt 71 rfl) rfl rfl 4 rfl ?_
          refine g_iconst F (q := 117) (v := 1) (dk dX7_errorAt 72 rfl) rfl (by decide) ?_
          refine g_iadd F (q := 118) (dk dX7_errorAt 73 rfl) rfl ?_
          refine g_sti (y := (nI ((k + 1)))) (nI_1 k) ?_
          refine g_iald F (q := 119) ((k + 1)) hK239_2 (by omega) rfl (by omega) (by decide) (dk dX7_errorAt 74 rfl) rfl ?_
          refine g_aload_n F (q := 120) (dk dX7_errorAt 75 rfl) rfl rfl 1 rfl ?_
          refine g_getf F (q := 123) hK233_2 rfl inX7 (by omega) (j := 11) (by decide) tq_634 rfl rfl (dk dX7_errorAt 76 rfl) rfl ?_
          refine g_iload_n F (q := 124) (dk dX7_errorAt 77 rfl) rfl rfl 4 rfl ?_
          refine g_iald F (q := 125) k hK239_2 (by omega) rfl (by omega) (by decide) (dk dX7_errorAt 78 rfl) rfl ?_
          refine g_isub F (q := 126) (dk dX7_errorAt 79 rfl) rfl ?_
          refine g_i2l F (q := 127) (dk dX7_errorAt 80 rfl) rfl ?_
          refine g_callSL F (q := 130) (av := [.long ((1000 * ((er1_2 ((k + 1))) - (er1_2 k)).toInt64) * (c - (rd1_2 k)).toInt64), .long ((rd1_2 ((k + 1))) - (rd1_2 k)).toInt64]) (st := [.long (1000 * (er1_2 k).toInt64)]) (c_X7_down (a := ((1000 * ((er1_2 ((k + 1))) - (er1_2 k)).toInt64) * (c - (rd1_2 k)).toInt64)) (b := ((rd1_2 ((k + 1))) - (rd1_2 k)).toInt64) (by first | assumption | decide | omega)) ks_X7_down tq_755 ⟨rfl, rfl⟩ (by decide) ⟨Nat.le_refl _, Nat.le_refl _⟩ rfl rfl (Nat.le_of_ble_eq_true rfl) (dk dX7_errorAt 81 rfl) rfl (fun r127 E127 hp127 => ?_)
          obtain ⟨rfl, rfl⟩ := hp127
          refine g_ladd F (q := 131) (dk dX7_errorAt 82 rfl) rfl ?_
          have hfk : fI (mRd r e nt) c (mC r e nt - 2) = k := fI_ex (fun j hj => mRd_mono nt j hj) _ (by omega) hk hkle (Or.inl (by omega))
          refine hret ((1000 * (er1_2 k).toInt64) + (dn ((1000 * ((er1_2 ((k + 1))) - (er1_2 k)).toInt64) * (c - (rd1_2 k)).toInt64) (((rd1_2 ((k + 1))) - (rd1_2 k)).toInt64))) E2 _ _ (dk dX7_errorAt 83 rfl) ?_
          exact ⟨_, _, _, _, (by unfold errR eA; rw [if_neg (by omega), hfk, (hH_2 k (by omega)).2.1, (hH_2 (k + 1) (by omega)).2.1, (hH_2 k (by omega)).1, (hH_2 (k + 1) (by omega)).1]), hK233_2, hK239_2, hK240_2, hK241_2, (fun j hj => (hF2 j (by omega)))⟩
        · have nc45 : ¬ (mC r e nt - 2) ≤ k := fun h => c45 ((nI_leI (a := (mC r e nt - 2)) (b := k) (by omega) (by omega)).mpr h)
          refine g_aload_n F (q := 49) (dk dX7_errorAt 28 rfl) rfl rfl 0 rfl ?_
          refine g_getf F (q := 52) hK233_2 rfl inX7 (by omega) (j := 11) (by decide) tq_634 rfl rfl (dk dX7_errorAt 29 rfl) rfl ?_
          refine g_iload_n F (q := 53) (dk dX7_errorAt 30 rfl) rfl rfl 3 rfl ?_
          refine g_iconst F (q := 54) (v := 1) (dk dX7_errorAt 31 rfl) rfl (by decide) ?_
          refine g_iadd F (q := 55) (dk dX7_errorAt 32 rfl) rfl ?_
          refine g_sti (y := (nI ((k + 1)))) (nI_1 k) ?_
          refine g_iald F (q := 56) ((k + 1)) hK239_2 (by omega) rfl (by omega) (by decide) (dk dX7_errorAt 33 rfl) rfl ?_
          refine g_iload_n F (q := 57) (dk dX7_errorAt 34 rfl) rfl rfl 2 rfl ?_
          refine g_icmp_gt F (q := 60) (tgt := 66) (dk dX7_errorAt 35 rfl) (by decide) rfl (fun c57 => ?_) (fun c57 => ?_)
          · have hnz : ¬ (rd1_2 (k + 1) - rd1_2 k).toInt64 = 0 := by rw [(hH_2 k (by omega)).1, (hH_2 (k + 1) (by omega)).1]; exact (df_nz (mRd_b hI he (by omega)) (mRd_b hI he (by omega)) (mRd_mono nt k (by omega))).2
            refine g_ldc2 F (q := 69) (v := 1000) (dk dX7_errorAt 38 rfl) rfl tq_852 ?_
            refine g_aload_n F (q := 70) (dk dX7_errorAt 39 rfl) rfl rfl 0 rfl ?_
            refine g_getf F (q := 73) hK233_2 rfl inX7 (by omega) (j := 12) (by decide) tq_635 rfl rfl (dk dX7_errorAt 40 rfl) rfl ?_
            refine g_iload_n F (q := 74) (dk dX7_errorAt 41 rfl) rfl rfl 3 rfl ?_
            refine g_iconst F (q := 75) (v := 1) (dk dX7_errorAt 42 rfl) rfl (by decide) ?_
            refine g_iadd F (q := 76) (dk dX7_errorAt 43 rfl) rfl ?_
            refine g_sti (y := (nI ((k + 1)))) (nI_1 k) ?_
            refine g_iald F (q := 77) ((k + 1)) hK240_2 (by omega) rfl (by omega) (by decide) (dk dX7_errorAt 44 rfl) rfl ?_
            refine g_aload_n F (q := 78) (dk dX7_errorAt 45 rfl) rfl rfl 0 rfl ?_
            refine g_getf F (q := 81) hK233_2 rfl inX7 (by omega) (j := 12) (by decide) tq_635 rfl rfl (dk dX7_errorAt 46 rfl) rfl ?_
            refine g_iload_n F (q := 82) (dk dX7_errorAt 47 rfl) rfl rfl 3 rfl ?_
            refine g_iald F (q := 83) k hK240_2 (by omega) rfl (by omega) (by decide) (dk dX7_errorAt 48 rfl) rfl ?_
            refine g_isub F (q := 84) (dk dX7_errorAt 49 rfl) rfl ?_
            refine g_i2l F (q := 85) (dk dX7_errorAt 50 rfl) rfl ?_
            refine g_lmul F (q := 86) (dk dX7_errorAt 51 rfl) rfl ?_
            refine g_iload_n F (q := 87) (dk dX7_errorAt 52 rfl) rfl rfl 2 rfl ?_
            refine g_aload_n F (q := 88) (dk dX7_errorAt 53 rfl) rfl rfl 0 rfl ?_
            refine g_getf F (q := 91) hK233_2 rfl inX7 (by omega) (j := 11) (by decide) tq_634 rfl rfl (dk dX7_errorAt 54 rfl) rfl ?_
            refine g_iload_n F (q := 92) (dk dX7_errorAt 55 rfl) rfl rfl 3 rfl ?_
            refine g_iald F (q := 93) k hK239_2 (by omega) rfl (by omega) (by decide) (dk dX7_errorAt 56 rfl) rfl ?_
            refine g_isub F (q := 94) (dk dX7_errorAt 57 rfl) rfl ?_
            refine g_i2l F (q := 95) (dk dX7_errorAt 58 rfl) rfl ?_
            refine g_lmul F (q := 96) (dk dX7_errorAt 59 rfl) rfl ?_
            refine g_lstore F (q := 98) (lv' := [(4, .long ((1000 * ((er1_2 ((k + 1))) - (er1_2 k)).toInt64) * (c - (rd1_2 k)).toInt64)), (0, .ref (ad 233)), (1, .int (nI e)), (2, .int c), (3, .int (nI k))]) (dk dX7_errorAt 60 rfl) rfl (Nat.le_of_ble_eq_true rfl) rfl ?_
            refine g_ldc2 F (q := 101) (v := 1000) (dk dX7_errorAt 61 rfl) rfl tq_852 ?_
            refine g_aload_n F (q := 102) (dk dX7_errorAt 62 rfl) rfl rfl 1 rfl ?_
            refine g_getf F (q := 105) hK233_2 rfl inX7 (by omega) (j := 12) (by decide) tq_635 rfl rfl (dk dX7_errorAt 63 rfl) rfl ?_
            refine g_iload_n F (q := 106) (dk dX7_errorAt 64 rfl) rfl rfl 4 rfl ?_
            refine g_iald F (q := 107) k hK240_2 (by omega) rfl (by omega) (by decide) (dk dX7_errorAt 65 rfl) rfl ?_
            refine g_i2l F (q := 108) (dk dX7_errorAt 66 rfl) rfl ?_
            refine g_lmul F (q := 109) (dk dX7_errorAt 67 rfl) rfl ?_
            refine g_lload F (q := 111) (dk dX7_errorAt 68 rfl) rfl 0 rfl ?_
            refine g_aload_n F (q := 112) (dk dX7_errorAt 69 rfl) rfl rfl 1 rfl ?_
            refine g_getf F (q := 115) hK233_2 rfl inX7 (by omega) (j := 11) (by decide) tq_634 rfl rfl (dk dX7_errorAt 70 rfl) rfl ?_
            refine g_iload_n F (q := 116) (dk dX7_errorAt 71 rfl) rfl rfl 4 rfl ?_
            refine g_iconst F (q := 117) (v := 1) (dk dX7_errorAt 72 rfl) rfl (by decide) ?_
            refine g_iadd F (q := 118) (dk dX7_errorAt 73 rfl) rfl ?_
            refine g_sti (y := (nI ((k + 1)))) (nI_1 k) ?_
            refine g_iald F (q := 119) ((k + 1)) hK239_2 (by omega) rfl (by omega) (by decide) (dk dX7_errorAt 74 rfl) rfl ?_
            refine g_aload_n F (q := 120) (dk dX7_errorAt 75 rfl) rfl rfl 1 rfl ?_
            refine g_getf F (q := 123) hK233_2 rfl inX7 (by omega) (j := 11) (by decide) tq_634 rfl rfl (dk dX7_errorAt 76 rfl) rfl ?_
            refine g_iload_n F (q := 124) (dk dX7_errorAt 77 rfl) rfl rfl 4 rfl ?_
            refine g_iald F (q := 125) k hK239_2 (by omega) rfl (by omega) (by decide) (dk dX7_errorAt 78 rfl) rfl ?_
            refine g_isub F (q := 126) (dk dX7_errorAt 79 rfl) rfl ?_
            refine g_i2l F (q := 127) (dk dX7_errorAt 80 rfl) rfl ?_
            refine g_callSL F (q := 130) (av := [.long ((1000 * ((er1_2 ((k + 1))) - (er1_2 k)).toInt64) * (c - (rd1_2 k)).toInt64), .long ((rd1_2 ((k + 1))) - (rd1_2 k)).toInt64]) (st := [.long (1000 * (er1_2 k).toInt64)]) (c_X7_down (a := ((1000 * ((er1_2 ((k + 1))) - (er1_2 k)).toInt64) * (c - (rd1_2 k)).toInt64)) (b := ((rd1_2 ((k + 1))) - (rd1_2 k)).toInt64) (by first | assumption | decide | omega)) ks_X7_down tq_755 ⟨rfl, rfl⟩ (by decide) ⟨Nat.le_refl _, Nat.le_refl _⟩ rfl rfl (Nat.le_of_ble_eq_true rfl) (dk dX7_errorAt 81 rfl) rfl (fun r127 E127 hp127 => ?_)
            obtain ⟨rfl, rfl⟩ := hp127
            refine g_ladd F (q := 131) (dk dX7_errorAt 82 rfl) rfl ?_
            have hfk : fI (mRd r e nt) c (mC r e nt - 2) = k := fI_ex (fun j hj => mRd_mono nt j hj) _ (by omega) hk hkle (Or.inr (by rw [← (hH_2 (k + 1) (by omega)).1]; exact c57))
            refine hret ((1000 * (er1_2 k).toInt64) + (dn ((1000 * ((er1_2 ((k + 1))) - (er1_2 k)).toInt64) * (c - (rd1_2 k)).toInt64) (((rd1_2 ((k + 1))) - (rd1_2 k)).toInt64))) E2 _ _ (dk dX7_errorAt 83 rfl) ?_
            exact ⟨_, _, _, _, (by unfold errR eA; rw [if_neg (by omega), hfk, (hH_2 k (by omega)).2.1, (hH_2 (k + 1) (by omega)).2.1, (hH_2 k (by omega)).1, (hH_2 (k + 1) (by omega)).1]), hK233_2, hK239_2, hK240_2, hK241_2, (fun j hj => (hF2 j (by omega)))⟩
          · refine g_iinc F (q := 63) (v := (nI ((k + 1)))) (lv' := [(3, .int (nI ((k + 1)))), (0, .ref (ad 233)), (1, .int (nI e)), (2, .int c)]) (dk dX7_errorAt 36 rfl) rfl 3 rfl (nI_1 _) (Nat.le_of_ble_eq_true rfl) rfl ?_
            refine g_goto F (tgt := 38) (dk dX7_errorAt 37 rfl) (by decide) ?_
            refine g_lv (lv' := [(0, .ref (ad 233)), (1, .int (nI e)), (2, .int c), (3, .int (nI ((k + 1))))]) [1, 2, 3, 0] rfl ?_
            exact ih (k + 1) (by omega) (by omega) (Or.inr (by rw [← (hH_2 (k + 1) (by omega)).1]; exact Int32.not_lt.mp c57))
    refine g_lv (lv' := [(0, .ref (ad 233)), (1, .int (nI e)), (2, .int c), (3, .int 0)]) [1, 2, 3, 0] rfl ?_
    exact K38 _ 0 (Nat.lt_succ_self _) (by omega) (Or.inl rfl)
  · have nc10 : ¬ 2 ≤ (mC r e nt) := fun h => c10 ((nI_leI (a := 2) (b := (mC r e nt)) (by omega) (by omega)).mpr h)
    refine g_aload_n F (q := 14) (dk dX7_errorAt 7 rfl) rfl rfl 0 rfl ?_
    refine g_getf F (q := 17) hK233_2 rfl inX7 (by omega) (j := 10) (by decide) tq_633 rfl rfl (dk dX7_errorAt 8 rfl) rfl ?_
    refine g_if_ne F (q := 20) (tgt := 24) (dk dX7_errorAt 9 rfl) (by decide) rfl (fun c17 => ?_) (fun c17 => ?_)
    · have nc17 : ¬ (mC r e nt) = 0 := fun h => c17 ((nI_eq (a := (mC r e nt)) (b := 0) (by omega) (by omega)).mpr h)
      refine g_ldc2 F (q := 27) (v := 1000) (dk dX7_errorAt 12 rfl) rfl tq_852 ?_
      refine g_aload_n F (q := 28) (dk dX7_errorAt 13 rfl) rfl rfl 0 rfl ?_
      refine g_getf F (q := 31) hK233_2 rfl inX7 (by omega) (j := 12) (by decide) tq_635 rfl rfl (dk dX7_errorAt 14 rfl) rfl ?_
      refine g_iconst F (q := 32) (v := 0) (dk dX7_errorAt 15 rfl) rfl (by decide) ?_
      refine g_iald F (q := 33) 0 hK240_2 (by omega) rfl (by omega) (by decide) (dk dX7_errorAt 16 rfl) rfl ?_
      refine g_i2l F (q := 34) (dk dX7_errorAt 17 rfl) rfl ?_
      refine g_lmul F (q := 35) (dk dX7_errorAt 18 rfl) rfl ?_
      refine hret (1000 * (er1_2 0).toInt64) E2 _ _ (dk dX7_errorAt 19 rfl) ?_
      exact ⟨_, _, _, _, (by unfold errR eA; rw [if_pos (by omega), if_neg nc17, (hH_2 0 (by omega)).2.1]), hK233_2, hK239_2, hK240_2, hK241_2, (fun j hj => (hF2 j (by omega)))⟩
    · have nc17 : (mC r e nt) = 0 := (nI_eq (a := (mC r e nt)) (b := 0) (by omega) (by omega)).mp c17
      refine g_lconst F (q := 21) (v := 0) (dk dX7_errorAt 10 rfl) rfl (by decide) ?_
      refine g_goto F (tgt := 35) (dk dX7_errorAt 11 rfl) (by decide) ?_
      refine hret 0 E2 _ _ (dk dX7_errorAt 19 rfl) ?_
      exact ⟨_, _, _, _, (by unfold errR eA; rw [if_pos (by omega), if_pos nc17]), hK233_2, hK239_2, hK240_2, hK241_2, (fun j hj => (hF2 j (by omega)))⟩
theorem kv_X7_errorAt : KV yX7_errorAt "ThumpEarsModel" cX7_errorAt 6 (some .long) 2 := ⟨tq_850, tq_30, tq_47, tq_851, by decide +kernel⟩
end
section
def sCk (r : Nat → Int32) (ne : Nat) (ear t : Int32) : Int32 := if ear < 0 ∨ ne ≤ ear.toNatClampNeg then -1 else if 0 ≤ t ∧ t ≤ 200000 then rdc r ear.toNatClampNeg t + 10000 else -2
def sMark (r : Nat → Int32) (ne nt : Nat) (ear mk what : Int32) : Int32 :=
  if ear < 0 ∨ ne ≤ ear.toNatClampNeg then -1 else if mk < 0 ∨ ¬ (0 ≤ what ∧ what ≤ 2) then -2 else if mC r ear.toNatClampNeg nt ≤ mk.toNatClampNeg then -5
  else if what = 0 then mRd r ear.toNatClampNeg nt mk.toNatClampNeg + 10000 else if what = 1 then mEr r ear.toNatClampNeg nt mk.toNatClampNeg + 10000 else mTh r ear.toNatClampNeg nt mk.toNatClampNeg
def sErr (r : Nat → Int32) (ne nt : Nat) (ear c : Int32) : Int64 := if ear < 0 ∨ ne ≤ ear.toNatClampNeg then toldAs (-1) else if -10000 ≤ c ∧ c ≤ 300000 then errR r ear.toNatClampNeg nt c else toldAs (-2)
def lth (r : Nat → Int32) (nt e : Nat) : Int32 := if mC r e nt = 0 then -1 else mTh r e nt (mC r e nt - 1)
def stF (r : Nat → Int32) (nt : Nat) : Nat → Int32 × Int32
  | 0 => (-5, 10)
  | e + 1 => if lth r nt e < (stF r nt e).2 then (nI e, lth r nt e) else stF r nt e
theorem stF_t {r : Nat → Int32} {nt e : Nat} (h : lth r nt e < (stF r nt e).2) : stF r nt (e + 1) = (nI e, lth r nt e) := by
  conv => lhs; unfold stF
  exact if_pos h
theorem stF_f {r : Nat → Int32} {nt e : Nat} (h : ¬ lth r nt e < (stF r nt e).2) : stF r nt (e + 1) = stF r nt e := by
  conv => lhs; unfold stF
  exact if_neg h
def sHeard (r : Nat → Int32) (ne nt nk : Nat) (kb num ear : Int32) : Int32 :=
  if (num < 0 ∨ (if kb = 0 then nt else nk) ≤ num.toNatClampNeg) ∨ (ear < 0 ∨ ne ≤ ear.toNatClampNeg) then -1
  else if r (146 + 100 * (if kb = 0 then 0 else 1) + 10 * num.toNatClampNeg + ear.toNatClampNeg) = MISS then -5 else r (146 + 100 * (if kb = 0 then 0 else 1) + 10 * num.toNatClampNeg + ear.toNatClampNeg) + 10000
def sPut (r : Nat → Int32) (ne nt nk : Nat) (kn ear : Int32) : Int64 :=
  if (kn < 0 ∨ nk ≤ kn.toNatClampNeg) ∨ (ear < 0 ∨ ne ≤ ear.toNatClampNeg) then toldAs (-1)
  else if r (146 + 100 * 1 + 10 * kn.toNatClampNeg + ear.toNatClampNeg) = MISS then toldAs (-5) else rgt r nt kn.toNatClampNeg ear.toNatClampNeg
/-- the answers of ear -/
def sEar (r : Nat → Int32) (ne nt nk : Nat) (ear what : Int32) : Int32 :=
  if ear < 0 ∨ ne ≤ ear.toNatClampNeg then -1
  else if what = 0 then r (6 + 4 * ear.toNatClampNeg + 0) else if what = 1 then r (6 + 4 * ear.toNatClampNeg + 1) else if what = 2 then r (6 + 4 * ear.toNatClampNeg + 2) + 1000 else if what = 3 then r (6 + 4 * ear.toNatClampNeg + 3) + 1000
  else if what = 4 then nI (mC r ear.toNatClampNeg nt) else if what = 5 then (if mC r ear.toNatClampNeg nt = 0 then -5 else mRd r ear.toNatClampNeg nt (mC r ear.toNatClampNeg nt - 1) + 10000)
  else if what = 6 then nI (kC r ear.toNatClampNeg nk) else -2
theorem ne_lit {x : Int32} {n : Nat} {y : Int32} (hx : x = nI n) (hy : ¬ nI n = y) : ¬ x = y := by rw [hx]; exact hy
end
section
abbrev rm_X7_rightOf : Room := { frames := 3, cells := 0, slots := 0, locals := 71 }
set_option maxHeartbeats 4000000 in
set_option maxRecDepth 100000 in
theorem c_X7_rightOf {l : Launch} {D : va_G} {cA : Nat → ClassId} {ad : Nat → Nat} {E : Nat → va_E} {s0 s1 s2 s3 s4 s5 : Int32} {lo mo : Int64} {r rd er th : Nat → Int32} {ne nt nk : Nat} {kn e : Nat}  (h233 : E 233 = .inr (7, [.ref (ad 234), .ref (ad 235), .ref (ad 236), .ref (ad 237), .int s0, .int s1, .ref (ad 238), .int s2, .int s3, .int s4, .int s5, .ref (ad 239), .ref (ad 240), .ref (ad 241), .long lo, .long mo, .ref (ad 242)])) (h234 : E 234 = .inl (cA 0, 346, .inl r)) (h239 : E 239 = .inl (cA 0, 10, .inl rd)) (h240 : E 240 = .inl (cA 0, 10, .inl er)) (h241 : E 241 = .inl (cA 0, 10, .inl th))  (hk : kn < nk) (he : e < 10) (hI : Inv r ne nt nk) : CtL l D cA yX7_rightOf cX7_rightOf 4 rm_X7_rightOf 243 ad E [.ref (ad 233), .int (nI kn), .int (nI e)] (fun x E' => ∃ (m2 : Int32) (rd1 : Nat → Int32) (er1 : Nat → Int32) (th1 : Nat → Int32), (rgt r nt kn e) = x ∧ E' 233 = .inr (7, [.ref (ad 234), .ref (ad 235), .ref (ad 236), .ref (ad 237), .int s0, .int s1, .ref (ad 238), .int s2, .int s3, .int s4, .int m2, .ref (ad 239), .ref (ad 240), .ref (ad 241), .long lo, .long mo, .ref (ad 242)]) ∧ E' 239 = .inl (cA 0, 10, .inl rd1) ∧ E' 240 = .inl (cA 0, 10, .inl er1) ∧ E' 241 = .inl (cA 0, 10, .inl th1) ∧ ∀ j, (j ≠ 233 ∧ j ≠ 239 ∧ j ≠ 240 ∧ j ≠ 241) → E' j = E j) := by
  refine CtL.of (by decide +kernel) (Nat.le_of_ble_eq_true rfl) (fun X F hret => ?_)
  have F : Fr "ThumpEarsModel" cX7_rightOf 4 D cA X := F
  refine (show GG rm_X7_rightOf 4 l D X 0 0 243 ad E 0 [(0, .ref (ad 233)), (1, .int (nI kn)), (2, .int (nI e))] [] from ?_)
  have hnk := hI.e2
  refine g_aload_n F (q := 1) (dk dX7_rightOf 0 rfl) rfl rfl 0 rfl ?_
  refine g_iconst F (q := 2) (v := 1) (dk dX7_rightOf 1 rfl) rfl (by decide) ?_
  refine g_iload_n F (q := 3) (dk dX7_rightOf 2 rfl) rfl rfl 1 rfl ?_
  refine g_iload_n F (q := 4) (dk dX7_rightOf 3 rfl) rfl rfl 2 rfl ?_
  refine g_callVI F (q := 7) (av := [.int 1, .int (nI kn), .int (nI e)]) (st := []) (c_X7_heardOf (k := 1) (m := kn) (e := e) h233 h234 (by first | assumption | decide | omega)) kv_X7_heardOf tq_822 h233 rfl (by omega) ⟨rfl, rfl⟩ (by decide) ⟨Nat.le_refl _, Nat.le_refl _⟩ rfl rfl (Nat.le_of_ble_eq_true rfl) (dk dX7_rightOf 4 rfl) rfl (fun r4 E4 hp4 => ?_)
  obtain ⟨rfl, rfl⟩ := hp4
  refine g_istore_n F (q := 8) (lv' := [(3, .int (r (146 + 100 * 1 + 10 * kn + e))), (0, .ref (ad 233)), (1, .int (nI kn)), (2, .int (nI e))]) (dk dX7_rightOf 5 rfl) rfl rfl (Nat.le_of_ble_eq_true rfl) rfl ?_
  refine g_ldc2 F (q := 11) (v := 1000) (dk dX7_rightOf 6 rfl) rfl tq_852 ?_
  refine g_iload_n F (q := 12) (dk dX7_rightOf 7 rfl) rfl rfl 0 rfl ?_
  refine g_i2l F (q := 13) (dk dX7_rightOf 8 rfl) rfl ?_
  refine g_lmul F (q := 14) (dk dX7_rightOf 9 rfl) rfl ?_
  refine g_aload_n F (q := 15) (dk dX7_rightOf 10 rfl) rfl rfl 1 rfl ?_
  refine g_iload_n F (q := 16) (dk dX7_rightOf 11 rfl) rfl rfl 3 rfl ?_
  refine g_iload_n F (q := 17) (dk dX7_rightOf 12 rfl) rfl rfl 0 rfl ?_
  refine g_callVL F (q := 20) (av := [.int (nI e), .int (r (146 + 100 * 1 + 10 * kn + e))]) (st := [.long (1000 * (r (146 + 100 * 1 + 10 * kn + e)).toInt64)]) (c_X7_errorAt (e := e) (c := (r (146 + 100 * 1 + 10 * kn + e))) h233 h234 h239 h240 h241 (by first | assumption | decide | omega) (by first | assumption | decide | omega)) kv_X7_errorAt tq_848 h233 rfl (by omega) ⟨rfl, rfl⟩ (by decide) ⟨Nat.le_refl _, Nat.le_refl _⟩ rfl rfl (Nat.le_of_ble_eq_true rfl) (dk dX7_rightOf 13 rfl) rfl (fun r17 E17 hp17 => ?_)
  obtain ⟨m2_17, rd1_17, er1_17, th1_17, rfl, hK233_17, hK239_17, hK240_17, hK241_17, hF17⟩ := hp17
  refine g_lsub F (q := 21) (dk dX7_rightOf 14 rfl) rfl ?_
  refine hret ((1000 * (r (146 + 100 * 1 + 10 * kn + e)).toInt64) - (errR r e nt (r (146 + 100 * 1 + 10 * kn + e)))) E17 _ _ (dk dX7_rightOf 15 rfl) ?_
  exact ⟨_, _, _, _, rfl, hK233_17, hK239_17, hK240_17, hK241_17, (fun j hj => (hF17 j (by omega)))⟩
theorem kv_X7_rightOf : KV yX7_rightOf "ThumpEarsModel" cX7_rightOf 4 (some .long) 2 := ⟨tq_867, tq_31, tq_47, tq_868, by decide +kernel⟩
abbrev rm_X7_knocksHeard : Room := { frames := 1, cells := 0, slots := 0, locals := 23 }
set_option maxHeartbeats 4000000 in
set_option maxRecDepth 100000 in
theorem c_X7_knocksHeard {l : Launch} {D : va_G} {cA : Nat → ClassId} {ad : Nat → Nat} {E : Nat → va_E} {s0 s1 s2 s3 s4 s5 : Int32} {lo mo : Int64} {r : Nat → Int32} {ne nt nk e : Nat} (h233 : E 233 = .inr (7, [.ref (ad 234), .ref (ad 235), .ref (ad 236), .ref (ad 237), .int s0, .int s1, .ref (ad 238), .int s2, .int s3, .int s4, .int s5, .ref (ad 239), .ref (ad 240), .ref (ad 241), .long lo, .long mo, .ref (ad 242)])) (h234 : E 234 = .inl (cA 0, 346, .inl r))  (he : e < 10) (hI : Inv r ne nt nk) : CtI l D cA yX7_knocksHeard cX7_knocksHeard 4 .int rm_X7_knocksHeard 243 ad E [.ref (ad 233), .int (nI e)] (fun x E' => (nI (kC r e nk)) = x ∧ E = E') := by
  refine CtI.of (by decide +kernel) (Nat.le_of_ble_eq_true rfl) (fun X F hret => ?_)
  have F : Fr "ThumpEarsModel" cX7_knocksHeard 4 D cA X := F
  refine (show GG rm_X7_knocksHeard 4 l D X 0 0 243 ad E 0 [(0, .ref (ad 233)), (1, .int (nI e))] [] from ?_)
  have hnk := hI.e2
  refine g_iconst F (q := 1) (v := 0) (dk dX7_knocksHeard 0 rfl) rfl (by decide) ?_
  refine g_istore_n F (q := 2) (lv' := [(2, .int 0), (0, .ref (ad 233)), (1, .int (nI e))]) (dk dX7_knocksHeard 1 rfl) rfl rfl (Nat.le_of_ble_eq_true rfl) rfl ?_
  refine g_iconst F (q := 3) (v := 0) (dk dX7_knocksHeard 2 rfl) rfl (by decide) ?_
  refine g_istore_n F (q := 4) (lv' := [(3, .int 0), (2, .int 0), (0, .ref (ad 233)), (1, .int (nI e))]) (dk dX7_knocksHeard 3 rfl) rfl rfl (Nat.le_of_ble_eq_true rfl) rfl ?_
  have K4 : ∀ (fu : Nat) (i : Nat), nk - i < fu → (hi : i ≤ nk) → GG rm_X7_knocksHeard 4 l D X 0 0 243 ad E 4 [(0, .ref (ad 233)), (1, .int (nI e)), (2, .int (nI ((kC r e i)))), (3, .int (nI i))] [] := by
    intro fu
    induction fu with
    | zero => intro i hfu_; exact absurd hfu_ (Nat.not_lt_zero _)
    | succ fu ih =>
      intro i hfu_ hi
      refine g_iload_n F (q := 5) (dk dX7_knocksHeard 4 rfl) rfl rfl 3 rfl ?_
      refine g_aload_n F (q := 6) (dk dX7_knocksHeard 5 rfl) rfl rfl 0 rfl ?_
      refine g_getf F (q := 9) h233 rfl inX7 (by omega) (j := 0) (by decide) tq_623 rfl rfl (dk dX7_knocksHeard 6 rfl) rfl ?_
      refine g_iconst F (q := 10) (v := 2) (dk dX7_knocksHeard 7 rfl) rfl (by decide) ?_
      refine g_iald F (q := 11) 2 h234 (by omega) rfl (by omega) (by decide) (dk dX7_knocksHeard 8 rfl) rfl ?_
      refine g_sti (y := (nI nk)) hI.h2 ?_
      refine g_icmp_ge F (q := 14) (tgt := 40) (dk dX7_knocksHeard 9 rfl) (by decide) rfl (fun c11 => ?_) (fun c11 => ?_)
      · have nc11 : nk ≤ i := (nI_leI (a := nk) (b := i) (by omega) (by omega)).mp c11
        refine g_iload_n F (q := 41) (dk dX7_knocksHeard 25 rfl) rfl rfl 2 rfl ?_
        refine hret (nI ((kC r e i))) E _ _ (dk dX7_knocksHeard 26 rfl) (nint _) ?_
        exact ⟨by rw [show nk = i by omega], rfl⟩
      · have nc11 : ¬ nk ≤ i := fun h => c11 ((nI_leI (a := nk) (b := i) (by omega) (by omega)).mpr h)
        refine g_iload_n F (q := 15) (dk dX7_knocksHeard 10 rfl) rfl rfl 2 rfl ?_
        refine g_aload_n F (q := 16) (dk dX7_knocksHeard 11 rfl) rfl rfl 0 rfl ?_
        refine g_iconst F (q := 17) (v := 1) (dk dX7_knocksHeard 12 rfl) rfl (by decide) ?_
        refine g_iload_n F (q := 18) (dk dX7_knocksHeard 13 rfl) rfl rfl 3 rfl ?_
        refine g_iload_n F (q := 19) (dk dX7_knocksHeard 14 rfl) rfl rfl 1 rfl ?_
        refine g_callVI F (q := 22) (av := [.int 1, .int (nI i), .int (nI e)]) (st := [.int (nI ((kC r e i)))]) (c_X7_heardOf (k := 1) (m := i) (e := e) h233 h234 (by first | assumption | decide | omega)) kv_X7_heardOf tq_822 h233 rfl (by omega) ⟨rfl, rfl⟩ (by decide) ⟨Nat.le_refl _, Nat.le_refl _⟩ rfl rfl (Nat.le_of_ble_eq_true rfl) (dk dX7_knocksHeard 15 rfl) rfl (fun r19 E19 hp19 => ?_)
        obtain ⟨rfl, rfl⟩ := hp19
        refine g_ldc F (q := 24) (v := (-1000000000)) (dk dX7_knocksHeard 16 rfl) rfl tq_622 ?_
        refine g_sti (y := MISS) rfl ?_
        refine g_icmp_ne F (q := 27) (tgt := 31) (dk dX7_knocksHeard 17 rfl) (by decide) rfl (fun c24 => ?_) (fun c24 => ?_)
        · refine g_iconst F (q := 32) (v := 1) (dk dX7_knocksHeard 20 rfl) rfl (by decide) ?_
          refine g_iadd F (q := 33) (dk dX7_knocksHeard 21 rfl) rfl ?_
          refine g_sti (y := (nI ((kC r e (i + 1))))) (kN_t c24) ?_
          refine g_istore_n F (q := 34) (lv' := [(2, .int (nI ((kC r e (i + 1))))), (0, .ref (ad 233)), (1, .int (nI e)), (3, .int (nI i))]) (dk dX7_knocksHeard 22 rfl) rfl rfl (Nat.le_of_ble_eq_true rfl) rfl ?_
          refine g_iinc F (q := 37) (v := (nI ((i + 1)))) (lv' := [(3, .int (nI ((i + 1)))), (2, .int (nI ((kC r e (i + 1))))), (0, .ref (ad 233)), (1, .int (nI e))]) (dk dX7_knocksHeard 23 rfl) rfl 3 rfl (nI_1 _) (Nat.le_of_ble_eq_true rfl) rfl ?_
          refine g_goto F (tgt := 4) (dk dX7_knocksHeard 24 rfl) (by decide) ?_
          refine g_lv (lv' := [(0, .ref (ad 233)), (1, .int (nI e)), (2, .int (nI ((kC r e (i + 1))))), (3, .int (nI ((i + 1))))]) [2, 3, 1, 0] rfl ?_
          exact ih (i + 1) (by omega) (by omega)
        · refine g_iconst F (q := 28) (v := 0) (dk dX7_knocksHeard 18 rfl) rfl (by decide) ?_
          refine g_goto F (tgt := 32) (dk dX7_knocksHeard 19 rfl) (by decide) ?_
          refine g_iadd F (q := 33) (dk dX7_knocksHeard 21 rfl) rfl ?_
          refine g_sti (y := (nI ((kC r e (i + 1))))) (kN_f c24) ?_
          refine g_istore_n F (q := 34) (lv' := [(2, .int (nI ((kC r e (i + 1))))), (0, .ref (ad 233)), (1, .int (nI e)), (3, .int (nI i))]) (dk dX7_knocksHeard 22 rfl) rfl rfl (Nat.le_of_ble_eq_true rfl) rfl ?_
          refine g_iinc F (q := 37) (v := (nI ((i + 1)))) (lv' := [(3, .int (nI ((i + 1)))), (2, .int (nI ((kC r e (i + 1))))), (0, .ref (ad 233)), (1, .int (nI e))]) (dk dX7_knocksHeard 23 rfl) rfl 3 rfl (nI_1 _) (Nat.le_of_ble_eq_true rfl) rfl ?_
          refine g_goto F (tgt := 4) (dk dX7_knocksHeard 24 rfl) (by decide) ?_
          refine g_lv (lv' := [(0, .ref (ad 233)), (1, .int (nI e)), (2, .int (nI ((kC r e (i + 1))))), (3, .int (nI ((i + 1))))]) [2, 3, 1, 0] rfl ?_
          exact ih (i + 1) (by omega) (by omega)
  refine g_lv (lv' := [(0, .ref (ad 233)), (1, .int (nI e)), (2, .int 0), (3, .int 0)]) [2, 3, 1, 0] rfl ?_
  exact K4 _ 0 (Nat.lt_succ_self _) (by omega)
theorem kv_X7_knocksHeard : KV yX7_knocksHeard "ThumpEarsModel" cX7_knocksHeard 4 (some .int) 1 := ⟨tq_828, tq_29, tq_47, tq_829, by decide +kernel⟩
abbrev rm_X7_hearers : Room := { frames := 1, cells := 0, slots := 0, locals := 23 }
set_option maxHeartbeats 4000000 in
set_option maxRecDepth 100000 in
theorem c_X7_hearers {l : Launch} {D : va_G} {cA : Nat → ClassId} {ad : Nat → Nat} {E : Nat → va_E} {s0 s1 s2 s3 s4 s5 : Int32} {lo mo : Int64} {r : Nat → Int32} {ne nt nk kn : Nat} (h233 : E 233 = .inr (7, [.ref (ad 234), .ref (ad 235), .ref (ad 236), .ref (ad 237), .int s0, .int s1, .ref (ad 238), .int s2, .int s3, .int s4, .int s5, .ref (ad 239), .ref (ad 240), .ref (ad 241), .long lo, .long mo, .ref (ad 242)])) (h234 : E 234 = .inl (cA 0, 346, .inl r))  (hk : kn < nk) (hI : Inv r ne nt nk) : CtI l D cA yX7_hearers cX7_hearers 4 .int rm_X7_hearers 243 ad E [.ref (ad 233), .int (nI kn)] (fun x E' => (nI (hC r kn ne)) = x ∧ E = E') := by
  refine CtI.of (by decide +kernel) (Nat.le_of_ble_eq_true rfl) (fun X F hret => ?_)
  have F : Fr "ThumpEarsModel" cX7_hearers 4 D cA X := F
  refine (show GG rm_X7_hearers 4 l D X 0 0 243 ad E 0 [(0, .ref (ad 233)), (1, .int (nI kn))] [] from ?_)
  have hnk := hI.e2
  have hne := hI.e0
  refine g_iconst F (q := 1) (v := 0) (dk dX7_hearers 0 rfl) rfl (by decide) ?_
  refine g_istore_n F (q := 2) (lv' := [(2, .int 0), (0, .ref (ad 233)), (1, .int (nI kn))]) (dk dX7_hearers 1 rfl) rfl rfl (Nat.le_of_ble_eq_true rfl) rfl ?_
  refine g_iconst F (q := 3) (v := 0) (dk dX7_hearers 2 rfl) rfl (by decide) ?_
  refine g_istore_n F (q := 4) (lv' := [(3, .int 0), (2, .int 0), (0, .ref (ad 233)), (1, .int (nI kn))]) (dk dX7_hearers 3 rfl) rfl rfl (Nat.le_of_ble_eq_true rfl) rfl ?_
  have K4 : ∀ (fu : Nat) (i : Nat), ne - i < fu → (hi : i ≤ ne) → GG rm_X7_hearers 4 l D X 0 0 243 ad E 4 [(0, .ref (ad 233)), (1, .int (nI kn)), (2, .int (nI ((hC r kn i)))), (3, .int (nI i))] [] := by
    intro fu
    induction fu with
    | zero => intro i hfu_; exact absurd hfu_ (Nat.not_lt_zero _)
    | succ fu ih =>
      intro i hfu_ hi
      refine g_iload_n F (q := 5) (dk dX7_hearers 4 rfl) rfl rfl 3 rfl ?_
      refine g_aload_n F (q := 6) (dk dX7_hearers 5 rfl) rfl rfl 0 rfl ?_
      refine g_getf F (q := 9) h233 rfl inX7 (by omega) (j := 0) (by decide) tq_623 rfl rfl (dk dX7_hearers 6 rfl) rfl ?_
      refine g_iconst F (q := 10) (v := 0) (dk dX7_hearers 7 rfl) rfl (by decide) ?_
      refine g_iald F (q := 11) 0 h234 (by omega) rfl (by omega) (by decide) (dk dX7_hearers 8 rfl) rfl ?_
      refine g_sti (y := (nI ne)) hI.h0 ?_
      refine g_icmp_ge F (q := 14) (tgt := 40) (dk dX7_hearers 9 rfl) (by decide) rfl (fun c11 => ?_) (fun c11 => ?_)
      · have nc11 : ne ≤ i := (nI_leI (a := ne) (b := i) (by omega) (by omega)).mp c11
        refine g_iload_n F (q := 41) (dk dX7_hearers 25 rfl) rfl rfl 2 rfl ?_
        refine hret (nI ((hC r kn i))) E _ _ (dk dX7_hearers 26 rfl) (nint _) ?_
        exact ⟨by rw [show ne = i by omega], rfl⟩
      · have nc11 : ¬ ne ≤ i := fun h => c11 ((nI_leI (a := ne) (b := i) (by omega) (by omega)).mpr h)
        refine g_iload_n F (q := 15) (dk dX7_hearers 10 rfl) rfl rfl 2 rfl ?_
        refine g_aload_n F (q := 16) (dk dX7_hearers 11 rfl) rfl rfl 0 rfl ?_
        refine g_iconst F (q := 17) (v := 1) (dk dX7_hearers 12 rfl) rfl (by decide) ?_
        refine g_iload_n F (q := 18) (dk dX7_hearers 13 rfl) rfl rfl 1 rfl ?_
        refine g_iload_n F (q := 19) (dk dX7_hearers 14 rfl) rfl rfl 3 rfl ?_
        refine g_callVI F (q := 22) (av := [.int 1, .int (nI kn), .int (nI i)]) (st := [.int (nI ((hC r kn i)))]) (c_X7_heardOf (k := 1) (m := kn) (e := i) h233 h234 (by first | assumption | decide | omega)) kv_X7_heardOf tq_822 h233 rfl (by omega) ⟨rfl, rfl⟩ (by decide) ⟨Nat.le_refl _, Nat.le_refl _⟩ rfl rfl (Nat.le_of_ble_eq_true rfl) (dk dX7_hearers 15 rfl) rfl (fun r19 E19 hp19 => ?_)
        obtain ⟨rfl, rfl⟩ := hp19
        refine g_ldc F (q := 24) (v := (-1000000000)) (dk dX7_hearers 16 rfl) rfl tq_622 ?_
        refine g_sti (y := MISS) rfl ?_
        refine g_icmp_ne F (q := 27) (tgt := 31) (dk dX7_hearers 17 rfl) (by decide) rfl (fun c24 => ?_) (fun c24 => ?_)
        · refine g_iconst F (q := 32) (v := 1) (dk dX7_hearers 20 rfl) rfl (by decide) ?_
          refine g_iadd F (q := 33) (dk dX7_hearers 21 rfl) rfl ?_
          refine g_sti (y := (nI ((hC r kn (i + 1))))) (hN_t c24) ?_
          refine g_istore_n F (q := 34) (lv' := [(2, .int (nI ((hC r kn (i + 1))))), (0, .ref (ad 233)), (1, .int (nI kn)), (3, .int (nI i))]) (dk dX7_hearers 22 rfl) rfl rfl (Nat.le_of_ble_eq_true rfl) rfl ?_
          refine g_iinc F (q := 37) (v := (nI ((i + 1)))) (lv' := [(3, .int (nI ((i + 1)))), (2, .int (nI ((hC r kn (i + 1))))), (0, .ref (ad 233)), (1, .int (nI kn))]) (dk dX7_hearers 23 rfl) rfl 3 rfl (nI_1 _) (Nat.le_of_ble_eq_true rfl) rfl ?_
          refine g_goto F (tgt := 4) (dk dX7_hearers 24 rfl) (by decide) ?_
          refine g_lv (lv' := [(0, .ref (ad 233)), (1, .int (nI kn)), (2, .int (nI ((hC r kn (i + 1))))), (3, .int (nI ((i + 1))))]) [2, 3, 1, 0] rfl ?_
          exact ih (i + 1) (by omega) (by omega)
        · refine g_iconst F (q := 28) (v := 0) (dk dX7_hearers 18 rfl) rfl (by decide) ?_
          refine g_goto F (tgt := 32) (dk dX7_hearers 19 rfl) (by decide) ?_
          refine g_iadd F (q := 33) (dk dX7_hearers 21 rfl) rfl ?_
          refine g_sti (y := (nI ((hC r kn (i + 1))))) (hN_f c24) ?_
          refine g_istore_n F (q := 34) (lv' := [(2, .int (nI ((hC r kn (i + 1))))), (0, .ref (ad 233)), (1, .int (nI kn)), (3, .int (nI i))]) (dk dX7_hearers 22 rfl) rfl rfl (Nat.le_of_ble_eq_true rfl) rfl ?_
          refine g_iinc F (q := 37) (v := (nI ((i + 1)))) (lv' := [(3, .int (nI ((i + 1)))), (2, .int (nI ((hC r kn (i + 1))))), (0, .ref (ad 233)), (1, .int (nI kn))]) (dk dX7_hearers 23 rfl) rfl 3 rfl (nI_1 _) (Nat.le_of_ble_eq_true rfl) rfl ?_
          refine g_goto F (tgt := 4) (dk dX7_hearers 24 rfl) (by decide) ?_
          refine g_lv (lv' := [(0, .ref (ad 233)), (1, .int (nI kn)), (2, .int (nI ((hC r kn (i + 1))))), (3, .int (nI ((i + 1))))]) [2, 3, 1, 0] rfl ?_
          exact ih (i + 1) (by omega) (by omega)
  refine g_lv (lv' := [(0, .ref (ad 233)), (1, .int (nI kn)), (2, .int 0), (3, .int 0)]) [2, 3, 1, 0] rfl ?_
  exact K4 _ 0 (Nat.lt_succ_self _) (by omega)
theorem kv_X7_hearers : KV yX7_hearers "ThumpEarsModel" cX7_hearers 4 (some .int) 1 := ⟨tq_875, tq_32, tq_47, tq_876, by decide +kernel⟩
abbrev rm_X7_clock : Room := { frames := 2, cells := 0, slots := 0, locals := 47 }
set_option maxHeartbeats 4000000 in
set_option maxRecDepth 100000 in
theorem c_X7_clock {l : Launch} {D : va_G} {cA : Nat → ClassId} {ad : Nat → Nat} {E : Nat → va_E} {s0 s1 s2 s3 s4 s5 : Int32} {lo mo : Int64} {r : Nat → Int32} {ne nt nk : Nat} {ear t : Int32} (h233 : E 233 = .inr (7, [.ref (ad 234), .ref (ad 235), .ref (ad 236), .ref (ad 237), .int s0, .int s1, .ref (ad 238), .int s2, .int s3, .int s4, .int s5, .ref (ad 239), .ref (ad 240), .ref (ad 241), .long lo, .long mo, .ref (ad 242)])) (h234 : E 234 = .inl (cA 0, 346, .inl r))  (hI : Inv r ne nt nk) : CtI l D cA yX7_clock cX7_clock 3 .int rm_X7_clock 243 ad E [.ref (ad 233), .int ear, .int t] (fun x E' => (sCk r ne ear t) = x ∧ E = E') := by
  refine CtI.of (by decide +kernel) (Nat.le_of_ble_eq_true rfl) (fun X F hret => ?_)
  have F : Fr "ThumpEarsModel" cX7_clock 3 D cA X := F
  refine (show GG rm_X7_clock 3 l D X 0 0 243 ad E 0 [(0, .ref (ad 233)), (1, .int ear), (2, .int t)] [] from ?_)
  have hnk := hI.e2
  have hne := hI.e0
  have hnt := hI.e1
  refine g_aload_n F (q := 1) (dk dX7_clock 0 rfl) rfl rfl 0 rfl ?_
  refine g_iload_n F (q := 2) (dk dX7_clock 1 rfl) rfl rfl 1 rfl ?_
  refine g_callVI F (q := 5) (av := [.int ear]) (st := []) (c_X7_noEar (ear := ear) h233 h234 hI.h0 hI.e0) kv_X7_noEar tq_714 h233 rfl (by omega) ⟨rfl, rfl⟩ (by decide) ⟨Nat.le_refl _, Nat.le_refl _⟩ rfl rfl (Nat.le_of_ble_eq_true rfl) (dk dX7_clock 2 rfl) rfl (fun r2 E2 hp2 => ?_)
  rcases hp2 with ⟨rfl, rfl, b2⟩ | ⟨rfl, rfl, b2⟩
  · refine g_if_eq F (q := 8) (tgt := 10) (dk dX7_clock 3 rfl) (by decide) rfl (fun h => absurd h (by decide)) (fun _ => ?_)
    refine g_iconst F (q := 9) (v := (-1)) (dk dX7_clock 4 rfl) rfl (by decide) ?_
    refine hret (-1) E _ _ (dk dX7_clock 5 rfl) (nint _) ?_
    exact ⟨(by unfold sCk; rw [if_pos b2]), rfl⟩
  · obtain ⟨e, he, rfl⟩ := b2
    refine g_if_eq F (q := 8) (tgt := 10) (dk dX7_clock 3 rfl) (by decide) rfl (fun _ => ?_) (fun h => absurd h (by decide))
    refine g_iload_n F (q := 11) (dk dX7_clock 6 rfl) rfl rfl 2 rfl ?_
    refine g_iconst F (q := 12) (v := 0) (dk dX7_clock 7 rfl) rfl (by decide) ?_
    refine g_ldc F (q := 14) (v := 200000) (dk dX7_clock 8 rfl) rfl tq_834 ?_
    refine g_callSI F (q := 17) (av := [.int t, .int 0, .int 200000]) (st := []) (c_X7_in (v := t) (a := 0) (b := 200000)) ks_X7_in tq_707 ⟨rfl, rfl⟩ (by decide) ⟨Nat.le_refl _, Nat.le_refl _⟩ rfl rfl (Nat.le_of_ble_eq_true rfl) (dk dX7_clock 9 rfl) rfl (fun r14 E14 hp14 => ?_)
    rcases hp14 with ⟨rfl, rfl, b14⟩ | ⟨rfl, rfl, b14⟩
    · refine g_if_eq F (q := 20) (tgt := 33) (dk dX7_clock 10 rfl) (by decide) rfl (fun h => absurd h (by decide)) (fun _ => ?_)
      refine g_aload_n F (q := 21) (dk dX7_clock 11 rfl) rfl rfl 0 rfl ?_
      refine g_iload_n F (q := 22) (dk dX7_clock 12 rfl) rfl rfl 1 rfl ?_
      refine g_iload_n F (q := 23) (dk dX7_clock 13 rfl) rfl rfl 2 rfl ?_
      refine g_callVI F (q := 26) (av := [.int (nI e), .int t]) (st := []) (c_X7_reads (e := e) (t := t) h233 h234 (by first | assumption | decide | omega)) kv_X7_reads tq_750 h233 rfl (by omega) ⟨rfl, rfl⟩ (by decide) ⟨Nat.le_refl _, Nat.le_refl _⟩ rfl rfl (Nat.le_of_ble_eq_true rfl) (dk dX7_clock 14 rfl) rfl (fun r23 E23 hp23 => ?_)
      obtain ⟨rfl, rfl⟩ := hp23
      refine g_sipush F (q := 29) (v := 10000) (dk dX7_clock 15 rfl) rfl (by decide) ?_
      refine g_iadd F (q := 30) (dk dX7_clock 16 rfl) rfl ?_
      refine g_goto F (tgt := 35) (dk dX7_clock 17 rfl) (by decide) ?_
      refine hret ((rdc r e t) + 10000) E _ _ (dk dX7_clock 19 rfl) (nint _) ?_
      exact ⟨(by unfold sCk; rw [if_neg (ixN he (by omega)), nI_c (by omega), if_pos b14]), rfl⟩
    · refine g_if_eq F (q := 20) (tgt := 33) (dk dX7_clock 10 rfl) (by decide) rfl (fun _ => ?_) (fun h => absurd h (by decide))
      refine g_bipush F (q := 35) (v := (-2)) (dk dX7_clock 18 rfl) rfl (by decide) ?_
      refine hret (-2) E _ _ (dk dX7_clock 19 rfl) (nint _) ?_
      exact ⟨(by unfold sCk; rw [if_neg (ixN he (by omega)), nI_c (by omega), if_neg b14]), rfl⟩
theorem kv_X7_clock : KV yX7_clock "ThumpEarsModel" cX7_clock 3 (some .int) 2 := ⟨tq_831, tq_832, tq_47, tq_833, by decide +kernel⟩
abbrev rm_X7_mark : Room := { frames := 2, cells := 0, slots := 0, locals := 46 }
set_option maxHeartbeats 4000000 in
set_option maxRecDepth 100000 in
theorem c_X7_mark {l : Launch} {D : va_G} {cA : Nat → ClassId} {ad : Nat → Nat} {E : Nat → va_E} {s0 s1 s2 s3 s4 s5 : Int32} {lo mo : Int64} {r rd er th : Nat → Int32} {ne nt nk : Nat} {ear mk what : Int32} (h233 : E 233 = .inr (7, [.ref (ad 234), .ref (ad 235), .ref (ad 236), .ref (ad 237), .int s0, .int s1, .ref (ad 238), .int s2, .int s3, .int s4, .int s5, .ref (ad 239), .ref (ad 240), .ref (ad 241), .long lo, .long mo, .ref (ad 242)])) (h234 : E 234 = .inl (cA 0, 346, .inl r)) (h239 : E 239 = .inl (cA 0, 10, .inl rd)) (h240 : E 240 = .inl (cA 0, 10, .inl er)) (h241 : E 241 = .inl (cA 0, 10, .inl th))  (hI : Inv r ne nt nk) : CtI l D cA yX7_mark cX7_mark 4 .int rm_X7_mark 243 ad E [.ref (ad 233), .int ear, .int mk, .int what] (fun x E' => ∃ (m2 : Int32) (rd1 : Nat → Int32) (er1 : Nat → Int32) (th1 : Nat → Int32), (sMark r ne nt ear mk what) = x ∧ E' 233 = .inr (7, [.ref (ad 234), .ref (ad 235), .ref (ad 236), .ref (ad 237), .int s0, .int s1, .ref (ad 238), .int s2, .int s3, .int s4, .int m2, .ref (ad 239), .ref (ad 240), .ref (ad 241), .long lo, .long mo, .ref (ad 242)]) ∧ E' 239 = .inl (cA 0, 10, .inl rd1) ∧ E' 240 = .inl (cA 0, 10, .inl er1) ∧ E' 241 = .inl (cA 0, 10, .inl th1) ∧ ∀ j, (j ≠ 233 ∧ j ≠ 239 ∧ j ≠ 240 ∧ j ≠ 241) → E' j = E j) := by
  refine CtI.of (by decide +kernel) (Nat.le_of_ble_eq_true rfl) (fun X F hret => ?_)
  have F : Fr "ThumpEarsModel" cX7_mark 4 D cA X := F
  refine (show GG rm_X7_mark 4 l D X 0 0 243 ad E 0 [(0, .ref (ad 233)), (1, .int ear), (2, .int mk), (3, .int what)] [] from ?_)
  have hnk := hI.e2
  have hne := hI.e0
  have hnt := hI.e1
  refine g_aload_n F (q := 1) (dk dX7_mark 0 rfl) rfl rfl 0 rfl ?_
  refine g_iload_n F (q := 2) (dk dX7_mark 1 rfl) rfl rfl 1 rfl ?_
  refine g_callVI F (q := 5) (av := [.int ear]) (st := []) (c_X7_noEar (ear := ear) h233 h234 hI.h0 hI.e0) kv_X7_noEar tq_714 h233 rfl (by omega) ⟨rfl, rfl⟩ (by decide) ⟨Nat.le_refl _, Nat.le_refl _⟩ rfl rfl (Nat.le_of_ble_eq_true rfl) (dk dX7_mark 2 rfl) rfl (fun r2 E2 hp2 => ?_)
  rcases hp2 with ⟨rfl, rfl, b2⟩ | ⟨rfl, rfl, b2⟩
  · refine g_if_eq F (q := 8) (tgt := 10) (dk dX7_mark 3 rfl) (by decide) rfl (fun h => absurd h (by decide)) (fun _ => ?_)
    refine g_iconst F (q := 9) (v := (-1)) (dk dX7_mark 4 rfl) rfl (by decide) ?_
    refine hret (-1) E _ _ (dk dX7_mark 5 rfl) (nint _) ?_
    exact ⟨_, _, _, _, (by unfold sMark; rw [if_pos b2]), h233, h239, h240, h241, (fun j _ => rfl)⟩
  · obtain ⟨e, he, rfl⟩ := b2
    refine g_if_eq F (q := 8) (tgt := 10) (dk dX7_mark 3 rfl) (by decide) rfl (fun _ => ?_) (fun h => absurd h (by decide))
    refine g_iload_n F (q := 11) (dk dX7_mark 6 rfl) rfl rfl 2 rfl ?_
    refine g_if_lt F (q := 14) (tgt := 23) (dk dX7_mark 7 rfl) (by decide) rfl (fun c11 => ?_) (fun c11 => ?_)
    · refine g_bipush F (q := 25) (v := (-2)) (dk dX7_mark 13 rfl) rfl (by decide) ?_
      refine hret (-2) E _ _ (dk dX7_mark 14 rfl) (nint _) ?_
      exact ⟨_, _, _, _, (by unfold sMark; rw [if_neg (ixN he (by omega)), nI_c (by omega), if_pos (Or.inl c11)]), h233, h239, h240, h241, (fun j _ => rfl)⟩
    · refine g_iload_n F (q := 15) (dk dX7_mark 8 rfl) rfl rfl 3 rfl ?_
      refine g_iconst F (q := 16) (v := 0) (dk dX7_mark 9 rfl) rfl (by decide) ?_
      refine g_iconst F (q := 17) (v := 2) (dk dX7_mark 10 rfl) rfl (by decide) ?_
      refine g_callSI F (q := 20) (av := [.int what, .int 0, .int 2]) (st := []) (c_X7_in (v := what) (a := 0) (b := 2)) ks_X7_in tq_707 ⟨rfl, rfl⟩ (by decide) ⟨Nat.le_refl _, Nat.le_refl _⟩ rfl rfl (Nat.le_of_ble_eq_true rfl) (dk dX7_mark 11 rfl) rfl (fun r17 E17 hp17 => ?_)
      rcases hp17 with ⟨rfl, rfl, b17⟩ | ⟨rfl, rfl, b17⟩
      · refine g_if_ne F (q := 23) (tgt := 26) (dk dX7_mark 12 rfl) (by decide) rfl (fun _ => ?_) (fun h => absurd h (by decide))
        obtain ⟨j, hj, rfl⟩ := nI_of c11
        refine g_aload_n F (q := 27) (dk dX7_mark 15 rfl) rfl rfl 0 rfl ?_
        refine g_iload_n F (q := 28) (dk dX7_mark 16 rfl) rfl rfl 1 rfl ?_
        refine g_callVV F (q := 31) (av := [.int (nI e)]) (st := []) (c_X7_findMarks (e := e) h233 h234 h239 h240 h241 (by first | assumption | decide | omega) hI.h1 hI.e1) kv_X7_findMarks tq_818 h233 rfl (by omega) ⟨rfl, rfl⟩ (by decide) ⟨Nat.le_refl _, Nat.le_refl _⟩ rfl rfl (Nat.le_of_ble_eq_true rfl) (dk dX7_mark 17 rfl) rfl (fun E28 hp28 => ?_)
        obtain ⟨rd1_28, er1_28, th1_28, hK233_28, hK239_28, hK240_28, hK241_28, hH_28, hF28⟩ := hp28
        have hml := mC_le (r := r) (e := e) nt
        refine g_iload_n F (q := 32) (dk dX7_mark 18 rfl) rfl rfl 2 rfl ?_
        refine g_aload_n F (q := 33) (dk dX7_mark 19 rfl) rfl rfl 0 rfl ?_
        refine g_getf F (q := 36) hK233_28 rfl inX7 (by omega) (j := 10) (by decide) tq_633 rfl rfl (dk dX7_mark 20 rfl) rfl ?_
        refine g_icmp_lt F (q := 39) (tgt := 42) (dk dX7_mark 21 rfl) (by decide) rfl (fun c36 => ?_) (fun c36 => ?_)
        · have nc36 : j < (mC r e nt) := (nI_ltI (a := j) (b := (mC r e nt)) (by omega) (by omega)).mp c36
          refine g_iload_n F (q := 43) (dk dX7_mark 24 rfl) rfl rfl 3 rfl ?_
          refine g_if_ne F (q := 46) (tgt := 59) (dk dX7_mark 25 rfl) (by decide) rfl (fun c43 => ?_) (fun c43 => ?_)
          · refine g_iload_n F (q := 60) (dk dX7_mark 33 rfl) rfl rfl 3 rfl ?_
            refine g_iconst F (q := 61) (v := 1) (dk dX7_mark 34 rfl) rfl (by decide) ?_
            refine g_icmp_ne F (q := 64) (tgt := 77) (dk dX7_mark 35 rfl) (by decide) rfl (fun c61 => ?_) (fun c61 => ?_)
            · refine g_aload_n F (q := 78) (dk dX7_mark 43 rfl) rfl rfl 0 rfl ?_
              refine g_getf F (q := 81) hK233_28 rfl inX7 (by omega) (j := 13) (by decide) tq_636 rfl rfl (dk dX7_mark 44 rfl) rfl ?_
              refine g_iload_n F (q := 82) (dk dX7_mark 45 rfl) rfl rfl 2 rfl ?_
              refine g_iald F (q := 83) j hK241_28 (by omega) rfl (by omega) (by decide) (dk dX7_mark 46 rfl) rfl ?_
              refine g_sti (y := (mTh r e nt j)) (hH_28 j (by omega)).2.2 ?_
              refine hret (mTh r e nt j) E28 _ _ (dk dX7_mark 47 rfl) (nint _) ?_
              exact ⟨_, _, _, _, (by unfold sMark; rw [if_neg (ixN he (by omega)), nI_c (by omega), if_neg (fun h => h.elim c11 (fun q => q b17)), nI_c (by omega), if_neg (by omega), if_neg c43, if_neg c61]), hK233_28, hK239_28, hK240_28, hK241_28, (fun j hj => (hF28 j (by omega)))⟩
            · refine g_aload_n F (q := 65) (dk dX7_mark 36 rfl) rfl rfl 0 rfl ?_
              refine g_getf F (q := 68) hK233_28 rfl inX7 (by omega) (j := 12) (by decide) tq_635 rfl rfl (dk dX7_mark 37 rfl) rfl ?_
              refine g_iload_n F (q := 69) (dk dX7_mark 38 rfl) rfl rfl 2 rfl ?_
              refine g_iald F (q := 70) j hK240_28 (by omega) rfl (by omega) (by decide) (dk dX7_mark 39 rfl) rfl ?_
              refine g_sti (y := (mEr r e nt j)) (hH_28 j (by omega)).2.1 ?_
              refine g_sipush F (q := 73) (v := 10000) (dk dX7_mark 40 rfl) rfl (by decide) ?_
              refine g_iadd F (q := 74) (dk dX7_mark 41 rfl) rfl ?_
              refine g_goto F (tgt := 83) (dk dX7_mark 42 rfl) (by decide) ?_
              refine hret ((mEr r e nt j) + 10000) E28 _ _ (dk dX7_mark 47 rfl) (nint _) ?_
              exact ⟨_, _, _, _, (by unfold sMark; rw [if_neg (ixN he (by omega)), nI_c (by omega), if_neg (fun h => h.elim c11 (fun q => q b17)), nI_c (by omega), if_neg (by omega), if_neg c43, if_pos c61]), hK233_28, hK239_28, hK240_28, hK241_28, (fun j hj => (hF28 j (by omega)))⟩
          · refine g_aload_n F (q := 47) (dk dX7_mark 26 rfl) rfl rfl 0 rfl ?_
            refine g_getf F (q := 50) hK233_28 rfl inX7 (by omega) (j := 11) (by decide) tq_634 rfl rfl (dk dX7_mark 27 rfl) rfl ?_
            refine g_iload_n F (q := 51) (dk dX7_mark 28 rfl) rfl rfl 2 rfl ?_
            refine g_iald F (q := 52) j hK239_28 (by omega) rfl (by omega) (by decide) (dk dX7_mark 29 rfl) rfl ?_
            refine g_sti (y := (mRd r e nt j)) (hH_28 j (by omega)).1 ?_
            refine g_sipush F (q := 55) (v := 10000) (dk dX7_mark 30 rfl) rfl (by decide) ?_
            refine g_iadd F (q := 56) (dk dX7_mark 31 rfl) rfl ?_
            refine g_goto F (tgt := 83) (dk dX7_mark 32 rfl) (by decide) ?_
            refine hret ((mRd r e nt j) + 10000) E28 _ _ (dk dX7_mark 47 rfl) (nint _) ?_
            exact ⟨_, _, _, _, (by unfold sMark; rw [if_neg (ixN he (by omega)), nI_c (by omega), if_neg (fun h => h.elim c11 (fun q => q b17)), nI_c (by omega), if_neg (by omega), if_pos c43]), hK233_28, hK239_28, hK240_28, hK241_28, (fun j hj => (hF28 j (by omega)))⟩
        · have nc36 : ¬ j < (mC r e nt) := fun h => c36 ((nI_ltI (a := j) (b := (mC r e nt)) (by omega) (by omega)).mpr h)
          refine g_bipush F (q := 41) (v := (-5)) (dk dX7_mark 22 rfl) rfl (by decide) ?_
          refine hret (-5) E28 _ _ (dk dX7_mark 23 rfl) (nint _) ?_
          exact ⟨_, _, _, _, (by unfold sMark; rw [if_neg (ixN he (by omega)), nI_c (by omega), if_neg (fun h => h.elim c11 (fun q => q b17)), nI_c (by omega), if_pos (by omega)]), hK233_28, hK239_28, hK240_28, hK241_28, (fun j hj => (hF28 j (by omega)))⟩
      · refine g_if_ne F (q := 23) (tgt := 26) (dk dX7_mark 12 rfl) (by decide) rfl (fun h => absurd h (by decide)) (fun _ => ?_)
        refine g_bipush F (q := 25) (v := (-2)) (dk dX7_mark 13 rfl) rfl (by decide) ?_
        refine hret (-2) E _ _ (dk dX7_mark 14 rfl) (nint _) ?_
        exact ⟨_, _, _, _, (by unfold sMark; rw [if_neg (ixN he (by omega)), nI_c (by omega), if_pos (Or.inr b17)]), h233, h239, h240, h241, (fun j _ => rfl)⟩
theorem kv_X7_mark : KV yX7_mark "ThumpEarsModel" cX7_mark 4 (some .int) 3 := ⟨tq_836, tq_837, tq_47, tq_838, by decide +kernel⟩
abbrev rm_X7_error : Room := { frames := 3, cells := 0, slots := 0, locals := 71 }
set_option maxHeartbeats 4000000 in
set_option maxRecDepth 100000 in
theorem c_X7_error {l : Launch} {D : va_G} {cA : Nat → ClassId} {ad : Nat → Nat} {E : Nat → va_E} {s0 s1 s2 s3 s4 s5 : Int32} {lo mo : Int64} {r rd er th : Nat → Int32} {ne nt nk : Nat} {ear c : Int32} (h233 : E 233 = .inr (7, [.ref (ad 234), .ref (ad 235), .ref (ad 236), .ref (ad 237), .int s0, .int s1, .ref (ad 238), .int s2, .int s3, .int s4, .int s5, .ref (ad 239), .ref (ad 240), .ref (ad 241), .long lo, .long mo, .ref (ad 242)])) (h234 : E 234 = .inl (cA 0, 346, .inl r)) (h239 : E 239 = .inl (cA 0, 10, .inl rd)) (h240 : E 240 = .inl (cA 0, 10, .inl er)) (h241 : E 241 = .inl (cA 0, 10, .inl th))  (hI : Inv r ne nt nk) : CtL l D cA yX7_error cX7_error 3 rm_X7_error 243 ad E [.ref (ad 233), .int ear, .int c] (fun x E' => ∃ (m2 : Int32) (rd1 : Nat → Int32) (er1 : Nat → Int32) (th1 : Nat → Int32), (sErr r ne nt ear c) = x ∧ E' 233 = .inr (7, [.ref (ad 234), .ref (ad 235), .ref (ad 236), .ref (ad 237), .int s0, .int s1, .ref (ad 238), .int s2, .int s3, .int s4, .int m2, .ref (ad 239), .ref (ad 240), .ref (ad 241), .long lo, .long mo, .ref (ad 242)]) ∧ E' 239 = .inl (cA 0, 10, .inl rd1) ∧ E' 240 = .inl (cA 0, 10, .inl er1) ∧ E' 241 = .inl (cA 0, 10, .inl th1) ∧ ∀ j, (j ≠ 233 ∧ j ≠ 239 ∧ j ≠ 240 ∧ j ≠ 241) → E' j = E j) := by
  refine CtL.of (by decide +kernel) (Nat.le_of_ble_eq_true rfl) (fun X F hret => ?_)
  have F : Fr "ThumpEarsModel" cX7_error 3 D cA X := F
  refine (show GG rm_X7_error 3 l D X 0 0 243 ad E 0 [(0, .ref (ad 233)), (1, .int ear), (2, .int c)] [] from ?_)
  have hnk := hI.e2
  have hne := hI.e0
  have hnt := hI.e1
  refine g_aload_n F (q := 1) (dk dX7_error 0 rfl) rfl rfl 0 rfl ?_
  refine g_iload_n F (q := 2) (dk dX7_error 1 rfl) rfl rfl 1 rfl ?_
  refine g_callVI F (q := 5) (av := [.int ear]) (st := []) (c_X7_noEar (ear := ear) h233 h234 hI.h0 hI.e0) kv_X7_noEar tq_714 h233 rfl (by omega) ⟨rfl, rfl⟩ (by decide) ⟨Nat.le_refl _, Nat.le_refl _⟩ rfl rfl (Nat.le_of_ble_eq_true rfl) (dk dX7_error 2 rfl) rfl (fun r2 E2 hp2 => ?_)
  rcases hp2 with ⟨rfl, rfl, b2⟩ | ⟨rfl, rfl, b2⟩
  · refine g_if_eq F (q := 8) (tgt := 13) (dk dX7_error 3 rfl) (by decide) rfl (fun h => absurd h (by decide)) (fun _ => ?_)
    refine g_iconst F (q := 9) (v := (-1)) (dk dX7_error 4 rfl) rfl (by decide) ?_
    refine g_callSL F (q := 12) (av := [.int (-1)]) (st := []) (c_X7_toldAs (a := (-1))) ks_X7_toldAs tq_843 ⟨rfl, rfl⟩ (by decide) ⟨Nat.le_refl _, Nat.le_refl _⟩ rfl rfl (Nat.le_of_ble_eq_true rfl) (dk dX7_error 5 rfl) rfl (fun r9 E9 hp9 => ?_)
    obtain ⟨rfl, rfl⟩ := hp9
    refine hret (toldAs (-1)) E _ _ (dk dX7_error 6 rfl) ?_
    exact ⟨_, _, _, _, (by unfold sErr; rw [if_pos b2]), h233, h239, h240, h241, (fun j _ => rfl)⟩
  · obtain ⟨e, he, rfl⟩ := b2
    refine g_if_eq F (q := 8) (tgt := 13) (dk dX7_error 3 rfl) (by decide) rfl (fun _ => ?_) (fun h => absurd h (by decide))
    refine g_iload_n F (q := 14) (dk dX7_error 7 rfl) rfl rfl 2 rfl ?_
    refine g_sipush F (q := 17) (v := (-10000)) (dk dX7_error 8 rfl) rfl (by decide) ?_
    refine g_ldc F (q := 19) (v := 300000) (dk dX7_error 9 rfl) rfl tq_847 ?_
    refine g_callSI F (q := 22) (av := [.int c, .int (-10000), .int 300000]) (st := []) (c_X7_in (v := c) (a := (-10000)) (b := 300000)) ks_X7_in tq_707 ⟨rfl, rfl⟩ (by decide) ⟨Nat.le_refl _, Nat.le_refl _⟩ rfl rfl (Nat.le_of_ble_eq_true rfl) (dk dX7_error 10 rfl) rfl (fun r19 E19 hp19 => ?_)
    rcases hp19 with ⟨rfl, rfl, b19⟩ | ⟨rfl, rfl, b19⟩
    · refine g_if_eq F (q := 25) (tgt := 34) (dk dX7_error 11 rfl) (by decide) rfl (fun h => absurd h (by decide)) (fun _ => ?_)
      refine g_aload_n F (q := 26) (dk dX7_error 12 rfl) rfl rfl 0 rfl ?_
      refine g_iload_n F (q := 27) (dk dX7_error 13 rfl) rfl rfl 1 rfl ?_
      refine g_iload_n F (q := 28) (dk dX7_error 14 rfl) rfl rfl 2 rfl ?_
      refine g_callVL F (q := 31) (av := [.int (nI e), .int c]) (st := []) (c_X7_errorAt (e := e) (c := c) h233 h234 h239 h240 h241 (by first | assumption | decide | omega) (by first | assumption | decide | omega)) kv_X7_errorAt tq_848 h233 rfl (by omega) ⟨rfl, rfl⟩ (by decide) ⟨Nat.le_refl _, Nat.le_refl _⟩ rfl rfl (Nat.le_of_ble_eq_true rfl) (dk dX7_error 15 rfl) rfl (fun r28 E28 hp28 => ?_)
      obtain ⟨m2_28, rd1_28, er1_28, th1_28, rfl, hK233_28, hK239_28, hK240_28, hK241_28, hF28⟩ := hp28
      refine g_goto F (tgt := 39) (dk dX7_error 16 rfl) (by decide) ?_
      refine hret (errR r e nt c) E28 _ _ (dk dX7_error 19 rfl) ?_
      exact ⟨_, _, _, _, (by unfold sErr; rw [if_neg (ixN he (by omega)), nI_c (by omega), if_pos b19]), hK233_28, hK239_28, hK240_28, hK241_28, (fun j hj => (hF28 j (by omega)))⟩
    · refine g_if_eq F (q := 25) (tgt := 34) (dk dX7_error 11 rfl) (by decide) rfl (fun _ => ?_) (fun h => absurd h (by decide))
      refine g_bipush F (q := 36) (v := (-2)) (dk dX7_error 17 rfl) rfl (by decide) ?_
      refine g_callSL F (q := 39) (av := [.int (-2)]) (st := []) (c_X7_toldAs (a := (-2))) ks_X7_toldAs tq_843 ⟨rfl, rfl⟩ (by decide) ⟨Nat.le_refl _, Nat.le_refl _⟩ rfl rfl (Nat.le_of_ble_eq_true rfl) (dk dX7_error 18 rfl) rfl (fun r36 E36 hp36 => ?_)
      obtain ⟨rfl, rfl⟩ := hp36
      refine hret (toldAs (-2)) E _ _ (dk dX7_error 19 rfl) ?_
      exact ⟨_, _, _, _, (by unfold sErr; rw [if_neg (ixN he (by omega)), nI_c (by omega), if_neg b19]), h233, h239, h240, h241, (fun j _ => rfl)⟩
theorem kv_X7_error : KV yX7_error "ThumpEarsModel" cX7_error 3 (some .long) 2 := ⟨tq_840, tq_841, tq_47, tq_842, by decide +kernel⟩
abbrev rm_X7_stalest : Room := { frames := 2, cells := 0, slots := 0, locals := 46 }
set_option maxHeartbeats 4000000 in
set_option maxRecDepth 100000 in
theorem c_X7_stalest {l : Launch} {D : va_G} {cA : Nat → ClassId} {ad : Nat → Nat} {E : Nat → va_E} {s0 s1 s2 s3 s4 s5 : Int32} {lo mo : Int64} {r rd er th : Nat → Int32} {ne nt nk : Nat}  (h233 : E 233 = .inr (7, [.ref (ad 234), .ref (ad 235), .ref (ad 236), .ref (ad 237), .int s0, .int s1, .ref (ad 238), .int s2, .int s3, .int s4, .int s5, .ref (ad 239), .ref (ad 240), .ref (ad 241), .long lo, .long mo, .ref (ad 242)])) (h234 : E 234 = .inl (cA 0, 346, .inl r)) (h239 : E 239 = .inl (cA 0, 10, .inl rd)) (h240 : E 240 = .inl (cA 0, 10, .inl er)) (h241 : E 241 = .inl (cA 0, 10, .inl th))  (hI : Inv r ne nt nk) : CtI l D cA yX7_stalest cX7_stalest 5 .int rm_X7_stalest 243 ad E [.ref (ad 233)] (fun x E' => ∃ (m2 : Int32) (rd1 : Nat → Int32) (er1 : Nat → Int32) (th1 : Nat → Int32), (stF r nt ne).1 = x ∧ E' 233 = .inr (7, [.ref (ad 234), .ref (ad 235), .ref (ad 236), .ref (ad 237), .int s0, .int s1, .ref (ad 238), .int s2, .int s3, .int s4, .int m2, .ref (ad 239), .ref (ad 240), .ref (ad 241), .long lo, .long mo, .ref (ad 242)]) ∧ E' 239 = .inl (cA 0, 10, .inl rd1) ∧ E' 240 = .inl (cA 0, 10, .inl er1) ∧ E' 241 = .inl (cA 0, 10, .inl th1) ∧ ∀ j, (j ≠ 233 ∧ j ≠ 239 ∧ j ≠ 240 ∧ j ≠ 241) → E' j = E j) := by
  refine CtI.of (by decide +kernel) (Nat.le_of_ble_eq_true rfl) (fun X F hret => ?_)
  have F : Fr "ThumpEarsModel" cX7_stalest 5 D cA X := F
  refine (show GG rm_X7_stalest 5 l D X 0 0 243 ad E 0 [(0, .ref (ad 233))] [] from ?_)
  have hnk := hI.e2
  have hne := hI.e0
  have hnt := hI.e1
  refine g_bipush F (q := 2) (v := (-5)) (dk dX7_stalest 0 rfl) rfl (by decide) ?_
  refine g_istore_n F (q := 3) (lv' := [(1, .int (-5)), (0, .ref (ad 233))]) (dk dX7_stalest 1 rfl) rfl rfl (Nat.le_of_ble_eq_true rfl) rfl ?_
  refine g_bipush F (q := 5) (v := 10) (dk dX7_stalest 2 rfl) rfl (by decide) ?_
  refine g_istore_n F (q := 6) (lv' := [(2, .int 10), (1, .int (-5)), (0, .ref (ad 233))]) (dk dX7_stalest 3 rfl) rfl rfl (Nat.le_of_ble_eq_true rfl) rfl ?_
  refine g_iconst F (q := 7) (v := 0) (dk dX7_stalest 4 rfl) rfl (by decide) ?_
  refine g_istore_n F (q := 8) (lv' := [(3, .int 0), (2, .int 10), (1, .int (-5)), (0, .ref (ad 233))]) (dk dX7_stalest 5 rfl) rfl rfl (Nat.le_of_ble_eq_true rfl) rfl ?_
  have K8 : ∀ (fu : Nat) (i : Nat) (b1 : Int32) (b2 : Int32) (m3 : Int32) (rd2 : Nat → Int32) (er2 : Nat → Int32) (th2 : Nat → Int32) (E1 : Nat → va_E), ne - i < fu → (h3 : E1 233 = .inr (7, [.ref (ad 234), .ref (ad 235), .ref (ad 236), .ref (ad 237), .int s0, .int s1, .ref (ad 238), .int s2, .int s3, .int s4, .int m3, .ref (ad 239), .ref (ad 240), .ref (ad 241), .long lo, .long mo, .ref (ad 242)])) → (h9 : E1 239 = .inl (cA 0, 10, .inl rd2)) → (h40 : E1 240 = .inl (cA 0, 10, .inl er2)) → (h41 : E1 241 = .inl (cA 0, 10, .inl th2)) → (hfr8 : ∀ j, (j ≠ 233 ∧ j ≠ 239 ∧ j ≠ 240 ∧ j ≠ 241) → E1 j = E j) → (hi : i ≤ ne) → (hb1 : b1 = (stF r nt i).1) → (hb2 : b2 = (stF r nt i).2) → GG rm_X7_stalest 5 l D X 0 0 243 ad E1 8 [(0, .ref (ad 233)), (1, .int b1), (2, .int b2), (3, .int (nI i))] [] := by
    intro fu
    induction fu with
    | zero => intro i b1 b2 m3 rd2 er2 th2 E1 hfu_; exact absurd hfu_ (Nat.not_lt_zero _)
    | succ fu ih =>
      intro i b1 b2 m3 rd2 er2 th2 E1 hfu_ h3 h9 h40 h41 hfr8 hi hb1 hb2
      refine g_iload_n F (q := 9) (dk dX7_stalest 6 rfl) rfl rfl 3 rfl ?_
      refine g_aload_n F (q := 10) (dk dX7_stalest 7 rfl) rfl rfl 0 rfl ?_
      refine g_getf F (q := 13) h3 rfl inX7 (by omega) (j := 0) (by decide) tq_623 rfl rfl (dk dX7_stalest 8 rfl) rfl ?_
      refine g_iconst F (q := 14) (v := 0) (dk dX7_stalest 9 rfl) rfl (by decide) ?_
      have hc1 := (hfr8 234 (by omega)).trans h234
      refine g_iald F (q := 15) 0 hc1 (by omega) rfl (by omega) (by decide) (dk dX7_stalest 10 rfl) rfl ?_
      refine g_sti (y := (nI ne)) hI.h0 ?_
      refine g_icmp_ge F (q := 18) (tgt := 64) (dk dX7_stalest 11 rfl) (by decide) rfl (fun c15 => ?_) (fun c15 => ?_)
      · have nc15 : ne ≤ i := (nI_leI (a := ne) (b := i) (by omega) (by omega)).mp c15
        refine g_iload_n F (q := 65) (dk dX7_stalest 37 rfl) rfl rfl 1 rfl ?_
        refine hret b1 E1 _ _ (dk dX7_stalest 38 rfl) (nint _) ?_
        exact ⟨_, _, _, _, (by rw [show ne = i by omega]; exact hb1.symm), h3, h9, h40, h41, (fun j hj => (hfr8 j (by omega)))⟩
      · have nc15 : ¬ ne ≤ i := fun h => c15 ((nI_leI (a := ne) (b := i) (by omega) (by omega)).mpr h)
        refine g_aload_n F (q := 19) (dk dX7_stalest 12 rfl) rfl rfl 0 rfl ?_
        refine g_iload_n F (q := 20) (dk dX7_stalest 13 rfl) rfl rfl 3 rfl ?_
        refine g_callVV F (q := 23) (av := [.int (nI i)]) (st := []) (c_X7_findMarks (e := i) h3 hc1 h9 h40 h41 (by first | assumption | decide | omega) hI.h1 hI.e1) kv_X7_findMarks tq_818 h3 rfl (by omega) ⟨rfl, rfl⟩ (by decide) ⟨Nat.le_refl _, Nat.le_refl _⟩ rfl rfl (Nat.le_of_ble_eq_true rfl) (dk dX7_stalest 14 rfl) rfl (fun E20 hp20 => ?_)
        obtain ⟨rd1_20, er1_20, th1_20, hK233_20, hK239_20, hK240_20, hK241_20, hH_20, hF20⟩ := hp20
        have hml := mC_le (r := r) (e := i) nt
        refine g_aload_n F (q := 24) (dk dX7_stalest 15 rfl) rfl rfl 0 rfl ?_
        refine g_getf F (q := 27) hK233_20 rfl inX7 (by omega) (j := 10) (by decide) tq_633 rfl rfl (dk dX7_stalest 16 rfl) rfl ?_
        refine g_if_ne F (q := 30) (tgt := 34) (dk dX7_stalest 17 rfl) (by decide) rfl (fun c27 => ?_) (fun c27 => ?_)
        · have nc27 : ¬ (mC r i nt) = 0 := fun h => c27 ((nI_eq (a := (mC r i nt)) (b := 0) (by omega) (by omega)).mpr h)
          refine g_aload_n F (q := 35) (dk dX7_stalest 20 rfl) rfl rfl 0 rfl ?_
          refine g_getf F (q := 38) hK233_20 rfl inX7 (by omega) (j := 13) (by decide) tq_636 rfl rfl (dk dX7_stalest 21 rfl) rfl ?_
          refine g_aload_n F (q := 39) (dk dX7_stalest 22 rfl) rfl rfl 0 rfl ?_
          refine g_getf F (q := 42) hK233_20 rfl inX7 (by omega) (j := 10) (by decide) tq_633 rfl rfl (dk dX7_stalest 23 rfl) rfl ?_
          refine g_iconst F (q := 43) (v := 1) (dk dX7_stalest 24 rfl) rfl (by decide) ?_
          refine g_isub F (q := 44) (dk dX7_stalest 25 rfl) rfl ?_
          refine g_sti (y := (nI ((mC r i nt - 1)))) (nI_sub1 (by omega)) ?_
          refine g_iald F (q := 45) ((mC r i nt - 1)) hK241_20 (by omega) rfl (by omega) (by decide) (dk dX7_stalest 26 rfl) rfl ?_
          refine g_sti (y := (lth r nt i)) ((if_neg nc27).trans (hH_20 _ (by omega)).2.2.symm).symm ?_
          refine g_istore F (q := 47) (lv' := [(4, .int (lth r nt i)), (0, .ref (ad 233)), (1, .int b1), (2, .int b2), (3, .int (nI i))]) (dk dX7_stalest 27 rfl) rfl (Nat.le_of_ble_eq_true rfl) rfl ?_
          refine g_iload F (q := 49) (dk dX7_stalest 28 rfl) rfl 0 rfl ?_
          refine g_iload_n F (q := 50) (dk dX7_stalest 29 rfl) rfl rfl 3 rfl ?_
          refine g_icmp_ge F (q := 53) (tgt := 58) (dk dX7_stalest 30 rfl) (by decide) rfl (fun c50 => ?_) (fun c50 => ?_)
          · refine g_iinc F (q := 61) (v := (nI ((i + 1)))) (lv' := [(3, .int (nI ((i + 1)))), (4, .int (lth r nt i)), (0, .ref (ad 233)), (1, .int b1), (2, .int b2)]) (dk dX7_stalest 35 rfl) rfl 4 rfl (nI_1 _) (Nat.le_of_ble_eq_true rfl) rfl ?_
            refine g_goto F (tgt := 8) (dk dX7_stalest 36 rfl) (by decide) ?_
            have hst := stF_f (r := r) (nt := nt) (e := i) (by rw [← hb2]; exact Int32.not_lt.mpr c50)
            refine g_lv (lv' := [(0, .ref (ad 233)), (1, .int b1), (2, .int b2), (3, .int (nI ((i + 1))))]) [2, 3, 4, 0] rfl ?_
            exact ih (i + 1) b1 b2 (nI ((mC r i nt))) rd1_20 er1_20 th1_20 E20 (by omega) hK233_20 hK239_20 hK240_20 hK241_20 (fun j hj => ((hF20 j (by omega)).trans (hfr8 j (by omega)))) (by omega) (by rw [hst]; exact hb1) (by rw [hst]; exact hb2)
          · refine g_iload_n F (q := 54) (dk dX7_stalest 31 rfl) rfl rfl 4 rfl ?_
            refine g_istore_n F (q := 55) (lv' := [(1, .int (nI i)), (4, .int (lth r nt i)), (0, .ref (ad 233)), (2, .int b2), (3, .int (nI i))]) (dk dX7_stalest 32 rfl) rfl rfl (Nat.le_of_ble_eq_true rfl) rfl ?_
            refine g_iload F (q := 57) (dk dX7_stalest 33 rfl) rfl 1 rfl ?_
            refine g_istore_n F (q := 58) (lv' := [(2, .int (lth r nt i)), (1, .int (nI i)), (4, .int (lth r nt i)), (0, .ref (ad 233)), (3, .int (nI i))]) (dk dX7_stalest 34 rfl) rfl rfl (Nat.le_of_ble_eq_true rfl) rfl ?_
            refine g_iinc F (q := 61) (v := (nI ((i + 1)))) (lv' := [(3, .int (nI ((i + 1)))), (2, .int (lth r nt i)), (1, .int (nI i)), (4, .int (lth r nt i)), (0, .ref (ad 233))]) (dk dX7_stalest 35 rfl) rfl 4 rfl (nI_1 _) (Nat.le_of_ble_eq_true rfl) rfl ?_
            refine g_goto F (tgt := 8) (dk dX7_stalest 36 rfl) (by decide) ?_
            have hst := stF_t (r := r) (nt := nt) (e := i) (by rw [← hb2]; exact Int32.not_le.mp c50)
            refine g_lv (lv' := [(0, .ref (ad 233)), (1, .int (nI i)), (2, .int (lth r nt i)), (3, .int (nI ((i + 1))))]) [4, 2, 1, 0] rfl ?_
            exact ih (i + 1) (nI i) (lth r nt i) (nI ((mC r i nt))) rd1_20 er1_20 th1_20 E20 (by omega) hK233_20 hK239_20 hK240_20 hK241_20 (fun j hj => ((hF20 j (by omega)).trans (hfr8 j (by omega)))) (by omega) (by rw [hst]) (by rw [hst])
        · have nc27 : (mC r i nt) = 0 := (nI_eq (a := (mC r i nt)) (b := 0) (by omega) (by omega)).mp c27
          refine g_iconst F (q := 31) (v := (-1)) (dk dX7_stalest 18 rfl) rfl (by decide) ?_
          refine g_goto F (tgt := 45) (dk dX7_stalest 19 rfl) (by decide) ?_
          refine g_sti (y := (lth r nt i)) (if_pos nc27).symm ?_
          refine g_istore F (q := 47) (lv' := [(4, .int (lth r nt i)), (0, .ref (ad 233)), (1, .int b1), (2, .int b2), (3, .int (nI i))]) (dk dX7_stalest 27 rfl) rfl (Nat.le_of_ble_eq_true rfl) rfl ?_
          refine g_iload F (q := 49) (dk dX7_stalest 28 rfl) rfl 0 rfl ?_
          refine g_iload_n F (q := 50) (dk dX7_stalest 29 rfl) rfl rfl 3 rfl ?_
          refine g_icmp_ge F (q := 53) (tgt := 58) (dk dX7_stalest 30 rfl) (by decide) rfl (fun c50 => ?_) (fun c50 => ?_)
          · refine g_iinc F (q := 61) (v := (nI ((i + 1)))) (lv' := [(3, .int (nI ((i + 1)))), (4, .int (lth r nt i)), (0, .ref (ad 233)), (1, .int b1), (2, .int b2)]) (dk dX7_stalest 35 rfl) rfl 4 rfl (nI_1 _) (Nat.le_of_ble_eq_true rfl) rfl ?_
            refine g_goto F (tgt := 8) (dk dX7_stalest 36 rfl) (by decide) ?_
            have hst := stF_f (r := r) (nt := nt) (e := i) (by rw [← hb2]; exact Int32.not_lt.mpr c50)
            refine g_lv (lv' := [(0, .ref (ad 233)), (1, .int b1), (2, .int b2), (3, .int (nI ((i + 1))))]) [2, 3, 4, 0] rfl ?_
            exact ih (i + 1) b1 b2 (nI ((mC r i nt))) rd1_20 er1_20 th1_20 E20 (by omega) hK233_20 hK239_20 hK240_20 hK241_20 (fun j hj => ((hF20 j (by omega)).trans (hfr8 j (by omega)))) (by omega) (by rw [hst]; exact hb1) (by rw [hst]; exact hb2)
          · refine g_iload_n F (q := 54) (dk dX7_stalest 31 rfl) rfl rfl 4 rfl ?_
            refine g_istore_n F (q := 55) (lv' := [(1, .int (nI i)), (4, .int (lth r nt i)), (0, .ref (ad 233)), (2, .int b2), (3, .int (nI i))]) (dk dX7_stalest 32 rfl) rfl rfl (Nat.le_of_ble_eq_true rfl) rfl ?_
            refine g_iload F (q := 57) (dk dX7_stalest 33 rfl) rfl 1 rfl ?_
            refine g_istore_n F (q := 58) (lv' := [(2, .int (lth r nt i)), (1, .int (nI i)), (4, .int (lth r nt i)), (0, .ref (ad 233)), (3, .int (nI i))]) (dk dX7_stalest 34 rfl) rfl rfl (Nat.le_of_ble_eq_true rfl) rfl ?_
            refine g_iinc F (q := 61) (v := (nI ((i + 1)))) (lv' := [(3, .int (nI ((i + 1)))), (2, .int (lth r nt i)), (1, .int (nI i)), (4, .int (lth r nt i)), (0, .ref (ad 233))]) (dk dX7_stalest 35 rfl) rfl 4 rfl (nI_1 _) (Nat.le_of_ble_eq_true rfl) rfl ?_
            refine g_goto F (tgt := 8) (dk dX7_stalest 36 rfl) (by decide) ?_
            have hst := stF_t (r := r) (nt := nt) (e := i) (by rw [← hb2]; exact Int32.not_le.mp c50)
            refine g_lv (lv' := [(0, .ref (ad 233)), (1, .int (nI i)), (2, .int (lth r nt i)), (3, .int (nI ((i + 1))))]) [4, 2, 1, 0] rfl ?_
            exact ih (i + 1) (nI i) (lth r nt i) (nI ((mC r i nt))) rd1_20 er1_20 th1_20 E20 (by omega) hK233_20 hK239_20 hK240_20 hK241_20 (fun j hj => ((hF20 j (by omega)).trans (hfr8 j (by omega)))) (by omega) (by rw [hst]) (by rw [hst])
  refine g_lv (lv' := [(0, .ref (ad 233)), (1, .int (-5)), (2, .int 10), (3, .int 0)]) [3, 2, 1, 0] rfl ?_
  exact K8 _ 0 (-5) 10 s5 rd er th E (Nat.lt_succ_self _) h233 h239 h240 h241 (fun j _ => rfl) (by omega) rfl rfl
theorem kv_X7_stalest : KV yX7_stalest "ThumpEarsModel" cX7_stalest 5 (some .int) 0 := ⟨tq_854, tq_855, tq_47, tq_856, by decide +kernel⟩
end
section
def rgO (r : Nat → Int32) (nt kn e : Nat) : Int64 := if r (146 + 100 * 1 + 10 * kn + e) = MISS then 0 else rgt r nt kn e
theorem frS {rt g : Nat → Int64} {i : Nat} {x : Int64} (h : ∀ e, e < i → rt e = g e) (hx : x = g i) : ∀ e, e < i + 1 → (vp_updL rt i x) e = g e := by
  intro e he
  unfold vp_updL
  by_cases q : e = i
  · subst q; rw [if_pos rfl]; exact hx
  · rw [if_neg q]; exact h e (by omega)
/-- the ear that fits least, of the ears below e -/
def wsA (r : Nat → Int32) (nt kn : Nat) (x : Int32) (t : Int64) (e : Nat) : Nat × Int64 := wsF (fun i => ab64 (bg r nt kn x (hI r kn e i) - t)) (hC r kn e - 1)
theorem wsA_f {r : Nat → Int32} {nt kn e : Nat} {x : Int32} {t : Int64} (h : r (146 + 100 * 1 + 10 * kn + e) = MISS) : wsA r nt kn x t (e + 1) = wsA r nt kn x t e := by
  unfold wsA
  rw [(hF_f h).1, (hF_f h).2]
theorem wsA_0 {r : Nat → Int32} {nt kn e : Nat} {x : Int32} {t : Int64} (h : ¬ r (146 + 100 * 1 + 10 * kn + e) = MISS) (h0 : hC r kn e = 0) : wsA r nt kn x t (e + 1) = (0, ab64 (bg r nt kn x e - t)) ∧ hI r kn (e + 1) 0 = e := by
  unfold wsA
  rw [(hF_t h).1, (hF_t h).2, h0]
  exact ⟨rfl, rfl⟩
theorem wsA_t {r : Nat → Int32} {nt kn e : Nat} {x : Int32} {t : Int64} (h : ¬ r (146 + 100 * 1 + 10 * kn + e) = MISS) (h0 : 0 < hC r kn e) : wsA r nt kn x t (e + 1) = (if (wsA r nt kn x t e).2 < ab64 (bg r nt kn x e - t) then (hC r kn e, ab64 (bg r nt kn x e - t)) else wsA r nt kn x t e) ∧ hI r kn (e + 1) (hC r kn e) = e ∧ hI r kn (e + 1) (wsA r nt kn x t e).1 = hI r kn e (wsA r nt kn x t e).1 := by
  obtain ⟨c, hc⟩ : ∃ c, hC r kn e = c + 1 := ⟨hC r kn e - 1, by omega⟩
  have e1 : ∀ j, j ≤ c → ab64 (bg r nt kn x (if j = hC r kn e then e else hI r kn e j) - t) = ab64 (bg r nt kn x (hI r kn e j) - t) := fun j hj => by rw [if_neg (by omega)]
  have e2 : (if c + 1 = hC r kn e then e else hI r kn e (c + 1)) = e := if_pos (by omega)
  have hle : (wsA r nt kn x t e).1 ≤ c := by
    have := wsF_le (a := fun i => ab64 (bg r nt kn x (hI r kn e i) - t)) (hC r kn e - 1)
    unfold wsA
    omega
  refine ⟨?_, ?_, ?_⟩
  · unfold wsA
    rw [(hF_t h).1, (hF_t h).2, show hC r kn e + 1 - 1 = c + 1 by omega, show hC r kn e - 1 = c by omega]
    conv => lhs; unfold wsF
    rw [wsF_cg c e1]
    simp only [e2]
    rw [hc]
  · rw [(hF_t h).2]
    exact if_pos rfl
  · rw [(hF_t h).2]
    exact if_neg (by omega)
/-- the time of a knock, by the place x -/
def tmK (r : Nat → Int32) (ne nt kn : Nat) (x : Int32) : Int64 := dn (lsB r nt kn x ne + msB r nt kn x ne) 2
def wrE (r : Nat → Int32) (ne nt kn : Nat) (x : Int32) (t : Int64) : Nat := hI r kn ne (wsA r nt kn x t ne).1
def sFound (r : Nat → Int32) (ne nt nk : Nat) (kn what : Int32) : Int64 :=
  if kn < 0 ∨ nk ≤ kn.toNatClampNeg then toldAs (-1) else if ¬ (0 ≤ what ∧ what ≤ 5) then toldAs (-2)
  else if what = 3 then (nI (hC r kn.toNatClampNeg ne)).toInt64 else if hC r kn.toNatClampNeg ne < 2 then toldAs (-4)
  else if what = 0 then (nI (plc r ne nt kn.toNatClampNeg)).toInt64 else if what = 1 then tmK r ne nt kn.toNatClampNeg (nI (plc r ne nt kn.toNatClampNeg))
  else if what = 2 then spW r ne nt kn.toNatClampNeg (nI (plc r ne nt kn.toNatClampNeg))
  else if what = 4 then (if spW r ne nt kn.toNatClampNeg (nI (plc r ne nt kn.toNatClampNeg)) ≤ 1000 * (r 4).toInt64 then 1 else 0)
  else (nI (wrE r ne nt kn.toNatClampNeg (nI (plc r ne nt kn.toNatClampNeg)) (tmK r ne nt kn.toNatClampNeg (nI (plc r ne nt kn.toNatClampNeg))))).toInt64
def sSpread (r : Nat → Int32) (ne nt nk : Nat) (kn x : Int32) : Int64 :=
  if kn < 0 ∨ nk ≤ kn.toNatClampNeg then toldAs (-1) else if ¬ (0 ≤ x ∧ x ≤ 1000) then toldAs (-2) else if hC r kn.toNatClampNeg ne < 2 then toldAs (-4) else spW r ne nt kn.toNatClampNeg x
def sTruth (r : Nat → Int32) (ne nt nk : Nat) (kn what : Int32) : Int32 :=
  if kn < 0 ∨ nk ≤ kn.toNatClampNeg then -1 else if ¬ (0 ≤ what ∧ what ≤ 2) then -2
  else if what = 0 then r (46 + 50 * 1 + 5 * kn.toNatClampNeg + 0) else if what = 1 then r (46 + 50 * 1 + 5 * kn.toNatClampNeg + 1)
  else if hC r kn.toNatClampNeg ne < 2 then -4 else far (nI (plc r ne nt kn.toNatClampNeg)) (r (46 + 50 * 1 + 5 * kn.toNatClampNeg + 0))
def fitQ (r : Nat → Int32) (ne nt kn : Nat) : Prop := ¬ hC r kn ne < 2 ∧ spW r ne nt kn (nI (plc r ne nt kn)) ≤ 1000 * (r 4).toInt64
def fitN (r : Nat → Int32) (ne nt : Nat) : Nat → Nat
  | 0 => 0
  | k + 1 => fitN r ne nt k + (if ¬ hC r k ne < 2 ∧ spW r ne nt k (nI (plc r ne nt k)) ≤ 1000 * (r 4).toInt64 then 1 else 0)
def sCount (r : Nat → Int32) (ne nt nk nh ln : Nat) (what : Int32) : Int32 :=
  if what = 0 then r 0 else if what = 1 then r 1 else if what = 2 then r 2 else if what = 3 then r 3 else if what = 4 then r 4 else if what = 5 then r 5
  else if what = 6 then sumN (fun ee => r (6 + 4 * ee + 1)) ne else if what = 7 then sumN (fun ee => r (46 + 5 * ee + 4)) nt else if what = 8 then nI (fitN r ne nt nk) else if what = 9 then nI nh else if what = 10 then nI ln else -2
end
section
abbrev rm_X7_heard : Room := { frames := 2, cells := 0, slots := 0, locals := 44 }
set_option maxHeartbeats 4000000 in
set_option maxRecDepth 100000 in
theorem c_X7_heard {l : Launch} {D : va_G} {cA : Nat → ClassId} {ad : Nat → Nat} {E : Nat → va_E} {s0 s1 s2 s3 s4 s5 : Int32} {lo mo : Int64} {r : Nat → Int32} {ne nt nk : Nat} {kb num ear : Int32} (h233 : E 233 = .inr (7, [.ref (ad 234), .ref (ad 235), .ref (ad 236), .ref (ad 237), .int s0, .int s1, .ref (ad 238), .int s2, .int s3, .int s4, .int s5, .ref (ad 239), .ref (ad 240), .ref (ad 241), .long lo, .long mo, .ref (ad 242)])) (h234 : E 234 = .inl (cA 0, 346, .inl r))  (hI : Inv r ne nt nk) : CtI l D cA yX7_heard cX7_heard 6 .int rm_X7_heard 243 ad E [.ref (ad 233), .int kb, .int num, .int ear] (fun x E' => (sHeard r ne nt nk kb num ear) = x ∧ E = E') := by
  refine CtI.of (by decide +kernel) (Nat.le_of_ble_eq_true rfl) (fun X F hret => ?_)
  have F : Fr "ThumpEarsModel" cX7_heard 6 D cA X := F
  refine (show GG rm_X7_heard 6 l D X 0 0 243 ad E 0 [(0, .ref (ad 233)), (1, .int kb), (2, .int num), (3, .int ear)] [] from ?_)
  have hnk := hI.e2
  have hne := hI.e0
  have hnt := hI.e1
  refine g_iload_n F (q := 1) (dk dX7_heard 0 rfl) rfl rfl 1 rfl ?_
  refine g_if_eq F (q := 4) (tgt := 8) (dk dX7_heard 1 rfl) (by decide) rfl (fun c1 => ?_) (fun c1 => ?_)
  · refine g_iconst F (q := 9) (v := 0) (dk dX7_heard 4 rfl) rfl (by decide) ?_
    refine g_istore F (q := 11) (lv' := [(4, .int 0), (0, .ref (ad 233)), (1, .int kb), (2, .int num), (3, .int ear)]) (dk dX7_heard 5 rfl) rfl (Nat.le_of_ble_eq_true rfl) rfl ?_
    refine g_aload_n F (q := 12) (dk dX7_heard 6 rfl) rfl rfl 1 rfl ?_
    refine g_iload F (q := 14) (dk dX7_heard 7 rfl) rfl 0 rfl ?_
    refine g_iload_n F (q := 15) (dk dX7_heard 8 rfl) rfl rfl 3 rfl ?_
    refine g_callVI F (q := 18) (av := [.int 0, .int num]) (st := []) (c_X7_none (k := 0) (a := num) h233 h234 (by first | assumption | decide | omega) hI.h1 hI.e1) kv_X7_none tq_766 h233 rfl (by omega) ⟨rfl, rfl⟩ (by decide) ⟨Nat.le_refl _, Nat.le_refl _⟩ rfl rfl (Nat.le_of_ble_eq_true rfl) (dk dX7_heard 9 rfl) rfl (fun r15 E15 hp15 => ?_)
    rcases hp15 with ⟨rfl, rfl, b15⟩ | ⟨rfl, rfl, b15⟩
    · refine g_if_ne F (q := 21) (tgt := 29) (dk dX7_heard 10 rfl) (by decide) rfl (fun _ => ?_) (fun h => absurd h (by decide))
      refine g_iconst F (q := 30) (v := (-1)) (dk dX7_heard 15 rfl) rfl (by decide) ?_
      refine hret (-1) E _ _ (dk dX7_heard 16 rfl) (nint _) ?_
      exact ⟨(by unfold sHeard; simp only [if_pos c1]; rw [if_pos (Or.inl b15)]), rfl⟩
    · obtain ⟨m, hm, rfl⟩ := b15
      refine g_if_ne F (q := 21) (tgt := 29) (dk dX7_heard 10 rfl) (by decide) rfl (fun h => absurd h (by decide)) (fun _ => ?_)
      refine g_aload_n F (q := 22) (dk dX7_heard 11 rfl) rfl rfl 1 rfl ?_
      refine g_iload_n F (q := 23) (dk dX7_heard 12 rfl) rfl rfl 4 rfl ?_
      refine g_callVI F (q := 26) (av := [.int ear]) (st := []) (c_X7_noEar (ear := ear) h233 h234 hI.h0 hI.e0) kv_X7_noEar tq_714 h233 rfl (by omega) ⟨rfl, rfl⟩ (by decide) ⟨Nat.le_refl _, Nat.le_refl _⟩ rfl rfl (Nat.le_of_ble_eq_true rfl) (dk dX7_heard 13 rfl) rfl (fun r23 E23 hp23 => ?_)
      rcases hp23 with ⟨rfl, rfl, b23⟩ | ⟨rfl, rfl, b23⟩
      · refine g_if_eq F (q := 29) (tgt := 31) (dk dX7_heard 14 rfl) (by decide) rfl (fun h => absurd h (by decide)) (fun _ => ?_)
        refine g_iconst F (q := 30) (v := (-1)) (dk dX7_heard 15 rfl) rfl (by decide) ?_
        refine hret (-1) E _ _ (dk dX7_heard 16 rfl) (nint _) ?_
        exact ⟨(by unfold sHeard; simp only [if_pos c1]; rw [if_pos (Or.inr b23)]), rfl⟩
      · obtain ⟨e, he, rfl⟩ := b23
        refine g_if_eq F (q := 29) (tgt := 31) (dk dX7_heard 14 rfl) (by decide) rfl (fun _ => ?_) (fun h => absurd h (by decide))
        refine g_aload_n F (q := 32) (dk dX7_heard 17 rfl) rfl rfl 1 rfl ?_
        refine g_iload F (q := 34) (dk dX7_heard 18 rfl) rfl 0 rfl ?_
        refine g_iload_n F (q := 35) (dk dX7_heard 19 rfl) rfl rfl 3 rfl ?_
        refine g_iload_n F (q := 36) (dk dX7_heard 20 rfl) rfl rfl 4 rfl ?_
        refine g_callVI F (q := 39) (av := [.int 0, .int (nI m), .int (nI e)]) (st := []) (c_X7_heardOf (k := 0) (m := m) (e := e) h233 h234 (by first | assumption | decide | omega)) kv_X7_heardOf tq_822 h233 rfl (by omega) ⟨rfl, rfl⟩ (by decide) ⟨Nat.le_refl _, Nat.le_refl _⟩ rfl rfl (Nat.le_of_ble_eq_true rfl) (dk dX7_heard 21 rfl) rfl (fun r36 E36 hp36 => ?_)
        obtain ⟨rfl, rfl⟩ := hp36
        refine g_istore F (q := 41) (lv' := [(5, .int (r (146 + 100 * 0 + 10 * m + e))), (4, .int 0), (0, .ref (ad 233)), (1, .int kb), (2, .int (nI m)), (3, .int (nI e))]) (dk dX7_heard 22 rfl) rfl (Nat.le_of_ble_eq_true rfl) rfl ?_
        refine g_iload F (q := 43) (dk dX7_heard 23 rfl) rfl 0 rfl ?_
        refine g_ldc F (q := 45) (v := (-1000000000)) (dk dX7_heard 24 rfl) rfl tq_622 ?_
        refine g_sti (y := MISS) rfl ?_
        refine g_icmp_ne F (q := 48) (tgt := 53) (dk dX7_heard 25 rfl) (by decide) rfl (fun c45 => ?_) (fun c45 => ?_)
        · refine g_iload F (q := 55) (dk dX7_heard 28 rfl) rfl 0 rfl ?_
          refine g_sipush F (q := 58) (v := 10000) (dk dX7_heard 29 rfl) rfl (by decide) ?_
          refine g_iadd F (q := 59) (dk dX7_heard 30 rfl) rfl ?_
          refine hret ((r (146 + 100 * 0 + 10 * m + e)) + 10000) E _ _ (dk dX7_heard 31 rfl) (nint _) ?_
          exact ⟨(by unfold sHeard; simp only [if_pos c1]; rw [if_neg (fun h => h.elim (ixN hm (by omega)) (ixN he (by omega))), nI_c (by omega), nI_c (by omega), if_neg c45]), rfl⟩
        · refine g_bipush F (q := 50) (v := (-5)) (dk dX7_heard 26 rfl) rfl (by decide) ?_
          refine g_goto F (tgt := 59) (dk dX7_heard 27 rfl) (by decide) ?_
          refine hret (-5) E _ _ (dk dX7_heard 31 rfl) (nint _) ?_
          exact ⟨(by unfold sHeard; simp only [if_pos c1]; rw [if_neg (fun h => h.elim (ixN hm (by omega)) (ixN he (by omega))), nI_c (by omega), nI_c (by omega), if_pos c45]), rfl⟩
  · refine g_iconst F (q := 5) (v := 1) (dk dX7_heard 2 rfl) rfl (by decide) ?_
    refine g_goto F (tgt := 9) (dk dX7_heard 3 rfl) (by decide) ?_
    refine g_istore F (q := 11) (lv' := [(4, .int 1), (0, .ref (ad 233)), (1, .int kb), (2, .int num), (3, .int ear)]) (dk dX7_heard 5 rfl) rfl (Nat.le_of_ble_eq_true rfl) rfl ?_
    refine g_aload_n F (q := 12) (dk dX7_heard 6 rfl) rfl rfl 1 rfl ?_
    refine g_iload F (q := 14) (dk dX7_heard 7 rfl) rfl 0 rfl ?_
    refine g_iload_n F (q := 15) (dk dX7_heard 8 rfl) rfl rfl 3 rfl ?_
    refine g_callVI F (q := 18) (av := [.int 1, .int num]) (st := []) (c_X7_none (k := 1) (a := num) h233 h234 (by first | assumption | decide | omega) hI.h2 hI.e2) kv_X7_none tq_766 h233 rfl (by omega) ⟨rfl, rfl⟩ (by decide) ⟨Nat.le_refl _, Nat.le_refl _⟩ rfl rfl (Nat.le_of_ble_eq_true rfl) (dk dX7_heard 9 rfl) rfl (fun r15 E15 hp15 => ?_)
    rcases hp15 with ⟨rfl, rfl, b15⟩ | ⟨rfl, rfl, b15⟩
    · refine g_if_ne F (q := 21) (tgt := 29) (dk dX7_heard 10 rfl) (by decide) rfl (fun _ => ?_) (fun h => absurd h (by decide))
      refine g_iconst F (q := 30) (v := (-1)) (dk dX7_heard 15 rfl) rfl (by decide) ?_
      refine hret (-1) E _ _ (dk dX7_heard 16 rfl) (nint _) ?_
      exact ⟨(by unfold sHeard; simp only [if_neg c1]; rw [if_pos (Or.inl b15)]), rfl⟩
    · obtain ⟨m, hm, rfl⟩ := b15
      refine g_if_ne F (q := 21) (tgt := 29) (dk dX7_heard 10 rfl) (by decide) rfl (fun h => absurd h (by decide)) (fun _ => ?_)
      refine g_aload_n F (q := 22) (dk dX7_heard 11 rfl) rfl rfl 1 rfl ?_
      refine g_iload_n F (q := 23) (dk dX7_heard 12 rfl) rfl rfl 4 rfl ?_
      refine g_callVI F (q := 26) (av := [.int ear]) (st := []) (c_X7_noEar (ear := ear) h233 h234 hI.h0 hI.e0) kv_X7_noEar tq_714 h233 rfl (by omega) ⟨rfl, rfl⟩ (by decide) ⟨Nat.le_refl _, Nat.le_refl _⟩ rfl rfl (Nat.le_of_ble_eq_true rfl) (dk dX7_heard 13 rfl) rfl (fun r23 E23 hp23 => ?_)
      rcases hp23 with ⟨rfl, rfl, b23⟩ | ⟨rfl, rfl, b23⟩
      · refine g_if_eq F (q := 29) (tgt := 31) (dk dX7_heard 14 rfl) (by decide) rfl (fun h => absurd h (by decide)) (fun _ => ?_)
        refine g_iconst F (q := 30) (v := (-1)) (dk dX7_heard 15 rfl) rfl (by decide) ?_
        refine hret (-1) E _ _ (dk dX7_heard 16 rfl) (nint _) ?_
        exact ⟨(by unfold sHeard; simp only [if_neg c1]; rw [if_pos (Or.inr b23)]), rfl⟩
      · obtain ⟨e, he, rfl⟩ := b23
        refine g_if_eq F (q := 29) (tgt := 31) (dk dX7_heard 14 rfl) (by decide) rfl (fun _ => ?_) (fun h => absurd h (by decide))
        refine g_aload_n F (q := 32) (dk dX7_heard 17 rfl) rfl rfl 1 rfl ?_
        refine g_iload F (q := 34) (dk dX7_heard 18 rfl) rfl 0 rfl ?_
        refine g_iload_n F (q := 35) (dk dX7_heard 19 rfl) rfl rfl 3 rfl ?_
        refine g_iload_n F (q := 36) (dk dX7_heard 20 rfl) rfl rfl 4 rfl ?_
        refine g_callVI F (q := 39) (av := [.int 1, .int (nI m), .int (nI e)]) (st := []) (c_X7_heardOf (k := 1) (m := m) (e := e) h233 h234 (by first | assumption | decide | omega)) kv_X7_heardOf tq_822 h233 rfl (by omega) ⟨rfl, rfl⟩ (by decide) ⟨Nat.le_refl _, Nat.le_refl _⟩ rfl rfl (Nat.le_of_ble_eq_true rfl) (dk dX7_heard 21 rfl) rfl (fun r36 E36 hp36 => ?_)
        obtain ⟨rfl, rfl⟩ := hp36
        refine g_istore F (q := 41) (lv' := [(5, .int (r (146 + 100 * 1 + 10 * m + e))), (4, .int 1), (0, .ref (ad 233)), (1, .int kb), (2, .int (nI m)), (3, .int (nI e))]) (dk dX7_heard 22 rfl) rfl (Nat.le_of_ble_eq_true rfl) rfl ?_
        refine g_iload F (q := 43) (dk dX7_heard 23 rfl) rfl 0 rfl ?_
        refine g_ldc F (q := 45) (v := (-1000000000)) (dk dX7_heard 24 rfl) rfl tq_622 ?_
        refine g_sti (y := MISS) rfl ?_
        refine g_icmp_ne F (q := 48) (tgt := 53) (dk dX7_heard 25 rfl) (by decide) rfl (fun c45 => ?_) (fun c45 => ?_)
        · refine g_iload F (q := 55) (dk dX7_heard 28 rfl) rfl 0 rfl ?_
          refine g_sipush F (q := 58) (v := 10000) (dk dX7_heard 29 rfl) rfl (by decide) ?_
          refine g_iadd F (q := 59) (dk dX7_heard 30 rfl) rfl ?_
          refine hret ((r (146 + 100 * 1 + 10 * m + e)) + 10000) E _ _ (dk dX7_heard 31 rfl) (nint _) ?_
          exact ⟨(by unfold sHeard; simp only [if_neg c1]; rw [if_neg (fun h => h.elim (ixN hm (by omega)) (ixN he (by omega))), nI_c (by omega), nI_c (by omega), if_neg c45]), rfl⟩
        · refine g_bipush F (q := 50) (v := (-5)) (dk dX7_heard 26 rfl) rfl (by decide) ?_
          refine g_goto F (tgt := 59) (dk dX7_heard 27 rfl) (by decide) ?_
          refine hret (-5) E _ _ (dk dX7_heard 31 rfl) (nint _) ?_
          exact ⟨(by unfold sHeard; simp only [if_neg c1]; rw [if_neg (fun h => h.elim (ixN hm (by omega)) (ixN he (by omega))), nI_c (by omega), nI_c (by omega), if_pos c45]), rfl⟩
theorem kv_X7_heard : KV yX7_heard "ThumpEarsModel" cX7_heard 6 (some .int) 3 := ⟨tq_858, tq_859, tq_47, tq_860, by decide +kernel⟩
abbrev rm_X7_putRight : Room := { frames := 4, cells := 0, slots := 0, locals := 94 }
set_option maxHeartbeats 4000000 in
set_option maxRecDepth 100000 in
theorem c_X7_putRight {l : Launch} {D : va_G} {cA : Nat → ClassId} {ad : Nat → Nat} {E : Nat → va_E} {s0 s1 s2 s3 s4 s5 : Int32} {lo mo : Int64} {r rd er th : Nat → Int32} {ne nt nk : Nat} {kn ear : Int32} (h233 : E 233 = .inr (7, [.ref (ad 234), .ref (ad 235), .ref (ad 236), .ref (ad 237), .int s0, .int s1, .ref (ad 238), .int s2, .int s3, .int s4, .int s5, .ref (ad 239), .ref (ad 240), .ref (ad 241), .long lo, .long mo, .ref (ad 242)])) (h234 : E 234 = .inl (cA 0, 346, .inl r)) (h239 : E 239 = .inl (cA 0, 10, .inl rd)) (h240 : E 240 = .inl (cA 0, 10, .inl er)) (h241 : E 241 = .inl (cA 0, 10, .inl th))  (hI : Inv r ne nt nk) : CtL l D cA yX7_putRight cX7_putRight 3 rm_X7_putRight 243 ad E [.ref (ad 233), .int kn, .int ear] (fun x E' => ∃ (m2 : Int32) (rd1 : Nat → Int32) (er1 : Nat → Int32) (th1 : Nat → Int32), (sPut r ne nt nk kn ear) = x ∧ E' 233 = .inr (7, [.ref (ad 234), .ref (ad 235), .ref (ad 236), .ref (ad 237), .int s0, .int s1, .ref (ad 238), .int s2, .int s3, .int s4, .int m2, .ref (ad 239), .ref (ad 240), .ref (ad 241), .long lo, .long mo, .ref (ad 242)]) ∧ E' 239 = .inl (cA 0, 10, .inl rd1) ∧ E' 240 = .inl (cA 0, 10, .inl er1) ∧ E' 241 = .inl (cA 0, 10, .inl th1) ∧ ∀ j, (j ≠ 233 ∧ j ≠ 239 ∧ j ≠ 240 ∧ j ≠ 241) → E' j = E j) := by
  refine CtL.of (by decide +kernel) (Nat.le_of_ble_eq_true rfl) (fun X F hret => ?_)
  have F : Fr "ThumpEarsModel" cX7_putRight 3 D cA X := F
  refine (show GG rm_X7_putRight 3 l D X 0 0 243 ad E 0 [(0, .ref (ad 233)), (1, .int kn), (2, .int ear)] [] from ?_)
  have hnk := hI.e2
  have hne := hI.e0
  have hnt := hI.e1
  refine g_aload_n F (q := 1) (dk dX7_putRight 0 rfl) rfl rfl 0 rfl ?_
  refine g_iconst F (q := 2) (v := 1) (dk dX7_putRight 1 rfl) rfl (by decide) ?_
  refine g_iload_n F (q := 3) (dk dX7_putRight 2 rfl) rfl rfl 1 rfl ?_
  refine g_callVI F (q := 6) (av := [.int 1, .int kn]) (st := []) (c_X7_none (k := 1) (a := kn) h233 h234 (by first | assumption | decide | omega) hI.h2 hI.e2) kv_X7_none tq_766 h233 rfl (by omega) ⟨rfl, rfl⟩ (by decide) ⟨Nat.le_refl _, Nat.le_refl _⟩ rfl rfl (Nat.le_of_ble_eq_true rfl) (dk dX7_putRight 3 rfl) rfl (fun r3 E3 hp3 => ?_)
  rcases hp3 with ⟨rfl, rfl, b3⟩ | ⟨rfl, rfl, b3⟩
  · refine g_if_ne F (q := 9) (tgt := 17) (dk dX7_putRight 4 rfl) (by decide) rfl (fun _ => ?_) (fun h => absurd h (by decide))
    refine g_iconst F (q := 18) (v := (-1)) (dk dX7_putRight 9 rfl) rfl (by decide) ?_
    refine g_callSL F (q := 21) (av := [.int (-1)]) (st := []) (c_X7_toldAs (a := (-1))) ks_X7_toldAs tq_843 ⟨rfl, rfl⟩ (by decide) ⟨Nat.le_refl _, Nat.le_refl _⟩ rfl rfl (Nat.le_of_ble_eq_true rfl) (dk dX7_putRight 10 rfl) rfl (fun r18 E18 hp18 => ?_)
    obtain ⟨rfl, rfl⟩ := hp18
    refine hret (toldAs (-1)) E _ _ (dk dX7_putRight 11 rfl) ?_
    exact ⟨_, _, _, _, (by unfold sPut; rw [if_pos (Or.inl b3)]), h233, h239, h240, h241, (fun j _ => rfl)⟩
  · obtain ⟨m, hm, rfl⟩ := b3
    refine g_if_ne F (q := 9) (tgt := 17) (dk dX7_putRight 4 rfl) (by decide) rfl (fun h => absurd h (by decide)) (fun _ => ?_)
    refine g_aload_n F (q := 10) (dk dX7_putRight 5 rfl) rfl rfl 0 rfl ?_
    refine g_iload_n F (q := 11) (dk dX7_putRight 6 rfl) rfl rfl 2 rfl ?_
    refine g_callVI F (q := 14) (av := [.int ear]) (st := []) (c_X7_noEar (ear := ear) h233 h234 hI.h0 hI.e0) kv_X7_noEar tq_714 h233 rfl (by omega) ⟨rfl, rfl⟩ (by decide) ⟨Nat.le_refl _, Nat.le_refl _⟩ rfl rfl (Nat.le_of_ble_eq_true rfl) (dk dX7_putRight 7 rfl) rfl (fun r11 E11 hp11 => ?_)
    rcases hp11 with ⟨rfl, rfl, b11⟩ | ⟨rfl, rfl, b11⟩
    · refine g_if_eq F (q := 17) (tgt := 22) (dk dX7_putRight 8 rfl) (by decide) rfl (fun h => absurd h (by decide)) (fun _ => ?_)
      refine g_iconst F (q := 18) (v := (-1)) (dk dX7_putRight 9 rfl) rfl (by decide) ?_
      refine g_callSL F (q := 21) (av := [.int (-1)]) (st := []) (c_X7_toldAs (a := (-1))) ks_X7_toldAs tq_843 ⟨rfl, rfl⟩ (by decide) ⟨Nat.le_refl _, Nat.le_refl _⟩ rfl rfl (Nat.le_of_ble_eq_true rfl) (dk dX7_putRight 10 rfl) rfl (fun r18 E18 hp18 => ?_)
      obtain ⟨rfl, rfl⟩ := hp18
      refine hret (toldAs (-1)) E _ _ (dk dX7_putRight 11 rfl) ?_
      exact ⟨_, _, _, _, (by unfold sPut; rw [if_pos (Or.inr b11)]), h233, h239, h240, h241, (fun j _ => rfl)⟩
    · obtain ⟨e, he, rfl⟩ := b11
      refine g_if_eq F (q := 17) (tgt := 22) (dk dX7_putRight 8 rfl) (by decide) rfl (fun _ => ?_) (fun h => absurd h (by decide))
      refine g_aload_n F (q := 23) (dk dX7_putRight 12 rfl) rfl rfl 0 rfl ?_
      refine g_iconst F (q := 24) (v := 1) (dk dX7_putRight 13 rfl) rfl (by decide) ?_
      refine g_iload_n F (q := 25) (dk dX7_putRight 14 rfl) rfl rfl 1 rfl ?_
      refine g_iload_n F (q := 26) (dk dX7_putRight 15 rfl) rfl rfl 2 rfl ?_
      refine g_callVI F (q := 29) (av := [.int 1, .int (nI m), .int (nI e)]) (st := []) (c_X7_heardOf (k := 1) (m := m) (e := e) h233 h234 (by first | assumption | decide | omega)) kv_X7_heardOf tq_822 h233 rfl (by omega) ⟨rfl, rfl⟩ (by decide) ⟨Nat.le_refl _, Nat.le_refl _⟩ rfl rfl (Nat.le_of_ble_eq_true rfl) (dk dX7_putRight 16 rfl) rfl (fun r26 E26 hp26 => ?_)
      obtain ⟨rfl, rfl⟩ := hp26
      refine g_ldc F (q := 31) (v := (-1000000000)) (dk dX7_putRight 17 rfl) rfl tq_622 ?_
      refine g_sti (y := MISS) rfl ?_
      refine g_icmp_ne F (q := 34) (tgt := 42) (dk dX7_putRight 18 rfl) (by decide) rfl (fun c31 => ?_) (fun c31 => ?_)
      · refine g_aload_n F (q := 43) (dk dX7_putRight 22 rfl) rfl rfl 0 rfl ?_
        refine g_iload_n F (q := 44) (dk dX7_putRight 23 rfl) rfl rfl 1 rfl ?_
        refine g_iload_n F (q := 45) (dk dX7_putRight 24 rfl) rfl rfl 2 rfl ?_
        refine g_callVL F (q := 48) (av := [.int (nI m), .int (nI e)]) (st := []) (c_X7_rightOf (kn := m) (e := e) h233 h234 h239 h240 h241 (by first | assumption | decide | omega) (by first | assumption | decide | omega) (by first | assumption | decide | omega)) kv_X7_rightOf tq_865 h233 rfl (by omega) ⟨rfl, rfl⟩ (by decide) ⟨Nat.le_refl _, Nat.le_refl _⟩ rfl rfl (Nat.le_of_ble_eq_true rfl) (dk dX7_putRight 25 rfl) rfl (fun r45 E45 hp45 => ?_)
        obtain ⟨m2_45, rd1_45, er1_45, th1_45, rfl, hK233_45, hK239_45, hK240_45, hK241_45, hF45⟩ := hp45
        refine hret (rgt r nt m e) E45 _ _ (dk dX7_putRight 26 rfl) ?_
        exact ⟨_, _, _, _, (by unfold sPut; rw [if_neg (fun h => h.elim (ixN hm (by omega)) (ixN he (by omega))), nI_c (by omega), nI_c (by omega), if_neg c31]), hK233_45, hK239_45, hK240_45, hK241_45, (fun j hj => (hF45 j (by omega)))⟩
      · refine g_bipush F (q := 36) (v := (-5)) (dk dX7_putRight 19 rfl) rfl (by decide) ?_
        refine g_callSL F (q := 39) (av := [.int (-5)]) (st := []) (c_X7_toldAs (a := (-5))) ks_X7_toldAs tq_843 ⟨rfl, rfl⟩ (by decide) ⟨Nat.le_refl _, Nat.le_refl _⟩ rfl rfl (Nat.le_of_ble_eq_true rfl) (dk dX7_putRight 20 rfl) rfl (fun r36 E36 hp36 => ?_)
        obtain ⟨rfl, rfl⟩ := hp36
        refine g_goto F (tgt := 48) (dk dX7_putRight 21 rfl) (by decide) ?_
        refine hret (toldAs (-5)) E _ _ (dk dX7_putRight 26 rfl) ?_
        exact ⟨_, _, _, _, (by unfold sPut; rw [if_neg (fun h => h.elim (ixN hm (by omega)) (ixN he (by omega))), nI_c (by omega), nI_c (by omega), if_pos c31]), h233, h239, h240, h241, (fun j _ => rfl)⟩
theorem kv_X7_putRight : KV yX7_putRight "ThumpEarsModel" cX7_putRight 3 (some .long) 2 := ⟨tq_862, tq_863, tq_47, tq_864, by decide +kernel⟩
abbrev rm_X7_findRight : Room := { frames := 4, cells := 0, slots := 0, locals := 94 }
set_option maxHeartbeats 4000000 in
set_option maxRecDepth 100000 in
theorem c_X7_findRight {l : Launch} {D : va_G} {cA : Nat → ClassId} {ad : Nat → Nat} {E : Nat → va_E} {s0 s1 s2 s3 s4 s5 : Int32} {lo mo : Int64} {r rd er th : Nat → Int32} {ne nt nk : Nat} {rt : Nat → Int64} {kn : Nat}  (h233 : E 233 = .inr (7, [.ref (ad 234), .ref (ad 235), .ref (ad 236), .ref (ad 237), .int s0, .int s1, .ref (ad 238), .int s2, .int s3, .int s4, .int s5, .ref (ad 239), .ref (ad 240), .ref (ad 241), .long lo, .long mo, .ref (ad 242)])) (h234 : E 234 = .inl (cA 0, 346, .inl r)) (h239 : E 239 = .inl (cA 0, 10, .inl rd)) (h240 : E 240 = .inl (cA 0, 10, .inl er)) (h241 : E 241 = .inl (cA 0, 10, .inl th)) (h242 : E 242 = .inl (cA 1, 10, .inr (.inl rt)))  (hk : kn < nk) (hI : Inv r ne nt nk) : CtV l D cA yX7_findRight cX7_findRight 3 rm_X7_findRight 243 ad E [.ref (ad 233), .int (nI kn)] (fun E' => ∃ (m2 : Int32) (rd1 : Nat → Int32) (er1 : Nat → Int32) (th1 : Nat → Int32) (rt1 : Nat → Int64), E' 233 = .inr (7, [.ref (ad 234), .ref (ad 235), .ref (ad 236), .ref (ad 237), .int s0, .int s1, .ref (ad 238), .int s2, .int s3, .int s4, .int m2, .ref (ad 239), .ref (ad 240), .ref (ad 241), .long lo, .long mo, .ref (ad 242)]) ∧ E' 239 = .inl (cA 0, 10, .inl rd1) ∧ E' 240 = .inl (cA 0, 10, .inl er1) ∧ E' 241 = .inl (cA 0, 10, .inl th1) ∧ E' 242 = .inl (cA 1, 10, .inr (.inl rt1)) ∧ (∀ e, e < ne → rt1 e = rgO r nt kn e) ∧ ∀ j, (j ≠ 233 ∧ j ≠ 239 ∧ j ≠ 240 ∧ j ≠ 241 ∧ j ≠ 242) → E' j = E j) := by
  refine CtV.of (by decide +kernel) (Nat.le_of_ble_eq_true rfl) (fun X F hret => ?_)
  have F : Fr "ThumpEarsModel" cX7_findRight 3 D cA X := F
  refine (show GG rm_X7_findRight 3 l D X 0 0 243 ad E 0 [(0, .ref (ad 233)), (1, .int (nI kn))] [] from ?_)
  have hnk := hI.e2
  have hne := hI.e0
  have hnt := hI.e1
  refine g_iconst F (q := 1) (v := 0) (dk dX7_findRight 0 rfl) rfl (by decide) ?_
  refine g_istore_n F (q := 2) (lv' := [(2, .int 0), (0, .ref (ad 233)), (1, .int (nI kn))]) (dk dX7_findRight 1 rfl) rfl rfl (Nat.le_of_ble_eq_true rfl) rfl ?_
  have K2 : ∀ (fu : Nat) (i : Nat) (m3 : Int32) (rd2 : Nat → Int32) (er2 : Nat → Int32) (th2 : Nat → Int32) (rt2 : Nat → Int64) (E1 : Nat → va_E), ne - i < fu → (h3 : E1 233 = .inr (7, [.ref (ad 234), .ref (ad 235), .ref (ad 236), .ref (ad 237), .int s0, .int s1, .ref (ad 238), .int s2, .int s3, .int s4, .int m3, .ref (ad 239), .ref (ad 240), .ref (ad 241), .long lo, .long mo, .ref (ad 242)])) → (h9 : E1 239 = .inl (cA 0, 10, .inl rd2)) → (h40 : E1 240 = .inl (cA 0, 10, .inl er2)) → (h41 : E1 241 = .inl (cA 0, 10, .inl th2)) → (h42 : E1 242 = .inl (cA 1, 10, .inr (.inl rt2))) → (hfr2 : ∀ j, (j ≠ 233 ∧ j ≠ 239 ∧ j ≠ 240 ∧ j ≠ 241 ∧ j ≠ 242) → E1 j = E j) → (hi : i ≤ ne) → (hR : ∀ e, e < i → rt2 e = rgO r nt kn e) → GG rm_X7_findRight 3 l D X 0 0 243 ad E1 2 [(0, .ref (ad 233)), (1, .int (nI kn)), (2, .int (nI i))] [] := by
    intro fu
    induction fu with
    | zero => intro i m3 rd2 er2 th2 rt2 E1 hfu_; exact absurd hfu_ (Nat.not_lt_zero _)
    | succ fu ih =>
      intro i m3 rd2 er2 th2 rt2 E1 hfu_ h3 h9 h40 h41 h42 hfr2 hi hR
      refine g_iload_n F (q := 3) (dk dX7_findRight 2 rfl) rfl rfl 2 rfl ?_
      refine g_aload_n F (q := 4) (dk dX7_findRight 3 rfl) rfl rfl 0 rfl ?_
      refine g_getf F (q := 7) h3 rfl inX7 (by omega) (j := 0) (by decide) tq_623 rfl rfl (dk dX7_findRight 4 rfl) rfl ?_
      refine g_iconst F (q := 8) (v := 0) (dk dX7_findRight 5 rfl) rfl (by decide) ?_
      have hc1 := (hfr2 234 (by omega)).trans h234
      refine g_iald F (q := 9) 0 hc1 (by omega) rfl (by omega) (by decide) (dk dX7_findRight 6 rfl) rfl ?_
      refine g_sti (y := (nI ne)) hI.h0 ?_
      refine g_icmp_ge F (q := 12) (tgt := 46) (dk dX7_findRight 7 rfl) (by decide) rfl (fun c9 => ?_) (fun c9 => ?_)
      · have nc9 : ne ≤ i := (nI_leI (a := ne) (b := i) (by omega) (by omega)).mp c9
        refine hret E1 _ _ (dk dX7_findRight 27 rfl) ?_
        exact ⟨_, _, _, _, _, h3, h9, h40, h41, h42, (fun e he => hR e (by omega)), (fun j hj => (hfr2 j (by omega)))⟩
      · have nc9 : ¬ ne ≤ i := fun h => c9 ((nI_leI (a := ne) (b := i) (by omega) (by omega)).mpr h)
        refine g_aload_n F (q := 13) (dk dX7_findRight 8 rfl) rfl rfl 0 rfl ?_
        refine g_getf F (q := 16) h3 rfl inX7 (by omega) (j := 16) (by decide) tq_639 rfl rfl (dk dX7_findRight 9 rfl) rfl ?_
        refine g_iload_n F (q := 17) (dk dX7_findRight 10 rfl) rfl rfl 2 rfl ?_
        refine g_aload_n F (q := 18) (dk dX7_findRight 11 rfl) rfl rfl 0 rfl ?_
        refine g_iconst F (q := 19) (v := 1) (dk dX7_findRight 12 rfl) rfl (by decide) ?_
        refine g_iload_n F (q := 20) (dk dX7_findRight 13 rfl) rfl rfl 1 rfl ?_
        refine g_iload_n F (q := 21) (dk dX7_findRight 14 rfl) rfl rfl 2 rfl ?_
        refine g_callVI F (q := 24) (av := [.int 1, .int (nI kn), .int (nI i)]) (st := [.int (nI i), .ref (ad 242)]) (c_X7_heardOf (k := 1) (m := kn) (e := i) h3 hc1 (by first | assumption | decide | omega)) kv_X7_heardOf tq_822 h3 rfl (by omega) ⟨rfl, rfl⟩ (by decide) ⟨Nat.le_refl _, Nat.le_refl _⟩ rfl rfl (Nat.le_of_ble_eq_true rfl) (dk dX7_findRight 15 rfl) rfl (fun r21 E21 hp21 => ?_)
        obtain ⟨rfl, rfl⟩ := hp21
        refine g_ldc F (q := 26) (v := (-1000000000)) (dk dX7_findRight 16 rfl) rfl tq_622 ?_
        refine g_sti (y := MISS) rfl ?_
        refine g_icmp_ne F (q := 29) (tgt := 33) (dk dX7_findRight 17 rfl) (by decide) rfl (fun c26 => ?_) (fun c26 => ?_)
        · refine g_aload_n F (q := 34) (dk dX7_findRight 20 rfl) rfl rfl 0 rfl ?_
          refine g_iload_n F (q := 35) (dk dX7_findRight 21 rfl) rfl rfl 1 rfl ?_
          refine g_iload_n F (q := 36) (dk dX7_findRight 22 rfl) rfl rfl 2 rfl ?_
          refine g_callVL F (q := 39) (av := [.int (nI kn), .int (nI i)]) (st := [.int (nI i), .ref (ad 242)]) (c_X7_rightOf (kn := kn) (e := i) h3 hc1 h9 h40 h41 (by first | assumption | decide | omega) (by first | assumption | decide | omega) (by first | assumption | decide | omega)) kv_X7_rightOf tq_865 h3 rfl (by omega) ⟨rfl, rfl⟩ (by decide) ⟨Nat.le_refl _, Nat.le_refl _⟩ rfl rfl (Nat.le_of_ble_eq_true rfl) (dk dX7_findRight 23 rfl) rfl (fun r36 E36 hp36 => ?_)
          obtain ⟨m2_36, rd1_36, er1_36, th1_36, rfl, hK233_36, hK239_36, hK240_36, hK241_36, hF36⟩ := hp36
          have hc2 := (hF36 242 (by omega)).trans h42
          refine g_last F (q := 40) i hc2 (by omega) rfl (by omega) (by decide) (dk dX7_findRight 24 rfl) rfl (fun E39 hE39 hO39 => ?_)
          refine g_iinc F (q := 43) (v := (nI ((i + 1)))) (lv' := [(2, .int (nI ((i + 1)))), (0, .ref (ad 233)), (1, .int (nI kn))]) (dk dX7_findRight 25 rfl) rfl 2 rfl (nI_1 _) (Nat.le_of_ble_eq_true rfl) rfl ?_
          refine g_goto F (tgt := 2) (dk dX7_findRight 26 rfl) (by decide) ?_
          refine g_lv (lv' := [(0, .ref (ad 233)), (1, .int (nI kn)), (2, .int (nI ((i + 1))))]) [1, 2, 0] rfl ?_
          have hc3 := (hO39 233 (by omega)).trans hK233_36
          have hc4 := (hO39 239 (by omega)).trans hK239_36
          have hc5 := (hO39 240 (by omega)).trans hK240_36
          have hc6 := (hO39 241 (by omega)).trans hK241_36
          exact ih (i + 1) m2_36 rd1_36 er1_36 th1_36 (vp_updL rt2 i (rgt r nt kn i)) E39 (by omega) hc3 hc4 hc5 hc6 hE39 (fun j hj => (((hO39 j (by omega)).trans (hF36 j (by omega))).trans (hfr2 j (by omega)))) (by omega) (frS (g := rgO r nt kn) hR (if_neg c26).symm)
        · refine g_lconst F (q := 30) (v := 0) (dk dX7_findRight 18 rfl) rfl (by decide) ?_
          refine g_goto F (tgt := 39) (dk dX7_findRight 19 rfl) (by decide) ?_
          refine g_last F (q := 40) i h42 (by omega) rfl (by omega) (by decide) (dk dX7_findRight 24 rfl) rfl (fun E39 hE39 hO39 => ?_)
          refine g_iinc F (q := 43) (v := (nI ((i + 1)))) (lv' := [(2, .int (nI ((i + 1)))), (0, .ref (ad 233)), (1, .int (nI kn))]) (dk dX7_findRight 25 rfl) rfl 2 rfl (nI_1 _) (Nat.le_of_ble_eq_true rfl) rfl ?_
          refine g_goto F (tgt := 2) (dk dX7_findRight 26 rfl) (by decide) ?_
          refine g_lv (lv' := [(0, .ref (ad 233)), (1, .int (nI kn)), (2, .int (nI ((i + 1))))]) [1, 2, 0] rfl ?_
          have hc7 := (hO39 233 (by omega)).trans h3
          have hc8 := (hO39 239 (by omega)).trans h9
          have hc9 := (hO39 240 (by omega)).trans h40
          have hc10 := (hO39 241 (by omega)).trans h41
          exact ih (i + 1) m3 rd2 er2 th2 (vp_updL rt2 i 0) E39 (by omega) hc7 hc8 hc9 hc10 hE39 (fun j hj => ((hO39 j (by omega)).trans (hfr2 j (by omega)))) (by omega) (frS (g := rgO r nt kn) hR (if_pos c26).symm)
  refine g_lv (lv' := [(0, .ref (ad 233)), (1, .int (nI kn)), (2, .int 0)]) [1, 2, 0] rfl ?_
  exact K2 _ 0 s5 rd er th rt E (Nat.lt_succ_self _) h233 h239 h240 h241 h242 (fun j _ => rfl) (by omega) (fun e he => absurd he (Nat.not_lt_zero e))
theorem kv_X7_findRight : KV yX7_findRight "ThumpEarsModel" cX7_findRight 3 (none) 1 := ⟨tq_883, tq_34, tq_47, tq_884, by decide +kernel⟩
abbrev rm_X7_beginning : Room := { frames := 1, cells := 0, slots := 0, locals := 23 }
set_option maxHeartbeats 4000000 in
set_option maxRecDepth 100000 in
theorem c_X7_beginning {l : Launch} {D : va_G} {cA : Nat → ClassId} {ad : Nat → Nat} {E : Nat → va_E} {s0 s1 s2 s3 s4 s5 : Int32} {lo mo : Int64} {r : Nat → Int32} {rt : Nat → Int64} {kn e : Nat} {xx : Int32} (h233 : E 233 = .inr (7, [.ref (ad 234), .ref (ad 235), .ref (ad 236), .ref (ad 237), .int s0, .int s1, .ref (ad 238), .int s2, .int s3, .int s4, .int s5, .ref (ad 239), .ref (ad 240), .ref (ad 241), .long lo, .long mo, .ref (ad 242)])) (h234 : E 234 = .inl (cA 0, 346, .inl r)) (h242 : E 242 = .inl (cA 1, 10, .inr (.inl rt)))  (hk : kn < 10) (he : e < 10) : CtL l D cA yX7_beginning cX7_beginning 4 rm_X7_beginning 243 ad E [.ref (ad 233), .int (nI kn), .int (nI e), .int xx] (fun x E' => (rt e - 1000 * (r (46 + 50 * 1 + 5 * kn + 3)).toInt64 * (far xx (r (6 + 4 * e + 0))).toInt64) = x ∧ E = E') := by
  refine CtL.of (by decide +kernel) (Nat.le_of_ble_eq_true rfl) (fun X F hret => ?_)
  have F : Fr "ThumpEarsModel" cX7_beginning 4 D cA X := F
  refine (show GG rm_X7_beginning 4 l D X 0 0 243 ad E 0 [(0, .ref (ad 233)), (1, .int (nI kn)), (2, .int (nI e)), (3, .int xx)] [] from ?_)
  refine g_aload_n F (q := 1) (dk dX7_beginning 0 rfl) rfl rfl 0 rfl ?_
  refine g_getf F (q := 4) h233 rfl inX7 (by omega) (j := 16) (by decide) tq_639 rfl rfl (dk dX7_beginning 1 rfl) rfl ?_
  refine g_iload_n F (q := 5) (dk dX7_beginning 2 rfl) rfl rfl 2 rfl ?_
  refine g_lald F (q := 6) e h242 (by omega) rfl (by omega) (by decide) (dk dX7_beginning 3 rfl) rfl ?_
  refine g_ldc2 F (q := 9) (v := 1000) (dk dX7_beginning 4 rfl) rfl tq_852 ?_
  refine g_aload_n F (q := 10) (dk dX7_beginning 5 rfl) rfl rfl 0 rfl ?_
  refine g_iconst F (q := 11) (v := 1) (dk dX7_beginning 6 rfl) rfl (by decide) ?_
  refine g_iload_n F (q := 12) (dk dX7_beginning 7 rfl) rfl rfl 1 rfl ?_
  refine g_iconst F (q := 13) (v := 3) (dk dX7_beginning 8 rfl) rfl (by decide) ?_
  refine g_callVI F (q := 16) (av := [.int 1, .int (nI kn), .int 3]) (st := [.long 1000, .long (rt e)]) (c_X7_come (k := 1) (m := kn) (w := 3) h233 h234 (by first | assumption | decide | omega)) kv_X7_come tq_770 h233 rfl (by omega) ⟨rfl, rfl⟩ (by decide) ⟨Nat.le_refl _, Nat.le_refl _⟩ rfl rfl (Nat.le_of_ble_eq_true rfl) (dk dX7_beginning 9 rfl) rfl (fun r13 E13 hp13 => ?_)
  obtain ⟨rfl, rfl⟩ := hp13
  refine g_i2l F (q := 17) (dk dX7_beginning 10 rfl) rfl ?_
  refine g_lmul F (q := 18) (dk dX7_beginning 11 rfl) rfl ?_
  refine g_iload_n F (q := 19) (dk dX7_beginning 12 rfl) rfl rfl 3 rfl ?_
  refine g_aload_n F (q := 20) (dk dX7_beginning 13 rfl) rfl rfl 0 rfl ?_
  refine g_iload_n F (q := 21) (dk dX7_beginning 14 rfl) rfl rfl 2 rfl ?_
  refine g_iconst F (q := 22) (v := 0) (dk dX7_beginning 15 rfl) rfl (by decide) ?_
  refine g_callVI F (q := 25) (av := [.int (nI e), .int 0]) (st := [.int xx, .long (1000 * (r (46 + 50 * 1 + 5 * kn + 3)).toInt64), .long (rt e)]) (c_X7_of (e := e) (w := 0) h233 h234 (by first | assumption | decide | omega)) kv_X7_of tq_718 h233 rfl (by omega) ⟨rfl, rfl⟩ (by decide) ⟨Nat.le_refl _, Nat.le_refl _⟩ rfl rfl (Nat.le_of_ble_eq_true rfl) (dk dX7_beginning 16 rfl) rfl (fun r22 E22 hp22 => ?_)
  obtain ⟨rfl, rfl⟩ := hp22
  refine g_callSI F (q := 28) (av := [.int xx, .int (r (6 + 4 * e + 0))]) (st := [.long (1000 * (r (46 + 50 * 1 + 5 * kn + 3)).toInt64), .long (rt e)]) (c_X7_far (a := xx) (b := (r (6 + 4 * e + 0)))) ks_X7_far tq_747 ⟨rfl, rfl⟩ (by decide) ⟨Nat.le_refl _, Nat.le_refl _⟩ rfl rfl (Nat.le_of_ble_eq_true rfl) (dk dX7_beginning 17 rfl) rfl (fun r25 E25 hp25 => ?_)
  obtain ⟨rfl, rfl⟩ := hp25
  refine g_i2l F (q := 29) (dk dX7_beginning 18 rfl) rfl ?_
  refine g_lmul F (q := 30) (dk dX7_beginning 19 rfl) rfl ?_
  refine g_lsub F (q := 31) (dk dX7_beginning 20 rfl) rfl ?_
  refine hret ((rt e) - ((1000 * (r (46 + 50 * 1 + 5 * kn + 3)).toInt64) * (far xx (r (6 + 4 * e + 0))).toInt64)) E _ _ (dk dX7_beginning 21 rfl) ?_
  exact ⟨rfl, rfl⟩
theorem kv_X7_beginning : KV yX7_beginning "ThumpEarsModel" cX7_beginning 4 (some .long) 3 := ⟨tq_891, tq_36, tq_47, tq_892, by decide +kernel⟩
abbrev rm_X7_spreadAt : Room := { frames := 2, cells := 0, slots := 0, locals := 46 }
set_option maxHeartbeats 4000000 in
set_option maxRecDepth 100000 in
theorem c_X7_spreadAt {l : Launch} {D : va_G} {cA : Nat → ClassId} {ad : Nat → Nat} {E : Nat → va_E} {s0 s1 s2 s3 s4 s5 : Int32} {lo mo : Int64} {r : Nat → Int32} {ne nt nk : Nat} {rt : Nat → Int64} {kn : Nat} {xx : Int32} (h233 : E 233 = .inr (7, [.ref (ad 234), .ref (ad 235), .ref (ad 236), .ref (ad 237), .int s0, .int s1, .ref (ad 238), .int s2, .int s3, .int s4, .int s5, .ref (ad 239), .ref (ad 240), .ref (ad 241), .long lo, .long mo, .ref (ad 242)])) (h234 : E 234 = .inl (cA 0, 346, .inl r)) (h242 : E 242 = .inl (cA 1, 10, .inr (.inl rt)))  (hk : kn < nk) (hI : Inv r ne nt nk) (hR : ∀ e, e < ne → rt e = rgO r nt kn e) : CtL l D cA yX7_spreadAt cX7_spreadAt 7 rm_X7_spreadAt 243 ad E [.ref (ad 233), .int (nI kn), .int xx] (fun x E' => ∃ (l2 : Int64) (m2 : Int64), (m2 - l2) = x ∧ E' 233 = .inr (7, [.ref (ad 234), .ref (ad 235), .ref (ad 236), .ref (ad 237), .int s0, .int s1, .ref (ad 238), .int s2, .int s3, .int s4, .int s5, .ref (ad 239), .ref (ad 240), .ref (ad 241), .long l2, .long m2, .ref (ad 242)]) ∧ (0 < hC r kn ne → l2 = lsB r nt kn xx ne ∧ m2 = msB r nt kn xx ne) ∧ ∀ j, (j ≠ 233) → E' j = E j) := by
  refine CtL.of (by decide +kernel) (Nat.le_of_ble_eq_true rfl) (fun X F hret => ?_)
  have F : Fr "ThumpEarsModel" cX7_spreadAt 7 D cA X := F
  refine (show GG rm_X7_spreadAt 7 l D X 0 0 243 ad E 0 [(0, .ref (ad 233)), (1, .int (nI kn)), (2, .int xx)] [] from ?_)
  have hnk := hI.e2
  have hne := hI.e0
  have hnt := hI.e1
  refine g_iconst F (q := 1) (v := 0) (dk dX7_spreadAt 0 rfl) rfl (by decide) ?_
  refine g_istore_n F (q := 2) (lv' := [(3, .int 0), (0, .ref (ad 233)), (1, .int (nI kn)), (2, .int xx)]) (dk dX7_spreadAt 1 rfl) rfl rfl (Nat.le_of_ble_eq_true rfl) rfl ?_
  refine g_iconst F (q := 3) (v := 0) (dk dX7_spreadAt 2 rfl) rfl (by decide) ?_
  refine g_istore F (q := 5) (lv' := [(4, .int 0), (3, .int 0), (0, .ref (ad 233)), (1, .int (nI kn)), (2, .int xx)]) (dk dX7_spreadAt 3 rfl) rfl (Nat.le_of_ble_eq_true rfl) rfl ?_
  have K5 : ∀ (fu : Nat) (i : Nat) (a : Nat) (l1 : Int64) (m1 : Int64) (E1 : Nat → va_E), ne - i < fu → (h3 : E1 233 = .inr (7, [.ref (ad 234), .ref (ad 235), .ref (ad 236), .ref (ad 237), .int s0, .int s1, .ref (ad 238), .int s2, .int s3, .int s4, .int s5, .ref (ad 239), .ref (ad 240), .ref (ad 241), .long l1, .long m1, .ref (ad 242)])) → (hfr5 : ∀ j, (j ≠ 233) → E1 j = E j) → (hi : i ≤ ne) → (ha : (a = 0 ∧ hC r kn i = 0) ∨ (a = 1 ∧ 0 < hC r kn i)) → (hl : 0 < hC r kn i → l1 = lsB r nt kn xx i ∧ m1 = msB r nt kn xx i) → GG rm_X7_spreadAt 7 l D X 0 0 243 ad E1 5 [(0, .ref (ad 233)), (1, .int (nI kn)), (2, .int xx), (3, .int (nI a)), (4, .int (nI i))] [] := by
    intro fu
    induction fu with
    | zero => intro i a l1 m1 E1 hfu_; exact absurd hfu_ (Nat.not_lt_zero _)
    | succ fu ih =>
      intro i a l1 m1 E1 hfu_ h3 hfr5 hi ha hl
      refine g_iload F (q := 7) (dk dX7_spreadAt 4 rfl) rfl 4 rfl ?_
      refine g_aload_n F (q := 8) (dk dX7_spreadAt 5 rfl) rfl rfl 0 rfl ?_
      refine g_getf F (q := 11) h3 rfl inX7 (by omega) (j := 0) (by decide) tq_623 rfl rfl (dk dX7_spreadAt 6 rfl) rfl ?_
      refine g_iconst F (q := 12) (v := 0) (dk dX7_spreadAt 7 rfl) rfl (by decide) ?_
      have hc1 := (hfr5 234 (by omega)).trans h234
      refine g_iald F (q := 13) 0 hc1 (by omega) rfl (by omega) (by decide) (dk dX7_spreadAt 8 rfl) rfl ?_
      refine g_sti (y := (nI ne)) hI.h0 ?_
      refine g_icmp_ge F (q := 16) (tgt := 101) (dk dX7_spreadAt 9 rfl) (by decide) rfl (fun c13 => ?_) (fun c13 => ?_)
      · have nc13 : ne ≤ i := (nI_leI (a := ne) (b := i) (by omega) (by omega)).mp c13
        refine g_aload_n F (q := 102) (dk dX7_spreadAt 53 rfl) rfl rfl 0 rfl ?_
        refine g_getf F (q := 105) h3 rfl inX7 (by omega) (j := 15) (by decide) tq_638 rfl rfl (dk dX7_spreadAt 54 rfl) rfl ?_
        refine g_aload_n F (q := 106) (dk dX7_spreadAt 55 rfl) rfl rfl 0 rfl ?_
        refine g_getf F (q := 109) h3 rfl inX7 (by omega) (j := 14) (by decide) tq_637 rfl rfl (dk dX7_spreadAt 56 rfl) rfl ?_
        refine g_lsub F (q := 110) (dk dX7_spreadAt 57 rfl) rfl ?_
        refine hret (m1 - l1) E1 _ _ (dk dX7_spreadAt 58 rfl) ?_
        have hie : i = ne := by omega
        subst hie
        exact ⟨l1, m1, rfl, h3, hl, (fun j hj => (hfr5 j (by omega)))⟩
      · have nc13 : ¬ ne ≤ i := fun h => c13 ((nI_leI (a := ne) (b := i) (by omega) (by omega)).mpr h)
        refine g_aload_n F (q := 17) (dk dX7_spreadAt 10 rfl) rfl rfl 0 rfl ?_
        refine g_iconst F (q := 18) (v := 1) (dk dX7_spreadAt 11 rfl) rfl (by decide) ?_
        refine g_iload_n F (q := 19) (dk dX7_spreadAt 12 rfl) rfl rfl 1 rfl ?_
        refine g_iload F (q := 21) (dk dX7_spreadAt 13 rfl) rfl 4 rfl ?_
        refine g_callVI F (q := 24) (av := [.int 1, .int (nI kn), .int (nI i)]) (st := []) (c_X7_heardOf (k := 1) (m := kn) (e := i) h3 hc1 (by first | assumption | decide | omega)) kv_X7_heardOf tq_822 h3 rfl (by omega) ⟨rfl, rfl⟩ (by decide) ⟨Nat.le_refl _, Nat.le_refl _⟩ rfl rfl (Nat.le_of_ble_eq_true rfl) (dk dX7_spreadAt 14 rfl) rfl (fun r21 E21 hp21 => ?_)
        obtain ⟨rfl, rfl⟩ := hp21
        refine g_ldc F (q := 26) (v := (-1000000000)) (dk dX7_spreadAt 15 rfl) rfl tq_622 ?_
        refine g_sti (y := MISS) rfl ?_
        refine g_icmp_eq F (q := 29) (tgt := 95) (dk dX7_spreadAt 16 rfl) (by decide) rfl (fun c26 => ?_) (fun c26 => ?_)
        · refine g_iinc F (q := 98) (v := (nI ((i + 1)))) (lv' := [(4, .int (nI ((i + 1)))), (0, .ref (ad 233)), (1, .int (nI kn)), (2, .int xx), (3, .int (nI a))]) (dk dX7_spreadAt 51 rfl) rfl 4 rfl (nI_1 _) (Nat.le_of_ble_eq_true rfl) rfl ?_
          refine g_goto F (tgt := 5) (dk dX7_spreadAt 52 rfl) (by decide) ?_
          refine g_lv (lv' := [(0, .ref (ad 233)), (1, .int (nI kn)), (2, .int xx), (3, .int (nI a)), (4, .int (nI ((i + 1))))]) [1, 2, 3, 4, 0] rfl ?_
          exact ih (i + 1) a l1 m1 E1 (by omega) h3 (fun j hj => (hfr5 j (by omega))) (by omega) (by rw [(hF_f c26).1]; exact ha) (by rw [(hF_f c26).1, (lsB_f c26).1, (lsB_f c26).2]; exact hl)
        · refine g_aload_n F (q := 30) (dk dX7_spreadAt 17 rfl) rfl rfl 0 rfl ?_
          refine g_iload_n F (q := 31) (dk dX7_spreadAt 18 rfl) rfl rfl 1 rfl ?_
          refine g_iload F (q := 33) (dk dX7_spreadAt 19 rfl) rfl 4 rfl ?_
          refine g_iload_n F (q := 34) (dk dX7_spreadAt 20 rfl) rfl rfl 2 rfl ?_
          have hc2 := (hfr5 242 (by omega)).trans h242
          refine g_callVL F (q := 37) (av := [.int (nI kn), .int (nI i), .int xx]) (st := []) (c_X7_beginning (kn := kn) (e := i) (xx := xx) h3 hc1 hc2 (by first | assumption | decide | omega) (by first | assumption | decide | omega)) kv_X7_beginning tq_889 h3 rfl (by omega) ⟨rfl, rfl⟩ (by decide) ⟨Nat.le_refl _, Nat.le_refl _⟩ rfl rfl (Nat.le_of_ble_eq_true rfl) (dk dX7_spreadAt 21 rfl) rfl (fun r34 E34 hp34 => ?_)
          obtain ⟨rfl, rfl⟩ := hp34
          refine g_stl (y := (bg r nt kn xx i)) (by rw [hR i (by omega)]; unfold rgO; rw [if_neg c26]; rfl) ?_
          refine g_topl (fun bv ebv => ?_)
          refine g_lstore F (q := 39) (lv' := [(5, .long bv), (0, .ref (ad 233)), (1, .int (nI kn)), (2, .int xx), (3, .int (nI a)), (4, .int (nI i))]) (dk dX7_spreadAt 22 rfl) rfl (Nat.le_of_ble_eq_true rfl) rfl ?_
          refine g_aload_n F (q := 40) (dk dX7_spreadAt 23 rfl) rfl rfl 1 rfl ?_
          refine g_iload_n F (q := 41) (dk dX7_spreadAt 24 rfl) rfl rfl 4 rfl ?_
          refine g_if_eq F (q := 44) (tgt := 54) (dk dX7_spreadAt 25 rfl) (by decide) rfl (fun c41 => ?_) (fun c41 => ?_)
          · have nc41 : a = 0 := (nI_eq (a := a) (b := 0) (by omega) (by omega)).mp c41
            refine g_lload F (q := 56) (dk dX7_spreadAt 31 rfl) rfl 0 rfl ?_
            refine g_goto F (tgt := 63) (dk dX7_spreadAt 32 rfl) (by decide) ?_
            refine g_putf F (q := 66) (ty := .long) h3 rfl inX7 tyX7 tyX7_ok nmX7 (by omega) (j := 14) (by decide) tq_637 rfl rfl (by decide +kernel) rfl rfl (Nat.le_of_ble_eq_true rfl) (dk dX7_spreadAt 35 rfl) rfl (fun E63 hE63 hO63 => ?_)
            have hE63 : E63 233 = .inr (7, [.ref (ad 234), .ref (ad 235), .ref (ad 236), .ref (ad 237), .int s0, .int s1, .ref (ad 238), .int s2, .int s3, .int s4, .int s5, .ref (ad 239), .ref (ad 240), .ref (ad 241), .long bv, .long m1, .ref (ad 242)]) := hE63
            refine g_aload_n F (q := 67) (dk dX7_spreadAt 36 rfl) rfl rfl 1 rfl ?_
            refine g_iload_n F (q := 68) (dk dX7_spreadAt 37 rfl) rfl rfl 4 rfl ?_
            refine g_if_eq F (q := 71) (tgt := 81) (dk dX7_spreadAt 38 rfl) (by decide) rfl (fun c68 => ?_) (fun c68 => absurd c68 (fun h => h c41))
            have nc68 : a = 0 := (nI_eq (a := a) (b := 0) (by omega) (by omega)).mp c68
            refine g_lload F (q := 83) (dk dX7_spreadAt 44 rfl) rfl 0 rfl ?_
            refine g_goto F (tgt := 90) (dk dX7_spreadAt 45 rfl) (by decide) ?_
            refine g_putf F (q := 93) (ty := .long) hE63 rfl inX7 tyX7 tyX7_ok nmX7 (by omega) (j := 15) (by decide) tq_638 rfl rfl (by decide +kernel) rfl rfl (Nat.le_of_ble_eq_true rfl) (dk dX7_spreadAt 48 rfl) rfl (fun E90 hE90 hO90 => ?_)
            have hE90 : E90 233 = .inr (7, [.ref (ad 234), .ref (ad 235), .ref (ad 236), .ref (ad 237), .int s0, .int s1, .ref (ad 238), .int s2, .int s3, .int s4, .int s5, .ref (ad 239), .ref (ad 240), .ref (ad 241), .long bv, .long bv, .ref (ad 242)]) := hE90
            refine g_iconst F (q := 94) (v := 1) (dk dX7_spreadAt 49 rfl) rfl (by decide) ?_
            refine g_istore_n F (q := 95) (lv' := [(3, .int 1), (5, .long bv), (0, .ref (ad 233)), (1, .int (nI kn)), (2, .int xx), (4, .int (nI i))]) (dk dX7_spreadAt 50 rfl) rfl rfl (Nat.le_of_ble_eq_true rfl) rfl ?_
            refine g_iinc F (q := 98) (v := (nI ((i + 1)))) (lv' := [(4, .int (nI ((i + 1)))), (3, .int 1), (5, .long bv), (0, .ref (ad 233)), (1, .int (nI kn)), (2, .int xx)]) (dk dX7_spreadAt 51 rfl) rfl 5 rfl (nI_1 _) (Nat.le_of_ble_eq_true rfl) rfl ?_
            refine g_goto F (tgt := 5) (dk dX7_spreadAt 52 rfl) (by decide) ?_
            refine g_lv (lv' := [(0, .ref (ad 233)), (1, .int (nI kn)), (2, .int xx), (3, .int 1), (4, .int (nI ((i + 1))))]) [3, 4, 5, 1, 0] rfl ?_
            exact ih (i + 1) 1 bv bv E90 (by omega) hE90 (fun j hj => (((hO90 j (by omega)).trans (hO63 j (by omega))).trans (hfr5 j (by omega)))) (by omega) (Or.inr ⟨rfl, by rw [(hF_t c26).1]; omega⟩) (fun _ => ⟨ebv.trans (lsB_0 c26 (by omega)).1.symm, ebv.trans (lsB_0 c26 (by omega)).2.symm⟩)
          · have nc41 : ¬ a = 0 := fun h => c41 ((nI_eq (a := a) (b := 0) (by omega) (by omega)).mpr h)
            refine g_lload F (q := 46) (dk dX7_spreadAt 26 rfl) rfl 0 rfl ?_
            refine g_aload_n F (q := 47) (dk dX7_spreadAt 27 rfl) rfl rfl 1 rfl ?_
            refine g_getf F (q := 50) h3 rfl inX7 (by omega) (j := 14) (by decide) tq_637 rfl rfl (dk dX7_spreadAt 28 rfl) rfl ?_
            refine g_lcmp_ge F (q := 54) (tgt := 59) (dk dX7_spreadAt 29 rfl) (dk dX7_spreadAt 30 rfl) (by decide) rfl (fun c50 => ?_) (fun c50 => ?_)
            · refine g_aload_n F (q := 60) (dk dX7_spreadAt 33 rfl) rfl rfl 1 rfl ?_
              refine g_getf F (q := 63) h3 rfl inX7 (by omega) (j := 14) (by decide) tq_637 rfl rfl (dk dX7_spreadAt 34 rfl) rfl ?_
              refine g_putf F (q := 66) (ty := .long) h3 rfl inX7 tyX7 tyX7_ok nmX7 (by omega) (j := 14) (by decide) tq_637 rfl rfl (by decide +kernel) rfl rfl (Nat.le_of_ble_eq_true rfl) (dk dX7_spreadAt 35 rfl) rfl (fun E63 hE63 hO63 => ?_)
              have hE63 : E63 233 = .inr (7, [.ref (ad 234), .ref (ad 235), .ref (ad 236), .ref (ad 237), .int s0, .int s1, .ref (ad 238), .int s2, .int s3, .int s4, .int s5, .ref (ad 239), .ref (ad 240), .ref (ad 241), .long l1, .long m1, .ref (ad 242)]) := hE63
              refine g_aload_n F (q := 67) (dk dX7_spreadAt 36 rfl) rfl rfl 1 rfl ?_
              refine g_iload_n F (q := 68) (dk dX7_spreadAt 37 rfl) rfl rfl 4 rfl ?_
              refine g_if_eq F (q := 71) (tgt := 81) (dk dX7_spreadAt 38 rfl) (by decide) rfl (fun c68 => absurd c68 c41) (fun c68 => ?_)
              have nc68 : ¬ a = 0 := fun h => c68 ((nI_eq (a := a) (b := 0) (by omega) (by omega)).mpr h)
              refine g_lload F (q := 73) (dk dX7_spreadAt 39 rfl) rfl 0 rfl ?_
              refine g_aload_n F (q := 74) (dk dX7_spreadAt 40 rfl) rfl rfl 1 rfl ?_
              refine g_getf F (q := 77) hE63 rfl inX7 (by omega) (j := 15) (by decide) tq_638 rfl rfl (dk dX7_spreadAt 41 rfl) rfl ?_
              refine g_lcmp_le F (q := 81) (tgt := 86) (dk dX7_spreadAt 42 rfl) (dk dX7_spreadAt 43 rfl) (by decide) rfl (fun c77 => ?_) (fun c77 => ?_)
              · refine g_aload_n F (q := 87) (dk dX7_spreadAt 46 rfl) rfl rfl 1 rfl ?_
                refine g_getf F (q := 90) hE63 rfl inX7 (by omega) (j := 15) (by decide) tq_638 rfl rfl (dk dX7_spreadAt 47 rfl) rfl ?_
                refine g_putf F (q := 93) (ty := .long) hE63 rfl inX7 tyX7 tyX7_ok nmX7 (by omega) (j := 15) (by decide) tq_638 rfl rfl (by decide +kernel) rfl rfl (Nat.le_of_ble_eq_true rfl) (dk dX7_spreadAt 48 rfl) rfl (fun E90 hE90 hO90 => ?_)
                have hE90 : E90 233 = .inr (7, [.ref (ad 234), .ref (ad 235), .ref (ad 236), .ref (ad 237), .int s0, .int s1, .ref (ad 238), .int s2, .int s3, .int s4, .int s5, .ref (ad 239), .ref (ad 240), .ref (ad 241), .long l1, .long m1, .ref (ad 242)]) := hE90
                refine g_iconst F (q := 94) (v := 1) (dk dX7_spreadAt 49 rfl) rfl (by decide) ?_
                refine g_istore_n F (q := 95) (lv' := [(3, .int 1), (5, .long bv), (0, .ref (ad 233)), (1, .int (nI kn)), (2, .int xx), (4, .int (nI i))]) (dk dX7_spreadAt 50 rfl) rfl rfl (Nat.le_of_ble_eq_true rfl) rfl ?_
                refine g_iinc F (q := 98) (v := (nI ((i + 1)))) (lv' := [(4, .int (nI ((i + 1)))), (3, .int 1), (5, .long bv), (0, .ref (ad 233)), (1, .int (nI kn)), (2, .int xx)]) (dk dX7_spreadAt 51 rfl) rfl 5 rfl (nI_1 _) (Nat.le_of_ble_eq_true rfl) rfl ?_
                refine g_goto F (tgt := 5) (dk dX7_spreadAt 52 rfl) (by decide) ?_
                refine g_lv (lv' := [(0, .ref (ad 233)), (1, .int (nI kn)), (2, .int xx), (3, .int 1), (4, .int (nI ((i + 1))))]) [3, 4, 5, 1, 0] rfl ?_
                exact ih (i + 1) 1 l1 m1 E90 (by omega) hE90 (fun j hj => (((hO90 j (by omega)).trans (hO63 j (by omega))).trans (hfr5 j (by omega)))) (by omega) (Or.inr ⟨rfl, by rw [(hF_t c26).1]; omega⟩) (fun _ => ⟨by rw [(lsB_t c26 (by omega)).1, ← ebv, ← (hl (by omega)).1, if_neg (Int64.not_lt.mpr c50)], by rw [(lsB_t c26 (by omega)).2, ← ebv, ← (hl (by omega)).2, if_neg (Int64.not_lt.mpr c77)]⟩)
              · refine g_lload F (q := 83) (dk dX7_spreadAt 44 rfl) rfl 0 rfl ?_
                refine g_goto F (tgt := 90) (dk dX7_spreadAt 45 rfl) (by decide) ?_
                refine g_putf F (q := 93) (ty := .long) hE63 rfl inX7 tyX7 tyX7_ok nmX7 (by omega) (j := 15) (by decide) tq_638 rfl rfl (by decide +kernel) rfl rfl (Nat.le_of_ble_eq_true rfl) (dk dX7_spreadAt 48 rfl) rfl (fun E90 hE90 hO90 => ?_)
                have hE90 : E90 233 = .inr (7, [.ref (ad 234), .ref (ad 235), .ref (ad 236), .ref (ad 237), .int s0, .int s1, .ref (ad 238), .int s2, .int s3, .int s4, .int s5, .ref (ad 239), .ref (ad 240), .ref (ad 241), .long l1, .long bv, .ref (ad 242)]) := hE90
                refine g_iconst F (q := 94) (v := 1) (dk dX7_spreadAt 49 rfl) rfl (by decide) ?_
                refine g_istore_n F (q := 95) (lv' := [(3, .int 1), (5, .long bv), (0, .ref (ad 233)), (1, .int (nI kn)), (2, .int xx), (4, .int (nI i))]) (dk dX7_spreadAt 50 rfl) rfl rfl (Nat.le_of_ble_eq_true rfl) rfl ?_
                refine g_iinc F (q := 98) (v := (nI ((i + 1)))) (lv' := [(4, .int (nI ((i + 1)))), (3, .int 1), (5, .long bv), (0, .ref (ad 233)), (1, .int (nI kn)), (2, .int xx)]) (dk dX7_spreadAt 51 rfl) rfl 5 rfl (nI_1 _) (Nat.le_of_ble_eq_true rfl) rfl ?_
                refine g_goto F (tgt := 5) (dk dX7_spreadAt 52 rfl) (by decide) ?_
                refine g_lv (lv' := [(0, .ref (ad 233)), (1, .int (nI kn)), (2, .int xx), (3, .int 1), (4, .int (nI ((i + 1))))]) [3, 4, 5, 1, 0] rfl ?_
                exact ih (i + 1) 1 l1 bv E90 (by omega) hE90 (fun j hj => (((hO90 j (by omega)).trans (hO63 j (by omega))).trans (hfr5 j (by omega)))) (by omega) (Or.inr ⟨rfl, by rw [(hF_t c26).1]; omega⟩) (fun _ => ⟨by rw [(lsB_t c26 (by omega)).1, ← ebv, ← (hl (by omega)).1, if_neg (Int64.not_lt.mpr c50)], by rw [(lsB_t c26 (by omega)).2, ← ebv, ← (hl (by omega)).2, if_pos (Int64.not_le.mp c77)]⟩)
            · refine g_lload F (q := 56) (dk dX7_spreadAt 31 rfl) rfl 0 rfl ?_
              refine g_goto F (tgt := 63) (dk dX7_spreadAt 32 rfl) (by decide) ?_
              refine g_putf F (q := 66) (ty := .long) h3 rfl inX7 tyX7 tyX7_ok nmX7 (by omega) (j := 14) (by decide) tq_637 rfl rfl (by decide +kernel) rfl rfl (Nat.le_of_ble_eq_true rfl) (dk dX7_spreadAt 35 rfl) rfl (fun E63 hE63 hO63 => ?_)
              have hE63 : E63 233 = .inr (7, [.ref (ad 234), .ref (ad 235), .ref (ad 236), .ref (ad 237), .int s0, .int s1, .ref (ad 238), .int s2, .int s3, .int s4, .int s5, .ref (ad 239), .ref (ad 240), .ref (ad 241), .long bv, .long m1, .ref (ad 242)]) := hE63
              refine g_aload_n F (q := 67) (dk dX7_spreadAt 36 rfl) rfl rfl 1 rfl ?_
              refine g_iload_n F (q := 68) (dk dX7_spreadAt 37 rfl) rfl rfl 4 rfl ?_
              refine g_if_eq F (q := 71) (tgt := 81) (dk dX7_spreadAt 38 rfl) (by decide) rfl (fun c68 => absurd c68 c41) (fun c68 => ?_)
              have nc68 : ¬ a = 0 := fun h => c68 ((nI_eq (a := a) (b := 0) (by omega) (by omega)).mpr h)
              refine g_lload F (q := 73) (dk dX7_spreadAt 39 rfl) rfl 0 rfl ?_
              refine g_aload_n F (q := 74) (dk dX7_spreadAt 40 rfl) rfl rfl 1 rfl ?_
              refine g_getf F (q := 77) hE63 rfl inX7 (by omega) (j := 15) (by decide) tq_638 rfl rfl (dk dX7_spreadAt 41 rfl) rfl ?_
              refine g_lcmp_le F (q := 81) (tgt := 86) (dk dX7_spreadAt 42 rfl) (dk dX7_spreadAt 43 rfl) (by decide) rfl (fun c77 => ?_) (fun c77 => ?_)
              · refine g_aload_n F (q := 87) (dk dX7_spreadAt 46 rfl) rfl rfl 1 rfl ?_
                refine g_getf F (q := 90) hE63 rfl inX7 (by omega) (j := 15) (by decide) tq_638 rfl rfl (dk dX7_spreadAt 47 rfl) rfl ?_
                refine g_putf F (q := 93) (ty := .long) hE63 rfl inX7 tyX7 tyX7_ok nmX7 (by omega) (j := 15) (by decide) tq_638 rfl rfl (by decide +kernel) rfl rfl (Nat.le_of_ble_eq_true rfl) (dk dX7_spreadAt 48 rfl) rfl (fun E90 hE90 hO90 => ?_)
                have hE90 : E90 233 = .inr (7, [.ref (ad 234), .ref (ad 235), .ref (ad 236), .ref (ad 237), .int s0, .int s1, .ref (ad 238), .int s2, .int s3, .int s4, .int s5, .ref (ad 239), .ref (ad 240), .ref (ad 241), .long bv, .long m1, .ref (ad 242)]) := hE90
                refine g_iconst F (q := 94) (v := 1) (dk dX7_spreadAt 49 rfl) rfl (by decide) ?_
                refine g_istore_n F (q := 95) (lv' := [(3, .int 1), (5, .long bv), (0, .ref (ad 233)), (1, .int (nI kn)), (2, .int xx), (4, .int (nI i))]) (dk dX7_spreadAt 50 rfl) rfl rfl (Nat.le_of_ble_eq_true rfl) rfl ?_
                refine g_iinc F (q := 98) (v := (nI ((i + 1)))) (lv' := [(4, .int (nI ((i + 1)))), (3, .int 1), (5, .long bv), (0, .ref (ad 233)), (1, .int (nI kn)), (2, .int xx)]) (dk dX7_spreadAt 51 rfl) rfl 5 rfl (nI_1 _) (Nat.le_of_ble_eq_true rfl) rfl ?_
                refine g_goto F (tgt := 5) (dk dX7_spreadAt 52 rfl) (by decide) ?_
                refine g_lv (lv' := [(0, .ref (ad 233)), (1, .int (nI kn)), (2, .int xx), (3, .int 1), (4, .int (nI ((i + 1))))]) [3, 4, 5, 1, 0] rfl ?_
                exact ih (i + 1) 1 bv m1 E90 (by omega) hE90 (fun j hj => (((hO90 j (by omega)).trans (hO63 j (by omega))).trans (hfr5 j (by omega)))) (by omega) (Or.inr ⟨rfl, by rw [(hF_t c26).1]; omega⟩) (fun _ => ⟨by rw [(lsB_t c26 (by omega)).1, ← ebv, ← (hl (by omega)).1, if_pos (Int64.not_le.mp c50)], by rw [(lsB_t c26 (by omega)).2, ← ebv, ← (hl (by omega)).2, if_neg (Int64.not_lt.mpr c77)]⟩)
              · refine g_lload F (q := 83) (dk dX7_spreadAt 44 rfl) rfl 0 rfl ?_
                refine g_goto F (tgt := 90) (dk dX7_spreadAt 45 rfl) (by decide) ?_
                refine g_putf F (q := 93) (ty := .long) hE63 rfl inX7 tyX7 tyX7_ok nmX7 (by omega) (j := 15) (by decide) tq_638 rfl rfl (by decide +kernel) rfl rfl (Nat.le_of_ble_eq_true rfl) (dk dX7_spreadAt 48 rfl) rfl (fun E90 hE90 hO90 => ?_)
                have hE90 : E90 233 = .inr (7, [.ref (ad 234), .ref (ad 235), .ref (ad 236), .ref (ad 237), .int s0, .int s1, .ref (ad 238), .int s2, .int s3, .int s4, .int s5, .ref (ad 239), .ref (ad 240), .ref (ad 241), .long bv, .long bv, .ref (ad 242)]) := hE90
                refine g_iconst F (q := 94) (v := 1) (dk dX7_spreadAt 49 rfl) rfl (by decide) ?_
                refine g_istore_n F (q := 95) (lv' := [(3, .int 1), (5, .long bv), (0, .ref (ad 233)), (1, .int (nI kn)), (2, .int xx), (4, .int (nI i))]) (dk dX7_spreadAt 50 rfl) rfl rfl (Nat.le_of_ble_eq_true rfl) rfl ?_
                refine g_iinc F (q := 98) (v := (nI ((i + 1)))) (lv' := [(4, .int (nI ((i + 1)))), (3, .int 1), (5, .long bv), (0, .ref (ad 233)), (1, .int (nI kn)), (2, .int xx)]) (dk dX7_spreadAt 51 rfl) rfl 5 rfl (nI_1 _) (Nat.le_of_ble_eq_true rfl) rfl ?_
                refine g_goto F (tgt := 5) (dk dX7_spreadAt 52 rfl) (by decide) ?_
                refine g_lv (lv' := [(0, .ref (ad 233)), (1, .int (nI kn)), (2, .int xx), (3, .int 1), (4, .int (nI ((i + 1))))]) [3, 4, 5, 1, 0] rfl ?_
                exact ih (i + 1) 1 bv bv E90 (by omega) hE90 (fun j hj => (((hO90 j (by omega)).trans (hO63 j (by omega))).trans (hfr5 j (by omega)))) (by omega) (Or.inr ⟨rfl, by rw [(hF_t c26).1]; omega⟩) (fun _ => ⟨by rw [(lsB_t c26 (by omega)).1, ← ebv, ← (hl (by omega)).1, if_pos (Int64.not_le.mp c50)], by rw [(lsB_t c26 (by omega)).2, ← ebv, ← (hl (by omega)).2, if_pos (Int64.not_le.mp c77)]⟩)
  refine g_lv (lv' := [(0, .ref (ad 233)), (1, .int (nI kn)), (2, .int xx), (3, .int 0), (4, .int 0)]) [2, 3, 4, 1, 0] rfl ?_
  exact K5 _ 0 0 lo mo E (Nat.lt_succ_self _) h233 (fun j _ => rfl) (by omega) (Or.inl ⟨rfl, rfl⟩) (fun h => absurd h (Nat.not_lt_zero _))
theorem kv_X7_spreadAt : KV yX7_spreadAt "ThumpEarsModel" cX7_spreadAt 7 (some .long) 2 := ⟨tq_887, tq_35, tq_47, tq_888, by decide +kernel⟩
abbrev rm_X7_placeOf : Room := { frames := 5, cells := 0, slots := 0, locals := 116 }
set_option maxHeartbeats 4000000 in
set_option maxRecDepth 100000 in
theorem c_X7_placeOf {l : Launch} {D : va_G} {cA : Nat → ClassId} {ad : Nat → Nat} {E : Nat → va_E} {s0 s1 s2 s3 s4 s5 : Int32} {lo mo : Int64} {r rd er th : Nat → Int32} {ne nt nk : Nat} {rt : Nat → Int64} {kn : Nat}  (h233 : E 233 = .inr (7, [.ref (ad 234), .ref (ad 235), .ref (ad 236), .ref (ad 237), .int s0, .int s1, .ref (ad 238), .int s2, .int s3, .int s4, .int s5, .ref (ad 239), .ref (ad 240), .ref (ad 241), .long lo, .long mo, .ref (ad 242)])) (h234 : E 234 = .inl (cA 0, 346, .inl r)) (h239 : E 239 = .inl (cA 0, 10, .inl rd)) (h240 : E 240 = .inl (cA 0, 10, .inl er)) (h241 : E 241 = .inl (cA 0, 10, .inl th)) (h242 : E 242 = .inl (cA 1, 10, .inr (.inl rt)))  (hk : kn < nk) (hI : Inv r ne nt nk) (hc : 0 < hC r kn ne) : CtI l D cA yX7_placeOf cX7_placeOf 8 .int rm_X7_placeOf 243 ad E [.ref (ad 233), .int (nI kn)] (fun x E' => ∃ (m2 : Int32) (l2 : Int64) (mo2 : Int64) (rd1 : Nat → Int32) (er1 : Nat → Int32) (th1 : Nat → Int32) (rt1 : Nat → Int64), (nI (plc r ne nt kn)) = x ∧ E' 233 = .inr (7, [.ref (ad 234), .ref (ad 235), .ref (ad 236), .ref (ad 237), .int s0, .int s1, .ref (ad 238), .int s2, .int s3, .int s4, .int m2, .ref (ad 239), .ref (ad 240), .ref (ad 241), .long l2, .long mo2, .ref (ad 242)]) ∧ E' 239 = .inl (cA 0, 10, .inl rd1) ∧ E' 240 = .inl (cA 0, 10, .inl er1) ∧ E' 241 = .inl (cA 0, 10, .inl th1) ∧ E' 242 = .inl (cA 1, 10, .inr (.inl rt1)) ∧ (∀ e, e < ne → rt1 e = rgO r nt kn e) ∧ ∀ j, (j ≠ 233 ∧ j ≠ 239 ∧ j ≠ 240 ∧ j ≠ 241 ∧ j ≠ 242) → E' j = E j) := by
  refine CtI.of (by decide +kernel) (Nat.le_of_ble_eq_true rfl) (fun X F hret => ?_)
  have F : Fr "ThumpEarsModel" cX7_placeOf 8 D cA X := F
  refine (show GG rm_X7_placeOf 8 l D X 0 0 243 ad E 0 [(0, .ref (ad 233)), (1, .int (nI kn))] [] from ?_)
  have hnk := hI.e2
  have hne := hI.e0
  have hnt := hI.e1
  refine g_aload_n F (q := 1) (dk dX7_placeOf 0 rfl) rfl rfl 0 rfl ?_
  refine g_iload_n F (q := 2) (dk dX7_placeOf 1 rfl) rfl rfl 1 rfl ?_
  refine g_callVV F (q := 5) (av := [.int (nI kn)]) (st := []) (c_X7_findRight (kn := kn) h233 h234 h239 h240 h241 h242 (by first | assumption | decide | omega) (by first | assumption | decide | omega)) kv_X7_findRight tq_881 h233 rfl (by omega) ⟨rfl, rfl⟩ (by decide) ⟨Nat.le_refl _, Nat.le_refl _⟩ rfl rfl (Nat.le_of_ble_eq_true rfl) (dk dX7_placeOf 2 rfl) rfl (fun E2 hp2 => ?_)
  obtain ⟨m2_2, rd1_2, er1_2, th1_2, rt1_2, hK233_2, hK239_2, hK240_2, hK241_2, hK242_2, hR_2, hF2⟩ := hp2
  refine g_iconst F (q := 6) (v := 0) (dk dX7_placeOf 3 rfl) rfl (by decide) ?_
  refine g_istore_n F (q := 7) (lv' := [(2, .int 0), (0, .ref (ad 233)), (1, .int (nI kn))]) (dk dX7_placeOf 4 rfl) rfl rfl (Nat.le_of_ble_eq_true rfl) rfl ?_
  refine g_lconst F (q := 8) (v := 0) (dk dX7_placeOf 5 rfl) rfl (by decide) ?_
  refine g_lstore_n F (q := 9) (lv' := [(3, .long 0), (2, .int 0), (0, .ref (ad 233)), (1, .int (nI kn))]) (dk dX7_placeOf 6 rfl) rfl rfl (Nat.le_of_ble_eq_true rfl) rfl ?_
  refine g_iconst F (q := 10) (v := 0) (dk dX7_placeOf 7 rfl) rfl (by decide) ?_
  refine g_istore F (q := 12) (lv' := [(5, .int 0), (3, .long 0), (2, .int 0), (0, .ref (ad 233)), (1, .int (nI kn))]) (dk dX7_placeOf 8 rfl) rfl (Nat.le_of_ble_eq_true rfl) rfl ?_
  have K12 : ∀ (fu : Nat) (x : Nat) (b : Nat) (s : Int64) (l1 : Int64) (m1 : Int64) (E1 : Nat → va_E), 1001 - x < fu → (h3 : E1 233 = .inr (7, [.ref (ad 234), .ref (ad 235), .ref (ad 236), .ref (ad 237), .int s0, .int s1, .ref (ad 238), .int s2, .int s3, .int s4, .int m2_2, .ref (ad 239), .ref (ad 240), .ref (ad 241), .long l1, .long m1, .ref (ad 242)])) → (hfr12 : ∀ j, (j ≠ 233) → E1 j = E2 j) → (hx : x ≤ 1001) → (hb : 0 < x → (b, s) = bsF (fun x => spW r ne nt kn (nI x)) (x - 1)) → GG rm_X7_placeOf 8 l D X 0 0 243 ad E1 12 [(0, .ref (ad 233)), (1, .int (nI kn)), (2, .int (nI b)), (3, .long s), (5, .int (nI x))] [] := by
    intro fu
    induction fu with
    | zero => intro x b s l1 m1 E1 hfu_; exact absurd hfu_ (Nat.not_lt_zero _)
    | succ fu ih =>
      intro x b s l1 m1 E1 hfu_ h3 hfr12 hx hb
      refine g_iload F (q := 14) (dk dX7_placeOf 9 rfl) rfl 4 rfl ?_
      refine g_sipush F (q := 17) (v := 1000) (dk dX7_placeOf 10 rfl) rfl (by decide) ?_
      refine g_icmp_gt F (q := 20) (tgt := 53) (dk dX7_placeOf 11 rfl) (by decide) rfl (fun c17 => ?_) (fun c17 => ?_)
      · have nc17 : 1000 < x := (nI_ltI (a := 1000) (b := x) (by omega) (by omega)).mp c17
        refine g_iload_n F (q := 54) (dk dX7_placeOf 29 rfl) rfl rfl 2 rfl ?_
        have hc1 := (hfr12 239 (by omega)).trans hK239_2
        have hc2 := (hfr12 240 (by omega)).trans hK240_2
        have hc3 := (hfr12 241 (by omega)).trans hK241_2
        have hc4 := (hfr12 242 (by omega)).trans hK242_2
        refine hret (nI b) E1 _ _ (dk dX7_placeOf 30 rfl) (nint _) ?_
        exact ⟨_, _, _, _, _, _, _, (by rw [plc_at (n := x - 1) (by omega)]; unfold plcN; rw [← hb (by omega)]), h3, hc1, hc2, hc3, hc4, hR_2, (fun j hj => ((hfr12 j (by omega)).trans (hF2 j (by omega))))⟩
      · have nc17 : ¬ 1000 < x := fun h => c17 ((nI_ltI (a := 1000) (b := x) (by omega) (by omega)).mpr h)
        refine g_aload_n F (q := 21) (dk dX7_placeOf 12 rfl) rfl rfl 0 rfl ?_
        refine g_iload_n F (q := 22) (dk dX7_placeOf 13 rfl) rfl rfl 1 rfl ?_
        refine g_iload F (q := 24) (dk dX7_placeOf 14 rfl) rfl 4 rfl ?_
        have hc5 := (hF2 234 (by omega)).trans h234
        have hc6 := (hfr12 234 (by omega)).trans hc5
        have hc7 := (hfr12 242 (by omega)).trans hK242_2
        refine g_callVL F (q := 27) (av := [.int (nI kn), .int (nI x)]) (st := []) (c_X7_spreadAt (kn := kn) (xx := (nI x)) h3 hc6 hc7 (by first | assumption | decide | omega) (by first | assumption | decide | omega) (by first | assumption | decide | omega)) kv_X7_spreadAt tq_885 h3 rfl (by omega) ⟨rfl, rfl⟩ (by decide) ⟨Nat.le_refl _, Nat.le_refl _⟩ rfl rfl (Nat.le_of_ble_eq_true rfl) (dk dX7_placeOf 15 rfl) rfl (fun r24 E24 hp24 => ?_)
        obtain ⟨l2_24, m2_24, rfl, hK233_24, hl_24, hF24⟩ := hp24
        refine g_stl (y := (spW r ne nt kn (nI x))) (by rw [(hl_24 hc).1, (hl_24 hc).2]; rfl) ?_
        refine g_lstore F (q := 29) (lv' := [(6, .long (spW r ne nt kn (nI x))), (0, .ref (ad 233)), (1, .int (nI kn)), (2, .int (nI b)), (3, .long s), (5, .int (nI x))]) (dk dX7_placeOf 16 rfl) rfl (Nat.le_of_ble_eq_true rfl) rfl ?_
        refine g_iload F (q := 31) (dk dX7_placeOf 17 rfl) rfl 5 rfl ?_
        refine g_if_eq F (q := 34) (tgt := 41) (dk dX7_placeOf 18 rfl) (by decide) rfl (fun c31 => ?_) (fun c31 => ?_)
        · have nc31 : x = 0 := (nI_eq (a := x) (b := 0) (by omega) (by omega)).mp c31
          refine g_iload F (q := 43) (dk dX7_placeOf 23 rfl) rfl 5 rfl ?_
          refine g_istore_n F (q := 44) (lv' := [(2, .int (nI x)), (6, .long (spW r ne nt kn (nI x))), (0, .ref (ad 233)), (1, .int (nI kn)), (3, .long s), (5, .int (nI x))]) (dk dX7_placeOf 24 rfl) rfl rfl (Nat.le_of_ble_eq_true rfl) rfl ?_
          refine g_lload F (q := 46) (dk dX7_placeOf 25 rfl) rfl 1 rfl ?_
          refine g_lstore_n F (q := 47) (lv' := [(3, .long (spW r ne nt kn (nI x))), (2, .int (nI x)), (6, .long (spW r ne nt kn (nI x))), (0, .ref (ad 233)), (1, .int (nI kn)), (5, .int (nI x))]) (dk dX7_placeOf 26 rfl) rfl rfl (Nat.le_of_ble_eq_true rfl) rfl ?_
          refine g_iinc F (q := 50) (v := (nI ((x + 1)))) (lv' := [(5, .int (nI ((x + 1)))), (3, .long (spW r ne nt kn (nI x))), (2, .int (nI x)), (6, .long (spW r ne nt kn (nI x))), (0, .ref (ad 233)), (1, .int (nI kn))]) (dk dX7_placeOf 27 rfl) rfl 5 rfl (nI_1 _) (Nat.le_of_ble_eq_true rfl) rfl ?_
          refine g_goto F (tgt := 12) (dk dX7_placeOf 28 rfl) (by decide) ?_
          refine g_lv (lv' := [(0, .ref (ad 233)), (1, .int (nI kn)), (2, .int (nI x)), (3, .long (spW r ne nt kn (nI x))), (5, .int (nI ((x + 1))))]) [4, 5, 2, 1, 0] rfl ?_
          exact ih (x + 1) x (spW r ne nt kn (nI x)) l2_24 m2_24 E24 (by omega) hK233_24 (fun j hj => ((hF24 j (by omega)).trans (hfr12 j (by omega)))) (by omega) (fun _ => by subst nc31; rfl)
        · have nc31 : ¬ x = 0 := fun h => c31 ((nI_eq (a := x) (b := 0) (by omega) (by omega)).mpr h)
          refine g_lload F (q := 36) (dk dX7_placeOf 19 rfl) rfl 0 rfl ?_
          refine g_lload_n F (q := 37) (dk dX7_placeOf 20 rfl) rfl rfl 4 rfl ?_
          refine g_lcmp_ge F (q := 41) (tgt := 47) (dk dX7_placeOf 21 rfl) (dk dX7_placeOf 22 rfl) (by decide) rfl (fun c37 => ?_) (fun c37 => ?_)
          · refine g_iinc F (q := 50) (v := (nI ((x + 1)))) (lv' := [(5, .int (nI ((x + 1)))), (6, .long (spW r ne nt kn (nI x))), (0, .ref (ad 233)), (1, .int (nI kn)), (2, .int (nI b)), (3, .long s)]) (dk dX7_placeOf 27 rfl) rfl 5 rfl (nI_1 _) (Nat.le_of_ble_eq_true rfl) rfl ?_
            refine g_goto F (tgt := 12) (dk dX7_placeOf 28 rfl) (by decide) ?_
            refine g_lv (lv' := [(0, .ref (ad 233)), (1, .int (nI kn)), (2, .int (nI b)), (3, .long s), (5, .int (nI ((x + 1))))]) [2, 3, 4, 5, 0] rfl ?_
            exact ih (x + 1) b s l2_24 m2_24 E24 (by omega) hK233_24 (fun j hj => ((hF24 j (by omega)).trans (hfr12 j (by omega)))) (by omega) (by intro _; obtain ⟨y, rfl⟩ : ∃ y, x = y + 1 := ⟨x - 1, by omega⟩; have hb2 := hb (by omega); rw [Nat.add_sub_cancel] at hb2 ⊢; unfold bsF; rw [← hb2, if_neg (Int64.not_lt.mpr c37)])
          · refine g_iload F (q := 43) (dk dX7_placeOf 23 rfl) rfl 5 rfl ?_
            refine g_istore_n F (q := 44) (lv' := [(2, .int (nI x)), (6, .long (spW r ne nt kn (nI x))), (0, .ref (ad 233)), (1, .int (nI kn)), (3, .long s), (5, .int (nI x))]) (dk dX7_placeOf 24 rfl) rfl rfl (Nat.le_of_ble_eq_true rfl) rfl ?_
            refine g_lload F (q := 46) (dk dX7_placeOf 25 rfl) rfl 1 rfl ?_
            refine g_lstore_n F (q := 47) (lv' := [(3, .long (spW r ne nt kn (nI x))), (2, .int (nI x)), (6, .long (spW r ne nt kn (nI x))), (0, .ref (ad 233)), (1, .int (nI kn)), (5, .int (nI x))]) (dk dX7_placeOf 26 rfl) rfl rfl (Nat.le_of_ble_eq_true rfl) rfl ?_
            refine g_iinc F (q := 50) (v := (nI ((x + 1)))) (lv' := [(5, .int (nI ((x + 1)))), (3, .long (spW r ne nt kn (nI x))), (2, .int (nI x)), (6, .long (spW r ne nt kn (nI x))), (0, .ref (ad 233)), (1, .int (nI kn))]) (dk dX7_placeOf 27 rfl) rfl 5 rfl (nI_1 _) (Nat.le_of_ble_eq_true rfl) rfl ?_
            refine g_goto F (tgt := 12) (dk dX7_placeOf 28 rfl) (by decide) ?_
            refine g_lv (lv' := [(0, .ref (ad 233)), (1, .int (nI kn)), (2, .int (nI x)), (3, .long (spW r ne nt kn (nI x))), (5, .int (nI ((x + 1))))]) [4, 5, 2, 1, 0] rfl ?_
            exact ih (x + 1) x (spW r ne nt kn (nI x)) l2_24 m2_24 E24 (by omega) hK233_24 (fun j hj => ((hF24 j (by omega)).trans (hfr12 j (by omega)))) (by omega) (by intro _; obtain ⟨y, rfl⟩ : ∃ y, x = y + 1 := ⟨x - 1, by omega⟩; have hb2 := hb (by omega); rw [Nat.add_sub_cancel] at hb2 ⊢; unfold bsF; rw [← hb2, if_pos (Int64.not_le.mp c37)])
  refine g_lv (lv' := [(0, .ref (ad 233)), (1, .int (nI kn)), (2, .int 0), (3, .long 0), (5, .int 0)]) [3, 4, 2, 1, 0] rfl ?_
  exact K12 _ 0 0 0 lo mo E2 (Nat.lt_succ_self _) hK233_2 (fun j _ => rfl) (by omega) (fun h => absurd h (Nat.not_lt_zero _))
theorem kv_X7_placeOf : KV yX7_placeOf "ThumpEarsModel" cX7_placeOf 8 (some .int) 1 := ⟨tq_879, tq_33, tq_47, tq_880, by decide +kernel⟩
end
section
/-! ===== bounds ===== -/
theorem i32a {x y : Int32} (h1 : -2147483648 ≤ x.toInt + y.toInt) (h2 : x.toInt + y.toInt ≤ 2147483647) : (x + y).toInt = x.toInt + y.toInt := by
  rw [Int32.toInt_add]; apply Int.bmod_eq_of_le <;> omega
theorem i32s {x y : Int32} (h1 : -2147483648 ≤ x.toInt - y.toInt) (h2 : x.toInt - y.toInt ≤ 2147483647) : (x - y).toInt = x.toInt - y.toInt := by
  rw [Int32.toInt_sub]; apply Int.bmod_eq_of_le <;> omega
theorem i32m {x y : Int32} (h1 : -2147483648 ≤ x.toInt * y.toInt) (h2 : x.toInt * y.toInt ≤ 2147483647) : (x * y).toInt = x.toInt * y.toInt := by
  rw [Int32.toInt_mul]; apply Int.bmod_eq_of_le <;> omega
theorem i64a {x y : Int64} (h1 : -9223372036854775808 ≤ x.toInt + y.toInt) (h2 : x.toInt + y.toInt ≤ 9223372036854775807) : (x + y).toInt = x.toInt + y.toInt := by
  rw [Int64.toInt_add]; apply Int.bmod_eq_of_le <;> omega
theorem i64s {x y : Int64} (h1 : -9223372036854775808 ≤ x.toInt - y.toInt) (h2 : x.toInt - y.toInt ≤ 9223372036854775807) : (x - y).toInt = x.toInt - y.toInt := by
  rw [Int64.toInt_sub]; apply Int.bmod_eq_of_le <;> omega
theorem i64m {x y : Int64} (h1 : -9223372036854775808 ≤ x.toInt * y.toInt) (h2 : x.toInt * y.toInt ≤ 9223372036854775807) : (x * y).toInt = x.toInt * y.toInt := by
  rw [Int64.toInt_mul]; apply Int.bmod_eq_of_le <;> omega
theorem i64r (x : Int64) : -9223372036854775808 ≤ x.toInt ∧ x.toInt ≤ 9223372036854775807 := by
  have h1 := Int64.le_toInt x
  have h2 := Int64.toInt_lt x
  constructor <;> omega
theorem i32r (x : Int32) : -2147483648 ≤ x.toInt ∧ x.toInt ≤ 2147483647 := by
  have h1 := Int32.le_toInt x
  have h2 := Int32.toInt_lt x
  constructor <;> omega
theorem ediv_bd {a b A : Int} (hb : 0 < b) (hA : 0 ≤ A) (h1 : -A ≤ a) (h2 : a ≤ A) : -A ≤ a / b ∧ a / b ≤ A := by
  have h : A * 1 ≤ A * b := Int.mul_le_mul_of_nonneg_left (by omega) hA
  constructor
  · rw [Int.le_ediv_iff_mul_le hb]
    have e : -A * b = -(A * b) := Int.neg_mul _ _
    omega
  · exact Int.ediv_le_of_le_mul hb (by omega)
theorem mul_bd {a b A B : Int} (h1 : -A ≤ a) (h2 : a ≤ A) (h3 : -B ≤ b) (h4 : b ≤ B) : -(A * B) ≤ a * b ∧ a * b ≤ A * B := by
  have hA : 0 ≤ A := by omega
  have hB : 0 ≤ B := by omega
  have e := Int.natAbs_mul a b
  have ha : (a.natAbs : Int) ≤ A := by omega
  have hb : (b.natAbs : Int) ≤ B := by omega
  have : ((a.natAbs * b.natAbs : Nat) : Int) ≤ A * B := by
    rw [Int.natCast_mul]
    exact Int.mul_le_mul ha hb (by omega) hA
  constructor <;> omega
theorem dn_toInt {u l : Int64} (h : 0 < l.toInt) : (dn u l).toInt = u.toInt / l.toInt := by
  have hu := i64r u
  have hl := i64r l
  have hd := Int.mul_tdiv_add_tmod u.toInt l.toInt
  have hm := tmod_bounds (a := u.toInt) h
  have hq : (u / l).toInt = u.toInt.tdiv l.toInt := by
    rw [Int64.toInt_div]
    have hb : -9223372036854775808 ≤ u.toInt.tdiv l.toInt ∧ u.toInt.tdiv l.toInt ≤ 9223372036854775807 := by
      rcases Int.le_total 0 u.toInt with h0 | h0
      · rw [Int.tdiv_eq_ediv_of_nonneg h0]
        have := ediv_bd (a := u.toInt) (A := u.toInt) h h0 (by omega) (by omega)
        omega
      · have e : u.toInt.tdiv l.toInt = -((-u.toInt) / l.toInt) := by
          rw [← Int.tdiv_eq_ediv_of_nonneg (by omega), Int.neg_tdiv, Int.neg_neg]
        rw [e]
        have := ediv_bd (a := -u.toInt) (A := -u.toInt) h (by omega) (by omega) (by omega)
        have h3 : -u.toInt / l.toInt = 9223372036854775808 → l.toInt = 1 ∨ -u.toInt / l.toInt ≤ 9223372036854775807 := by
          intro _
          by_cases h1 : l.toInt = 1
          · exact Or.inl h1
          · right
            apply Int.ediv_le_of_le_mul h
            omega
        have h4 : l.toInt = 1 → -u.toInt / l.toInt = -u.toInt := fun h1 => by rw [h1, Int.ediv_one]
        by_cases h1 : l.toInt = 1
        · rw [h4 h1]; omega
        · have h2 : (-u.toInt) / l.toInt ≤ 9223372036854775807 := by
            apply Int.ediv_le_of_le_mul h
            omega
          have key : ∀ z : Int, 0 ≤ z → z ≤ 9223372036854775807 → -9223372036854775808 ≤ -z ∧ -z ≤ 9223372036854775807 := fun z _ _ => ⟨by omega, by omega⟩
          exact key _ (Int.ediv_nonneg (by omega) (by omega)) h2
    apply Int.bmod_eq_of_le <;> omega
  generalize hqd : u.toInt.tdiv l.toInt = q at *
  generalize hrd : u.toInt.tmod l.toInt = t at *
  have hsg : (0 ≤ u.toInt → 0 ≤ t) ∧ (u.toInt ≤ 0 → t ≤ 0) := by
    rw [← hrd]
    constructor
    · intro h0; exact Int.tmod_nonneg _ h0
    · intro h0
      have : 0 ≤ (-u.toInt).tmod l.toInt := Int.tmod_nonneg _ (by omega)
      rw [Int.neg_tmod] at this
      omega
  have hlq : l.toInt * q = u.toInt - t := by omega
  have hmul : (u / l * l).toInt = u.toInt - t := by
    have e : (u / l).toInt * l.toInt = u.toInt - t := by rw [hq, Int.mul_comm]; exact hlq
    rw [i64m (by rw [e]; omega) (by rw [e]; omega), e]
  have hq0 : (u / l).toInt = q := hq
  unfold dn
  by_cases hc : u < u / l * l
  · rw [if_pos hc]
    rw [Int64.lt_iff_toInt_lt, hmul] at hc
    have hqb : -9223372036854775807 ≤ q := by
      apply Int.not_lt.mp
      intro hlt
      have h5 : q * l.toInt ≤ q * 1 := Int.mul_le_mul_of_nonpos_left (by omega) (by omega)
      rw [Int.mul_comm] at h5
      omega
    have hqr := i64r (u / l)
    have e1 : (1 : Int64).toInt = 1 := by decide
    rw [i64s (by rw [e1, hq0]; omega) (by rw [e1, hq0]; omega), e1, hq0]
    have := (Int.ediv_emod_unique (a := u.toInt) (b := l.toInt) (q := q - 1) (r := t + l.toInt) h).mpr ⟨by rw [Int.mul_sub]; omega, by omega, by omega⟩
    omega
  · rw [if_neg hc]
    rw [Int64.lt_iff_toInt_lt, hmul] at hc
    have := (Int.ediv_emod_unique (a := u.toInt) (b := l.toInt) (q := q) (r := t) h).mpr ⟨by omega, by omega, by omega⟩
    omega
end
section
theorem far_b {a b : Int32} (ha : 0 ≤ a.toInt ∧ a.toInt ≤ 1000) (hb : 0 ≤ b.toInt ∧ b.toInt ≤ 1000) : 0 ≤ (far a b).toInt ∧ (far a b).toInt ≤ 1000 := by
  unfold far
  split
  · rename_i h
    rw [Int32.lt_iff_toInt_lt] at h
    rw [i32s (by omega) (by omega)]
    omega
  · rename_i h
    rw [Int32.lt_iff_toInt_lt] at h
    rw [i32s (by omega) (by omega)]
    omega
theorem Inv.pl {r : Nat → Int32} {ne nt nk : Nat} (h : Inv r ne nt nk) {e : Nat} (he : e < ne) : 0 ≤ (r (6 + 4 * e + 0)).toInt ∧ (r (6 + 4 * e + 0)).toInt ≤ 1000 := (h.2.2.2.2.2.2.1 e he).1
theorem Inv.come {r : Nat → Int32} {ne nt nk : Nat} (h : Inv r ne nt nk) {k m : Nat} (hk : k < 2) (hm : m < (if k = 0 then nt else nk)) : (0 ≤ (r (46 + 50 * k + 5 * m + 0)).toInt ∧ (r (46 + 50 * k + 5 * m + 0)).toInt ≤ 1000) ∧ (0 ≤ (r (46 + 50 * k + 5 * m + 1)).toInt ∧ (r (46 + 50 * k + 5 * m + 1)).toInt ≤ 100000) ∧ (1 ≤ (r (46 + 50 * k + 5 * m + 3)).toInt ∧ (r (46 + 50 * k + 5 * m + 3)).toInt ≤ 20) :=
  have q := h.2.2.2.2.2.2.2 k m hk hm
  ⟨q.1, q.2.1, q.2.2.1⟩
theorem mE_b {r : Nat → Int32} {ne nt nk e m : Nat} (hI : Inv r ne nt nk) (he : e < ne) (hm : m < nt) (hh : ¬ r (146 + 100 * 0 + 10 * m + e) = MISS) : -200000 ≤ (mE r e m).toInt ∧ (mE r e m).toInt ≤ 200000 := by
  have hne := hI.e0
  have hr := (hI.rb hm (by omega : e < 10)).resolve_left hh
  obtain ⟨c0, c1, c3⟩ := hI.come (k := 0) (by omega) hm
  have hf := far_b c0 (hI.pl he)
  have hp := mul_bd (a := (r (46 + 50 * 0 + 5 * m + 3)).toInt) (b := (far (r (46 + 50 * 0 + 5 * m + 0)) (r (6 + 4 * e + 0))).toInt) (A := 20) (B := 1000) (by omega) (by omega) (by omega) (by omega)
  unfold mE
  have e1 := i32m (x := r (46 + 50 * 0 + 5 * m + 3)) (y := far (r (46 + 50 * 0 + 5 * m + 0)) (r (6 + 4 * e + 0))) (by omega) (by omega)
  have e2 := i32a (x := r (46 + 50 * 0 + 5 * m + 1)) (y := r (46 + 50 * 0 + 5 * m + 3) * far (r (46 + 50 * 0 + 5 * m + 0)) (r (6 + 4 * e + 0))) (by rw [e1]; omega) (by rw [e1]; omega)
  rw [i32s (by rw [e2, e1]; omega) (by rw [e2, e1]; omega), e2, e1]
  omega
theorem mEr_b {r : Nat → Int32} {ne nt nk e j : Nat} (hI : Inv r ne nt nk) (he : e < ne) (hj : j < mC r e nt) : -200000 ≤ (mEr r e nt j).toInt ∧ (mEr r e nt j).toInt ≤ 200000 := by
  obtain ⟨m, h1, h2, h3, h4⟩ := mRd_in nt j hj
  rw [h4]
  exact mE_b hI he h1 h3
theorem lit1000 : (1000 : Int64).toInt = 1000 := by decide
theorem k1000 {x : Int32} {A : Int} (h1 : -A ≤ x.toInt) (h2 : x.toInt ≤ A) (hA : A ≤ 2147483648) : (1000 * x.toInt64).toInt = 1000 * x.toInt := by
  have e := Int32.toInt_toInt64 x
  rw [i64m (by rw [lit1000, e]; omega) (by rw [lit1000, e]; omega), lit1000, e]
theorem errR_b {r : Nat → Int32} {ne nt nk e : Nat} {c : Int32} (hI : Inv r ne nt nk) (he : e < ne) (hc : -10000 ≤ c.toInt ∧ c.toInt ≤ 300000) : -200000000000000 ≤ (errR r e nt c).toInt ∧ (errR r e nt c).toInt ≤ 200000000000000 := by
  have hne := hI.e0
  unfold errR eA
  by_cases h2 : mC r e nt < 2
  · rw [if_pos h2]
    by_cases h0 : mC r e nt = 0
    · rw [if_pos h0]
      decide
    · rw [if_neg h0]
      have hb := mEr_b hI he (j := 0) (by omega)
      rw [k1000 (A := 200000) (by omega) (by omega) (by omega)]
      omega
  · rw [if_neg h2]
    have hk := fI_le (R := mRd r e nt) (c := c) (mC r e nt - 2)
    generalize fI (mRd r e nt) c (mC r e nt - 2) = k at hk ⊢
    have b0 := mEr_b hI he (j := k) (by omega)
    have b1 := mEr_b hI he (j := k + 1) (by omega)
    have d0 := mRd_b hI (by omega : e < 10) (j := k) (by omega)
    have d1 := mRd_b hI (by omega : e < 10) (j := k + 1) (by omega)
    have hm := mRd_mono nt k (by omega : k + 1 < mC r e nt)
    have hw := df_nz d0 d1 hm
    rw [Int32.lt_iff_toInt_lt] at hm
    have e1 : (mEr r e nt (k + 1) - mEr r e nt k).toInt = (mEr r e nt (k + 1)).toInt - (mEr r e nt k).toInt := i32s (by omega) (by omega)
    have e2 : (c - mRd r e nt k).toInt = c.toInt - (mRd r e nt k).toInt := i32s (by omega) (by omega)
    have e3 : (1000 * (mEr r e nt (k + 1) - mEr r e nt k).toInt64).toInt = 1000 * ((mEr r e nt (k + 1)).toInt - (mEr r e nt k).toInt) := by
      rw [k1000 (A := 400000) (by rw [e1]; omega) (by rw [e1]; omega) (by omega), e1]
    have hp := mul_bd (a := 1000 * ((mEr r e nt (k + 1)).toInt - (mEr r e nt k).toInt)) (b := c.toInt - (mRd r e nt k).toInt) (A := 400000000) (B := 450000) (by omega) (by omega) (by omega) (by omega)
    have e4 : (1000 * (mEr r e nt (k + 1) - mEr r e nt k).toInt64 * (c - mRd r e nt k).toInt64).toInt = 1000 * ((mEr r e nt (k + 1)).toInt - (mEr r e nt k).toInt) * (c.toInt - (mRd r e nt k).toInt) := by
      rw [i64m (by rw [e3, Int32.toInt_toInt64, e2]; omega) (by rw [e3, Int32.toInt_toInt64, e2]; omega), e3, Int32.toInt_toInt64, e2]
    have e5 : (mRd r e nt (k + 1) - mRd r e nt k).toInt64.toInt = (mRd r e nt (k + 1)).toInt - (mRd r e nt k).toInt := by rw [Int32.toInt_toInt64, hw.1]
    have e6 := dn_toInt (u := 1000 * (mEr r e nt (k + 1) - mEr r e nt k).toInt64 * (c - mRd r e nt k).toInt64) (l := (mRd r e nt (k + 1) - mRd r e nt k).toInt64) (by rw [e5]; omega)
    have hq := ediv_bd (a := (1000 * (mEr r e nt (k + 1) - mEr r e nt k).toInt64 * (c - mRd r e nt k).toInt64).toInt) (b := (mRd r e nt (k + 1) - mRd r e nt k).toInt64.toInt) (A := 180000000000000) (by rw [e5]; omega) (by omega) (by rw [e4]; omega) (by rw [e4]; omega)
    rw [← e6] at hq
    have e7 := k1000 (x := mEr r e nt k) (A := 200000) (by omega) (by omega) (by omega)
    rw [i64a (by rw [e7]; omega) (by rw [e7]; omega), e7]
    omega
theorem rgt_b {r : Nat → Int32} {ne nt nk kn e : Nat} (hI : Inv r ne nt nk) (he : e < ne) (hk : kn < nk) (hh : ¬ r (146 + 100 * 1 + 10 * kn + e) = MISS) : -300000000000000 ≤ (rgt r nt kn e).toInt ∧ (rgt r nt kn e).toInt ≤ 300000000000000 := by
  have hne := hI.e0
  have hr := (hI.rb1 hk (by omega : e < 10)).resolve_left hh
  have hb := errR_b hI he (c := r (146 + 100 * 1 + 10 * kn + e)) (by omega)
  have e7 := k1000 (x := r (146 + 100 * 1 + 10 * kn + e)) (A := 130000) (by omega) (by omega) (by omega)
  unfold rgt
  rw [i64s (by rw [e7]; omega) (by rw [e7]; omega), e7]
  omega
theorem bg_b {r : Nat → Int32} {ne nt nk kn e : Nat} {x : Int32} (hI : Inv r ne nt nk) (he : e < ne) (hk : kn < nk) (hh : ¬ r (146 + 100 * 1 + 10 * kn + e) = MISS) (hx : 0 ≤ x.toInt ∧ x.toInt ≤ 1000) : -400000000000000 ≤ (bg r nt kn x e).toInt ∧ (bg r nt kn x e).toInt ≤ 400000000000000 := by
  have hb := rgt_b hI he hk hh
  obtain ⟨c0, c1, c3⟩ := hI.come (k := 1) (m := kn) (by omega) hk
  have hf := far_b hx (hI.pl he)
  have e1 := k1000 (x := r (46 + 50 * 1 + 5 * kn + 3)) (A := 20) (by omega) (by omega) (by omega)
  have hp := mul_bd (a := 1000 * (r (46 + 50 * 1 + 5 * kn + 3)).toInt) (b := (far x (r (6 + 4 * e + 0))).toInt) (A := 20000) (B := 1000) (by omega) (by omega) (by omega) (by omega)
  have e2 : (1000 * (r (46 + 50 * 1 + 5 * kn + 3)).toInt64 * (far x (r (6 + 4 * e + 0))).toInt64).toInt = 1000 * (r (46 + 50 * 1 + 5 * kn + 3)).toInt * (far x (r (6 + 4 * e + 0))).toInt := by
    rw [i64m (by rw [e1, Int32.toInt_toInt64]; omega) (by rw [e1, Int32.toInt_toInt64]; omega), e1, Int32.toInt_toInt64]
  unfold bg
  rw [i64s (by rw [e2]; omega) (by rw [e2]; omega), e2]
  omega
theorem mnF_in {b : Nat → Int64} : ∀ n, ∃ j, j ≤ n ∧ mnF b n = b j
  | 0 => ⟨0, Nat.le_refl _, rfl⟩
  | n + 1 => by
    unfold mnF
    split
    · exact ⟨n + 1, Nat.le_refl _, rfl⟩
    · obtain ⟨j, h1, h2⟩ := mnF_in (b := b) n
      exact ⟨j, by omega, h2⟩
theorem mxF_in {b : Nat → Int64} : ∀ n, ∃ j, j ≤ n ∧ mxF b n = b j
  | 0 => ⟨0, Nat.le_refl _, rfl⟩
  | n + 1 => by
    unfold mxF
    split
    · exact ⟨n + 1, Nat.le_refl _, rfl⟩
    · obtain ⟨j, h1, h2⟩ := mxF_in (b := b) n
      exact ⟨j, by omega, h2⟩
theorem lsB_b {r : Nat → Int32} {ne nt nk kn : Nat} {x : Int32} (hV : Inv r ne nt nk) (hk : kn < nk) (hc : 0 < hC r kn ne) (hx : 0 ≤ x.toInt ∧ x.toInt ≤ 1000) : (-400000000000000 ≤ (lsB r nt kn x ne).toInt ∧ (lsB r nt kn x ne).toInt ≤ 400000000000000) ∧ (-400000000000000 ≤ (msB r nt kn x ne).toInt ∧ (msB r nt kn x ne).toInt ≤ 400000000000000) := by
  constructor
  · obtain ⟨j, h1, h2⟩ := mnF_in (b := fun i => bg r nt kn x (hI r kn ne i)) (hC r kn ne - 1)
    unfold lsB
    rw [h2]
    have := hI_in ne j (by omega : j < hC r kn ne)
    exact bg_b hV this.1 hk this.2 hx
  · obtain ⟨j, h1, h2⟩ := mxF_in (b := fun i => bg r nt kn x (hI r kn ne i)) (hC r kn ne - 1)
    unfold msB
    rw [h2]
    have := hI_in ne j (by omega : j < hC r kn ne)
    exact bg_b hV this.1 hk this.2 hx
theorem tmK_b {r : Nat → Int32} {ne nt nk kn : Nat} {x : Int32} (hV : Inv r ne nt nk) (hk : kn < nk) (hc : 0 < hC r kn ne) (hx : 0 ≤ x.toInt ∧ x.toInt ≤ 1000) : -800000000000000 ≤ (tmK r ne nt kn x).toInt ∧ (tmK r ne nt kn x).toInt ≤ 800000000000000 := by
  have hb := lsB_b hV hk hc hx
  have e1 : (lsB r nt kn x ne + msB r nt kn x ne).toInt = (lsB r nt kn x ne).toInt + (msB r nt kn x ne).toInt := i64a (by omega) (by omega)
  have l2 : (2 : Int64).toInt = 2 := by decide
  unfold tmK
  rw [dn_toInt (by rw [l2]; omega), l2, e1]
  omega
theorem ab_nn {r : Nat → Int32} {ne nt nk kn e : Nat} {x : Int32} (hV : Inv r ne nt nk) (hk : kn < nk) (hc : 0 < hC r kn ne) (hx : 0 ≤ x.toInt ∧ x.toInt ≤ 1000) (he : e < ne) (hh : ¬ r (146 + 100 * 1 + 10 * kn + e) = MISS) : -1 < ab64 (bg r nt kn x e - tmK r ne nt kn x) := by
  have h1 := tmK_b hV hk hc hx
  have h2 := bg_b hV he hk hh hx
  have e1 : (bg r nt kn x e - tmK r ne nt kn x).toInt = (bg r nt kn x e).toInt - (tmK r ne nt kn x).toInt := i64s (by omega) (by omega)
  have l0 : (0 : Int64).toInt = 0 := by decide
  have l1 : (-1 : Int64).toInt = -1 := by decide
  rw [Int64.lt_iff_toInt_lt, l1]
  unfold ab64
  split
  · rename_i h
    rw [Int64.lt_iff_toInt_lt, l0, e1] at h
    have e2 : (-(bg r nt kn x e - tmK r ne nt kn x)).toInt = -((bg r nt kn x e).toInt - (tmK r ne nt kn x).toInt) := by
      rw [Int64.toInt_neg, e1]
      apply Int.bmod_eq_of_le <;> omega
    rw [e2]
    omega
  · rename_i h
    rw [Int64.lt_iff_toInt_lt, l0] at h
    omega
theorem plcN_le {r : Nat → Int32} {ne nt kn : Nat} (n : Nat) : plcN r ne nt kn n ≤ n := (bsF_le n).1
theorem plc_b {r : Nat → Int32} {ne nt kn : Nat} : plc r ne nt kn ≤ 1000 := plcN_le 1000
theorem plc_i {r : Nat → Int32} {ne nt kn : Nat} : 0 ≤ (nI (plc r ne nt kn)).toInt ∧ (nI (plc r ne nt kn)).toInt ≤ 1000 := by
  have := plc_b (r := r) (ne := ne) (nt := nt) (kn := kn)
  rw [nI_toInt (by omega)]
  omega
theorem wrE_b {r : Nat → Int32} {ne nt kn : Nat} {x : Int32} {t : Int64} (hc : 0 < hC r kn ne) : wrE r ne nt kn x t < ne := by
  have h := wsF_le (a := fun i => ab64 (bg r nt kn x (hI r kn ne i) - t)) (hC r kn ne - 1)
  unfold wrE
  refine (hI_in ne _ ?_).1
  show (wsF _ _).1 < _
  omega
end
section
theorem wsJ_f {r : Nat → Int32} {nt kn i : Nat} {xx : Int32} {t fv av : Int64} {wv : Int32} (hw : (hC r kn i = 0 ∧ wv = -5 ∧ fv = -1) ∨ (0 < hC r kn i ∧ wv = nI (hI r kn i (wsA r nt kn xx t i).1) ∧ fv = (wsA r nt kn xx t i).2)) (h : ¬ r (146 + 100 * 1 + 10 * kn + i) = MISS) (hv : -1 < av) (ha : av = ab64 (bg r nt kn xx i - t)) (hc : av ≤ fv) :
    (hC r kn (i + 1) = 0 ∧ wv = -5 ∧ fv = -1) ∨ (0 < hC r kn (i + 1) ∧ wv = nI (hI r kn (i + 1) (wsA r nt kn xx t (i + 1)).1) ∧ fv = (wsA r nt kn xx t (i + 1)).2) := by
  rcases hw with ⟨-, -, h3⟩ | ⟨h1, h2, h3⟩
  · rw [h3] at hc
    exact absurd hv (Int64.not_lt.mpr hc)
  · right
    obtain ⟨w1, w2, w3⟩ := wsA_t (t := t) (x := xx) (nt := nt) h h1
    rw [h3, ha] at hc
    rw [if_neg (Int64.not_lt.mpr hc)] at w1
    rw [w1, w3, (hF_t h).1]
    exact ⟨by omega, h2, h3⟩
theorem wsJ_t {r : Nat → Int32} {nt kn i : Nat} {xx : Int32} {t fv av : Int64} {wv : Int32} (hw : (hC r kn i = 0 ∧ wv = -5 ∧ fv = -1) ∨ (0 < hC r kn i ∧ wv = nI (hI r kn i (wsA r nt kn xx t i).1) ∧ fv = (wsA r nt kn xx t i).2)) (h : ¬ r (146 + 100 * 1 + 10 * kn + i) = MISS) (_ : -1 < av) (ha : av = ab64 (bg r nt kn xx i - t)) (hc : ¬ av ≤ fv) :
    (hC r kn (i + 1) = 0 ∧ nI i = -5 ∧ av = -1) ∨ (0 < hC r kn (i + 1) ∧ nI i = nI (hI r kn (i + 1) (wsA r nt kn xx t (i + 1)).1) ∧ av = (wsA r nt kn xx t (i + 1)).2) := by
  right
  rw [(hF_t h).1]
  rcases hw with ⟨h1, -, -⟩ | ⟨h1, h2, h3⟩
  · obtain ⟨w1, w2⟩ := wsA_0 (t := t) (x := xx) (nt := nt) h h1
    rw [w1]
    exact ⟨by omega, by rw [w2], ha⟩
  · obtain ⟨w1, w2, w3⟩ := wsA_t (t := t) (x := xx) (nt := nt) h h1
    rw [h3, ha] at hc
    rw [if_pos (Int64.not_le.mp hc)] at w1
    rw [w1]
    exact ⟨by omega, by rw [w2], ha⟩
end
section
abbrev rm_X7_worst : Room := { frames := 2, cells := 0, slots := 0, locals := 46 }
set_option maxHeartbeats 4000000 in
set_option maxRecDepth 100000 in
theorem c_X7_worst {l : Launch} {D : va_G} {cA : Nat → ClassId} {ad : Nat → Nat} {E : Nat → va_E} {s0 s1 s2 s3 s4 s5 : Int32} {lo mo : Int64} {r : Nat → Int32} {ne nt nk : Nat} {rt : Nat → Int64} {kn : Nat} {xx : Int32} {t : Int64} (h233 : E 233 = .inr (7, [.ref (ad 234), .ref (ad 235), .ref (ad 236), .ref (ad 237), .int s0, .int s1, .ref (ad 238), .int s2, .int s3, .int s4, .int s5, .ref (ad 239), .ref (ad 240), .ref (ad 241), .long lo, .long mo, .ref (ad 242)])) (h234 : E 234 = .inl (cA 0, 346, .inl r)) (h242 : E 242 = .inl (cA 1, 10, .inr (.inl rt)))  (hk : kn < nk) (hV : Inv r ne nt nk) (hR : ∀ e, e < ne → rt e = rgO r nt kn e) (hc : 0 < hC r kn ne) (hnn : ∀ e, e < ne → ¬ r (146 + 100 * 1 + 10 * kn + e) = MISS → -1 < ab64 (bg r nt kn xx e - t)) : CtI l D cA yX7_worst cX7_worst 11 .int rm_X7_worst 243 ad E [.ref (ad 233), .int (nI kn), .int xx, .long t] (fun x E' => (nI (wrE r ne nt kn xx t)) = x ∧ E = E') := by
  refine CtI.of (by decide +kernel) (Nat.le_of_ble_eq_true rfl) (fun X F hret => ?_)
  have F : Fr "ThumpEarsModel" cX7_worst 11 D cA X := F
  refine (show GG rm_X7_worst 11 l D X 0 0 243 ad E 0 [(0, .ref (ad 233)), (1, .int (nI kn)), (2, .int xx), (3, .long t)] [] from ?_)
  have hnk := hV.e2
  have hne := hV.e0
  have hnt := hV.e1
  refine g_bipush F (q := 2) (v := (-5)) (dk dX7_worst 0 rfl) rfl (by decide) ?_
  refine g_istore F (q := 4) (lv' := [(5, .int (-5)), (0, .ref (ad 233)), (1, .int (nI kn)), (2, .int xx), (3, .long t)]) (dk dX7_worst 1 rfl) rfl (Nat.le_of_ble_eq_true rfl) rfl ?_
  refine g_ldc2 F (q := 7) (v := (-1)) (dk dX7_worst 2 rfl) rfl tq_898 ?_
  refine g_lstore F (q := 9) (lv' := [(6, .long (-1)), (5, .int (-5)), (0, .ref (ad 233)), (1, .int (nI kn)), (2, .int xx), (3, .long t)]) (dk dX7_worst 3 rfl) rfl (Nat.le_of_ble_eq_true rfl) rfl ?_
  refine g_iconst F (q := 10) (v := 0) (dk dX7_worst 4 rfl) rfl (by decide) ?_
  refine g_istore F (q := 12) (lv' := [(8, .int 0), (6, .long (-1)), (5, .int (-5)), (0, .ref (ad 233)), (1, .int (nI kn)), (2, .int xx), (3, .long t)]) (dk dX7_worst 5 rfl) rfl (Nat.le_of_ble_eq_true rfl) rfl ?_
  have K12 : ∀ (fu : Nat) (i : Nat) (wv : Int32) (fv : Int64), ne - i < fu → (hi : i ≤ ne) → (hw : (hC r kn i = 0 ∧ wv = -5 ∧ fv = -1) ∨ (0 < hC r kn i ∧ wv = nI (hI r kn i (wsA r nt kn xx t i).1) ∧ fv = (wsA r nt kn xx t i).2)) → GG rm_X7_worst 11 l D X 0 0 243 ad E 12 [(0, .ref (ad 233)), (1, .int (nI kn)), (2, .int xx), (3, .long t), (5, .int wv), (6, .long fv), (8, .int (nI i))] [] := by
    intro fu
    induction fu with
    | zero => intro i wv fv hfu_; exact absurd hfu_ (Nat.not_lt_zero _)
    | succ fu ih =>
      intro i wv fv hfu_ hi hw
      refine g_iload F (q := 14) (dk dX7_worst 6 rfl) rfl 6 rfl ?_
      refine g_aload_n F (q := 15) (dk dX7_worst 7 rfl) rfl rfl 0 rfl ?_
      refine g_getf F (q := 18) h233 rfl inX7 (by omega) (j := 0) (by decide) tq_623 rfl rfl (dk dX7_worst 8 rfl) rfl ?_
      refine g_iconst F (q := 19) (v := 0) (dk dX7_worst 9 rfl) rfl (by decide) ?_
      refine g_iald F (q := 20) 0 h234 (by omega) rfl (by omega) (by decide) (dk dX7_worst 10 rfl) rfl ?_
      refine g_sti (y := (nI ne)) hV.h0 ?_
      refine g_icmp_ge F (q := 23) (tgt := 105) (dk dX7_worst 11 rfl) (by decide) rfl (fun c20 => ?_) (fun c20 => ?_)
      · have nc20 : ne ≤ i := (nI_leI (a := ne) (b := i) (by omega) (by omega)).mp c20
        refine g_iload F (q := 107) (dk dX7_worst 54 rfl) rfl 4 rfl ?_
        refine hret wv E _ _ (dk dX7_worst 55 rfl) (nint _) ?_
        have hie : i = ne := by omega
        subst hie
        exact ⟨by rcases hw with h | h; exact absurd h.1 (by omega); exact h.2.1.symm, rfl⟩
      · have nc20 : ¬ ne ≤ i := fun h => c20 ((nI_leI (a := ne) (b := i) (by omega) (by omega)).mpr h)
        refine g_aload_n F (q := 24) (dk dX7_worst 12 rfl) rfl rfl 0 rfl ?_
        refine g_iconst F (q := 25) (v := 1) (dk dX7_worst 13 rfl) rfl (by decide) ?_
        refine g_iload_n F (q := 26) (dk dX7_worst 14 rfl) rfl rfl 1 rfl ?_
        refine g_iload F (q := 28) (dk dX7_worst 15 rfl) rfl 6 rfl ?_
        refine g_callVI F (q := 31) (av := [.int 1, .int (nI kn), .int (nI i)]) (st := []) (c_X7_heardOf (k := 1) (m := kn) (e := i) h233 h234 (by first | assumption | decide | omega)) kv_X7_heardOf tq_822 h233 rfl (by omega) ⟨rfl, rfl⟩ (by decide) ⟨Nat.le_refl _, Nat.le_refl _⟩ rfl rfl (Nat.le_of_ble_eq_true rfl) (dk dX7_worst 16 rfl) rfl (fun r28 E28 hp28 => ?_)
        obtain ⟨rfl, rfl⟩ := hp28
        refine g_ldc F (q := 33) (v := (-1000000000)) (dk dX7_worst 17 rfl) rfl tq_622 ?_
        refine g_sti (y := MISS) rfl ?_
        refine g_icmp_eq F (q := 36) (tgt := 99) (dk dX7_worst 18 rfl) (by decide) rfl (fun c33 => ?_) (fun c33 => ?_)
        · refine g_iinc F (q := 102) (v := (nI ((i + 1)))) (lv' := [(8, .int (nI ((i + 1)))), (0, .ref (ad 233)), (1, .int (nI kn)), (2, .int xx), (3, .long t), (5, .int wv), (6, .long fv)]) (dk dX7_worst 52 rfl) rfl 6 rfl (nI_1 _) (Nat.le_of_ble_eq_true rfl) rfl ?_
          refine g_goto F (tgt := 12) (dk dX7_worst 53 rfl) (by decide) ?_
          refine g_lv (lv' := [(0, .ref (ad 233)), (1, .int (nI kn)), (2, .int xx), (3, .long t), (5, .int wv), (6, .long fv), (8, .int (nI ((i + 1))))]) [1, 2, 3, 4, 5, 6, 0] rfl ?_
          exact ih (i + 1) wv fv (by omega) (by omega) (by rw [(hF_f c33).1, (hF_f c33).2, wsA_f c33]; exact hw)
        · refine g_aload_n F (q := 37) (dk dX7_worst 19 rfl) rfl rfl 0 rfl ?_
          refine g_iload_n F (q := 38) (dk dX7_worst 20 rfl) rfl rfl 1 rfl ?_
          refine g_iload F (q := 40) (dk dX7_worst 21 rfl) rfl 6 rfl ?_
          refine g_iload_n F (q := 41) (dk dX7_worst 22 rfl) rfl rfl 2 rfl ?_
          refine g_callVL F (q := 44) (av := [.int (nI kn), .int (nI i), .int xx]) (st := []) (c_X7_beginning (kn := kn) (e := i) (xx := xx) h233 h234 h242 (by first | assumption | decide | omega) (by first | assumption | decide | omega)) kv_X7_beginning tq_889 h233 rfl (by omega) ⟨rfl, rfl⟩ (by decide) ⟨Nat.le_refl _, Nat.le_refl _⟩ rfl rfl (Nat.le_of_ble_eq_true rfl) (dk dX7_worst 23 rfl) rfl (fun r41 E41 hp41 => ?_)
          obtain ⟨rfl, rfl⟩ := hp41
          refine g_stl (y := (bg r nt kn xx i)) (by rw [hR i (by omega)]; unfold rgO; rw [if_neg c33]; rfl) ?_
          refine g_lload_n F (q := 45) (dk dX7_worst 24 rfl) rfl rfl 3 rfl ?_
          refine g_lsub F (q := 46) (dk dX7_worst 25 rfl) rfl ?_
          refine g_topl (fun dv edv => ?_)
          refine g_lstore F (q := 48) (lv' := [(9, .long dv), (0, .ref (ad 233)), (1, .int (nI kn)), (2, .int xx), (3, .long t), (5, .int wv), (6, .long fv), (8, .int (nI i))]) (dk dX7_worst 26 rfl) rfl (Nat.le_of_ble_eq_true rfl) rfl ?_
          refine g_lload F (q := 50) (dk dX7_worst 27 rfl) rfl 0 rfl ?_
          refine g_lconst F (q := 51) (v := 0) (dk dX7_worst 28 rfl) rfl (by decide) ?_
          refine g_lcmp_ge F (q := 55) (tgt := 61) (dk dX7_worst 29 rfl) (dk dX7_worst 30 rfl) (by decide) rfl (fun c51 => ?_) (fun c51 => ?_)
          · refine g_lload F (q := 63) (dk dX7_worst 34 rfl) rfl 0 rfl ?_
            refine g_topl (fun av eav => ?_)
            refine g_lstore F (q := 65) (lv' := [(9, .long av), (0, .ref (ad 233)), (1, .int (nI kn)), (2, .int xx), (3, .long t), (5, .int wv), (6, .long fv), (8, .int (nI i))]) (dk dX7_worst 35 rfl) rfl (Nat.le_of_ble_eq_true rfl) rfl ?_
            have ea : av = ab64 (bg r nt kn xx i - t) := by rw [← edv]; unfold ab64; rw [if_neg (Int64.not_lt.mpr c51)]; exact eav
            refine g_lload F (q := 67) (dk dX7_worst 36 rfl) rfl 0 rfl ?_
            refine g_lload F (q := 69) (dk dX7_worst 37 rfl) rfl 6 rfl ?_
            refine g_lcmp_le F (q := 73) (tgt := 78) (dk dX7_worst 38 rfl) (dk dX7_worst 39 rfl) (by decide) rfl (fun c69 => ?_) (fun c69 => ?_)
            · refine g_iload F (q := 80) (dk dX7_worst 42 rfl) rfl 5 rfl ?_
              refine g_istore F (q := 82) (lv' := [(5, .int wv), (9, .long av), (0, .ref (ad 233)), (1, .int (nI kn)), (2, .int xx), (3, .long t), (6, .long fv), (8, .int (nI i))]) (dk dX7_worst 43 rfl) rfl (Nat.le_of_ble_eq_true rfl) rfl ?_
              refine g_lload F (q := 84) (dk dX7_worst 44 rfl) rfl 1 rfl ?_
              refine g_lload F (q := 86) (dk dX7_worst 45 rfl) rfl 6 rfl ?_
              refine g_lcmp_le F (q := 90) (tgt := 95) (dk dX7_worst 46 rfl) (dk dX7_worst 47 rfl) (by decide) rfl (fun c86 => ?_) (fun c86 => absurd c86 (fun h => h c69))
              refine g_lload F (q := 97) (dk dX7_worst 50 rfl) rfl 6 rfl ?_
              refine g_lstore F (q := 99) (lv' := [(6, .long fv), (5, .int wv), (9, .long av), (0, .ref (ad 233)), (1, .int (nI kn)), (2, .int xx), (3, .long t), (8, .int (nI i))]) (dk dX7_worst 51 rfl) rfl (Nat.le_of_ble_eq_true rfl) rfl ?_
              refine g_iinc F (q := 102) (v := (nI ((i + 1)))) (lv' := [(8, .int (nI ((i + 1)))), (6, .long fv), (5, .int wv), (9, .long av), (0, .ref (ad 233)), (1, .int (nI kn)), (2, .int xx), (3, .long t)]) (dk dX7_worst 52 rfl) rfl 7 rfl (nI_1 _) (Nat.le_of_ble_eq_true rfl) rfl ?_
              refine g_goto F (tgt := 12) (dk dX7_worst 53 rfl) (by decide) ?_
              have hv1 : -1 < av := by rw [ea]; exact hnn i (by omega) c33
              refine g_lv (lv' := [(0, .ref (ad 233)), (1, .int (nI kn)), (2, .int xx), (3, .long t), (5, .int wv), (6, .long fv), (8, .int (nI ((i + 1))))]) [4, 5, 6, 7, 2, 1, 0] rfl ?_
              exact ih (i + 1) wv fv (by omega) (by omega) (wsJ_f hw c33 hv1 ea c69)
            · refine g_iload F (q := 75) (dk dX7_worst 40 rfl) rfl 7 rfl ?_
              refine g_goto F (tgt := 80) (dk dX7_worst 41 rfl) (by decide) ?_
              refine g_istore F (q := 82) (lv' := [(5, .int (nI i)), (9, .long av), (0, .ref (ad 233)), (1, .int (nI kn)), (2, .int xx), (3, .long t), (6, .long fv), (8, .int (nI i))]) (dk dX7_worst 43 rfl) rfl (Nat.le_of_ble_eq_true rfl) rfl ?_
              refine g_lload F (q := 84) (dk dX7_worst 44 rfl) rfl 1 rfl ?_
              refine g_lload F (q := 86) (dk dX7_worst 45 rfl) rfl 6 rfl ?_
              refine g_lcmp_le F (q := 90) (tgt := 95) (dk dX7_worst 46 rfl) (dk dX7_worst 47 rfl) (by decide) rfl (fun c86 => absurd c86 (Int64.not_le.mpr (Int64.not_le.mp c69))) (fun c86 => ?_)
              refine g_lload F (q := 92) (dk dX7_worst 48 rfl) rfl 1 rfl ?_
              refine g_goto F (tgt := 97) (dk dX7_worst 49 rfl) (by decide) ?_
              refine g_lstore F (q := 99) (lv' := [(6, .long av), (5, .int (nI i)), (9, .long av), (0, .ref (ad 233)), (1, .int (nI kn)), (2, .int xx), (3, .long t), (8, .int (nI i))]) (dk dX7_worst 51 rfl) rfl (Nat.le_of_ble_eq_true rfl) rfl ?_
              refine g_iinc F (q := 102) (v := (nI ((i + 1)))) (lv' := [(8, .int (nI ((i + 1)))), (6, .long av), (5, .int (nI i)), (9, .long av), (0, .ref (ad 233)), (1, .int (nI kn)), (2, .int xx), (3, .long t)]) (dk dX7_worst 52 rfl) rfl 7 rfl (nI_1 _) (Nat.le_of_ble_eq_true rfl) rfl ?_
              refine g_goto F (tgt := 12) (dk dX7_worst 53 rfl) (by decide) ?_
              have hv1 : -1 < av := by rw [ea]; exact hnn i (by omega) c33
              refine g_lv (lv' := [(0, .ref (ad 233)), (1, .int (nI kn)), (2, .int xx), (3, .long t), (5, .int (nI i)), (6, .long av), (8, .int (nI ((i + 1))))]) [4, 5, 6, 7, 2, 1, 0] rfl ?_
              exact ih (i + 1) (nI i) av (by omega) (by omega) (wsJ_t hw c33 hv1 ea c69)
          · refine g_lload F (q := 57) (dk dX7_worst 31 rfl) rfl 0 rfl ?_
            refine g_lneg F (q := 58) (dk dX7_worst 32 rfl) rfl ?_
            refine g_goto F (tgt := 63) (dk dX7_worst 33 rfl) (by decide) ?_
            refine g_topl (fun av eav => ?_)
            refine g_lstore F (q := 65) (lv' := [(9, .long av), (0, .ref (ad 233)), (1, .int (nI kn)), (2, .int xx), (3, .long t), (5, .int wv), (6, .long fv), (8, .int (nI i))]) (dk dX7_worst 35 rfl) rfl (Nat.le_of_ble_eq_true rfl) rfl ?_
            have ea : av = ab64 (bg r nt kn xx i - t) := by rw [← edv]; unfold ab64; rw [if_pos (Int64.not_le.mp c51)]; exact eav
            refine g_lload F (q := 67) (dk dX7_worst 36 rfl) rfl 0 rfl ?_
            refine g_lload F (q := 69) (dk dX7_worst 37 rfl) rfl 6 rfl ?_
            refine g_lcmp_le F (q := 73) (tgt := 78) (dk dX7_worst 38 rfl) (dk dX7_worst 39 rfl) (by decide) rfl (fun c69 => ?_) (fun c69 => ?_)
            · refine g_iload F (q := 80) (dk dX7_worst 42 rfl) rfl 5 rfl ?_
              refine g_istore F (q := 82) (lv' := [(5, .int wv), (9, .long av), (0, .ref (ad 233)), (1, .int (nI kn)), (2, .int xx), (3, .long t), (6, .long fv), (8, .int (nI i))]) (dk dX7_worst 43 rfl) rfl (Nat.le_of_ble_eq_true rfl) rfl ?_
              refine g_lload F (q := 84) (dk dX7_worst 44 rfl) rfl 1 rfl ?_
              refine g_lload F (q := 86) (dk dX7_worst 45 rfl) rfl 6 rfl ?_
              refine g_lcmp_le F (q := 90) (tgt := 95) (dk dX7_worst 46 rfl) (dk dX7_worst 47 rfl) (by decide) rfl (fun c86 => ?_) (fun c86 => absurd c86 (fun h => h c69))
              refine g_lload F (q := 97) (dk dX7_worst 50 rfl) rfl 6 rfl ?_
              refine g_lstore F (q := 99) (lv' := [(6, .long fv), (5, .int wv), (9, .long av), (0, .ref (ad 233)), (1, .int (nI kn)), (2, .int xx), (3, .long t), (8, .int (nI i))]) (dk dX7_worst 51 rfl) rfl (Nat.le_of_ble_eq_true rfl) rfl ?_
              refine g_iinc F (q := 102) (v := (nI ((i + 1)))) (lv' := [(8, .int (nI ((i + 1)))), (6, .long fv), (5, .int wv), (9, .long av), (0, .ref (ad 233)), (1, .int (nI kn)), (2, .int xx), (3, .long t)]) (dk dX7_worst 52 rfl) rfl 7 rfl (nI_1 _) (Nat.le_of_ble_eq_true rfl) rfl ?_
              refine g_goto F (tgt := 12) (dk dX7_worst 53 rfl) (by decide) ?_
              have hv1 : -1 < av := by rw [ea]; exact hnn i (by omega) c33
              refine g_lv (lv' := [(0, .ref (ad 233)), (1, .int (nI kn)), (2, .int xx), (3, .long t), (5, .int wv), (6, .long fv), (8, .int (nI ((i + 1))))]) [4, 5, 6, 7, 2, 1, 0] rfl ?_
              exact ih (i + 1) wv fv (by omega) (by omega) (wsJ_f hw c33 hv1 ea c69)
            · refine g_iload F (q := 75) (dk dX7_worst 40 rfl) rfl 7 rfl ?_
              refine g_goto F (tgt := 80) (dk dX7_worst 41 rfl) (by decide) ?_
              refine g_istore F (q := 82) (lv' := [(5, .int (nI i)), (9, .long av), (0, .ref (ad 233)), (1, .int (nI kn)), (2, .int xx), (3, .long t), (6, .long fv), (8, .int (nI i))]) (dk dX7_worst 43 rfl) rfl (Nat.le_of_ble_eq_true rfl) rfl ?_
              refine g_lload F (q := 84) (dk dX7_worst 44 rfl) rfl 1 rfl ?_
              refine g_lload F (q := 86) (dk dX7_worst 45 rfl) rfl 6 rfl ?_
              refine g_lcmp_le F (q := 90) (tgt := 95) (dk dX7_worst 46 rfl) (dk dX7_worst 47 rfl) (by decide) rfl (fun c86 => absurd c86 (Int64.not_le.mpr (Int64.not_le.mp c69))) (fun c86 => ?_)
              refine g_lload F (q := 92) (dk dX7_worst 48 rfl) rfl 1 rfl ?_
              refine g_goto F (tgt := 97) (dk dX7_worst 49 rfl) (by decide) ?_
              refine g_lstore F (q := 99) (lv' := [(6, .long av), (5, .int (nI i)), (9, .long av), (0, .ref (ad 233)), (1, .int (nI kn)), (2, .int xx), (3, .long t), (8, .int (nI i))]) (dk dX7_worst 51 rfl) rfl (Nat.le_of_ble_eq_true rfl) rfl ?_
              refine g_iinc F (q := 102) (v := (nI ((i + 1)))) (lv' := [(8, .int (nI ((i + 1)))), (6, .long av), (5, .int (nI i)), (9, .long av), (0, .ref (ad 233)), (1, .int (nI kn)), (2, .int xx), (3, .long t)]) (dk dX7_worst 52 rfl) rfl 7 rfl (nI_1 _) (Nat.le_of_ble_eq_true rfl) rfl ?_
              refine g_goto F (tgt := 12) (dk dX7_worst 53 rfl) (by decide) ?_
              have hv1 : -1 < av := by rw [ea]; exact hnn i (by omega) c33
              refine g_lv (lv' := [(0, .ref (ad 233)), (1, .int (nI kn)), (2, .int xx), (3, .long t), (5, .int (nI i)), (6, .long av), (8, .int (nI ((i + 1))))]) [4, 5, 6, 7, 2, 1, 0] rfl ?_
              exact ih (i + 1) (nI i) av (by omega) (by omega) (wsJ_t hw c33 hv1 ea c69)
  refine g_lv (lv' := [(0, .ref (ad 233)), (1, .int (nI kn)), (2, .int xx), (3, .long t), (5, .int (-5)), (6, .long (-1)), (8, .int 0)]) [3, 4, 5, 6, 2, 1, 0] rfl ?_
  exact K12 _ 0 (-5) (-1) (Nat.lt_succ_self _) (by omega) (Or.inl ⟨rfl, rfl, rfl⟩)
theorem kv_X7_worst : KV yX7_worst "ThumpEarsModel" cX7_worst 11 (some .int) 3 := ⟨tq_896, tq_37, tq_47, tq_897, by decide +kernel⟩
end
