section
-- ===== PART A: goes FIRST, ahead of the names: the tables' words, and 'selects' of the private methods out of them =====
/-- a private method of a class that the tables say can be made, by its rows of tables_1 -/
def lw_okq (q : MethodName × Nat) : Prop := (q.1.cls ≠ "java/lang/invoke/MethodHandle" ∧ q.1.cls ≠ "java/lang/invoke/VarHandle") ∧ Cond.instantiable q.1.cls q.2 ∈ tables_1 ∧ Cond.privateMethod q.1 ∈ tables_1 ∧ Cond.instanceMethod q.1 ∈ tables_1
theorem lw_p0 : lw_okq (⟨"java/lang/Throwable", "fillInStackTrace", "(I)Ljava/lang/Throwable;"⟩, 6) := ⟨⟨by decide +kernel, by decide +kernel⟩, List.mem_of_getElem? (i := 162) (by decide +kernel), List.mem_of_getElem? (i := 160) (by decide +kernel), List.mem_of_getElem? (i := 161) (by decide +kernel)⟩
theorem lw_p1 : lw_okq (⟨"WeirStream", "sourceOf", "(I)LWeirStream$Stage;"⟩, 5) := ⟨⟨by decide +kernel, by decide +kernel⟩, List.mem_of_getElem? (i := 28) (by decide +kernel), List.mem_of_getElem? (i := 216) (by decide +kernel), List.mem_of_getElem? (i := 217) (by decide +kernel)⟩
theorem lw_p2 : lw_okq (⟨"WeirStream", "stageOf", "(I)LWeirStream$Stage;"⟩, 5) := ⟨⟨by decide +kernel, by decide +kernel⟩, List.mem_of_getElem? (i := 28) (by decide +kernel), List.mem_of_getElem? (i := 220) (by decide +kernel), List.mem_of_getElem? (i := 221) (by decide +kernel)⟩
theorem lw_p3 : lw_okq (⟨"WeirStream", "refuseUnlessOpen", "(LWeirStream$Stage;)V"⟩, 5) := ⟨⟨by decide +kernel, by decide +kernel⟩, List.mem_of_getElem? (i := 28) (by decide +kernel), List.mem_of_getElem? (i := 258) (by decide +kernel), List.mem_of_getElem? (i := 259) (by decide +kernel)⟩
theorem lw_p4 : lw_okq (⟨"WeirStream", "refuseUnlessStarted", "()V"⟩, 5) := ⟨⟨by decide +kernel, by decide +kernel⟩, List.mem_of_getElem? (i := 28) (by decide +kernel), List.mem_of_getElem? (i := 274) (by decide +kernel), List.mem_of_getElem? (i := 275) (by decide +kernel)⟩
theorem lw_p5 : lw_okq (⟨"WeirStream$Outlet", "leastGiven", "()I"⟩, 2) := ⟨⟨by decide +kernel, by decide +kernel⟩, List.mem_of_getElem? (i := 294) (by decide +kernel), List.mem_of_getElem? (i := 292) (by decide +kernel), List.mem_of_getElem? (i := 293) (by decide +kernel)⟩
theorem lw_p6 : lw_okq (⟨"WeirStream$Flow", "passBarrier", "(LWeirStream$Stage;)V"⟩, 8) := ⟨⟨by decide +kernel, by decide +kernel⟩, List.mem_of_getElem? (i := 36) (by decide +kernel), List.mem_of_getElem? (i := 329) (by decide +kernel), List.mem_of_getElem? (i := 330) (by decide +kernel)⟩
theorem lw_p7 : lw_okq (⟨"WeirStream$Flow", "completeCheckpoint", "()V"⟩, 8) := ⟨⟨by decide +kernel, by decide +kernel⟩, List.mem_of_getElem? (i := 36) (by decide +kernel), List.mem_of_getElem? (i := 379) (by decide +kernel), List.mem_of_getElem? (i := 380) (by decide +kernel)⟩
theorem lw_p8 : lw_okq (⟨"WeirStream$Stage", "fireFrom", "(I)V"⟩, 12) := ⟨⟨by decide +kernel, by decide +kernel⟩, List.mem_of_getElem? (i := 406) (by decide +kernel), List.mem_of_getElem? (i := 404) (by decide +kernel), List.mem_of_getElem? (i := 405) (by decide +kernel)⟩
theorem lw_p9 : lw_okq (⟨"WeirStream$Stage", "fire", "(I)V"⟩, 12) := ⟨⟨by decide +kernel, by decide +kernel⟩, List.mem_of_getElem? (i := 406) (by decide +kernel), List.mem_of_getElem? (i := 419) (by decide +kernel), List.mem_of_getElem? (i := 420) (by decide +kernel)⟩
theorem lw_p10 : lw_okq (⟨"WeirStream$Stage", "passes", "(J)Z"⟩, 12) := ⟨⟨by decide +kernel, by decide +kernel⟩, List.mem_of_getElem? (i := 406) (by decide +kernel), List.mem_of_getElem? (i := 481) (by decide +kernel), List.mem_of_getElem? (i := 482) (by decide +kernel)⟩
theorem lw_p11 : lw_okq (⟨"WeirStream$Stage", "mapped", "(J)J"⟩, 12) := ⟨⟨by decide +kernel, by decide +kernel⟩, List.mem_of_getElem? (i := 406) (by decide +kernel), List.mem_of_getElem? (i := 495) (by decide +kernel), List.mem_of_getElem? (i := 496) (by decide +kernel)⟩
theorem lw_p12 : lw_okq (⟨"WeirStream$Stage", "takeIntoWindows", "(J)V"⟩, 12) := ⟨⟨by decide +kernel, by decide +kernel⟩, List.mem_of_getElem? (i := 406) (by decide +kernel), List.mem_of_getElem? (i := 499) (by decide +kernel), List.mem_of_getElem? (i := 500) (by decide +kernel)⟩
theorem lw_p13 : lw_okq (⟨"WeirStream$Stage", "takeIntoWindow", "(JII)I"⟩, 12) := ⟨⟨by decide +kernel, by decide +kernel⟩, List.mem_of_getElem? (i := 406) (by decide +kernel), List.mem_of_getElem? (i := 506) (by decide +kernel), List.mem_of_getElem? (i := 507) (by decide +kernel)⟩
theorem lw_p14 : lw_okq (⟨"WeirStream$Stage", "takeIntoSession", "(J)V"⟩, 12) := ⟨⟨by decide +kernel, by decide +kernel⟩, List.mem_of_getElem? (i := 406) (by decide +kernel), List.mem_of_getElem? (i := 548) (by decide +kernel), List.mem_of_getElem? (i := 549) (by decide +kernel)⟩
theorem lw_p15 : lw_okq (⟨"WeirStream$Stage", "takeIntoJoin", "(JZ)V"⟩, 12) := ⟨⟨by decide +kernel, by decide +kernel⟩, List.mem_of_getElem? (i := 406) (by decide +kernel), List.mem_of_getElem? (i := 563) (by decide +kernel), List.mem_of_getElem? (i := 564) (by decide +kernel)⟩
def lw_privs_1 : List (MethodName × Nat) := [(⟨"java/lang/Throwable", "fillInStackTrace", "(I)Ljava/lang/Throwable;"⟩, 6), (⟨"WeirStream", "sourceOf", "(I)LWeirStream$Stage;"⟩, 5), (⟨"WeirStream", "stageOf", "(I)LWeirStream$Stage;"⟩, 5), (⟨"WeirStream", "refuseUnlessOpen", "(LWeirStream$Stage;)V"⟩, 5), (⟨"WeirStream", "refuseUnlessStarted", "()V"⟩, 5), (⟨"WeirStream$Outlet", "leastGiven", "()I"⟩, 2), (⟨"WeirStream$Flow", "passBarrier", "(LWeirStream$Stage;)V"⟩, 8), (⟨"WeirStream$Flow", "completeCheckpoint", "()V"⟩, 8), (⟨"WeirStream$Stage", "fireFrom", "(I)V"⟩, 12), (⟨"WeirStream$Stage", "fire", "(I)V"⟩, 12), (⟨"WeirStream$Stage", "passes", "(J)Z"⟩, 12), (⟨"WeirStream$Stage", "mapped", "(J)J"⟩, 12), (⟨"WeirStream$Stage", "takeIntoWindows", "(J)V"⟩, 12), (⟨"WeirStream$Stage", "takeIntoWindow", "(JII)I"⟩, 12), (⟨"WeirStream$Stage", "takeIntoSession", "(J)V"⟩, 12), (⟨"WeirStream$Stage", "takeIntoJoin", "(JZ)V"⟩, 12)]
theorem lw_r1 : ∀ q ∈ lw_privs_1, lw_okq q := List.forall_mem_cons.mpr ⟨lw_p0, List.forall_mem_cons.mpr ⟨lw_p1, List.forall_mem_cons.mpr ⟨lw_p2, List.forall_mem_cons.mpr ⟨lw_p3, List.forall_mem_cons.mpr ⟨lw_p4, List.forall_mem_cons.mpr ⟨lw_p5, List.forall_mem_cons.mpr ⟨lw_p6, List.forall_mem_cons.mpr ⟨lw_p7, List.forall_mem_cons.mpr ⟨lw_p8, List.forall_mem_cons.mpr ⟨lw_p9, List.forall_mem_cons.mpr ⟨lw_p10, List.forall_mem_cons.mpr ⟨lw_p11, List.forall_mem_cons.mpr ⟨lw_p12, List.forall_mem_cons.mpr ⟨lw_p13, List.forall_mem_cons.mpr ⟨lw_p14, List.forall_mem_cons.mpr ⟨lw_p15, fun _ h => absurd h List.not_mem_nil⟩⟩⟩⟩⟩⟩⟩⟩⟩⟩⟩⟩⟩⟩⟩⟩
theorem lw_p16 : lw_okq (⟨"WeirStream$Stage", "meets", "(JJ)Z"⟩, 12) := ⟨⟨by decide +kernel, by decide +kernel⟩, List.mem_of_getElem? (i := 406) (by decide +kernel), List.mem_of_getElem? (i := 567) (by decide +kernel), List.mem_of_getElem? (i := 568) (by decide +kernel)⟩
theorem lw_p17 : lw_okq (⟨"WeirStream$Stage", "joined", "(II)I"⟩, 12) := ⟨⟨by decide +kernel, by decide +kernel⟩, List.mem_of_getElem? (i := 406) (by decide +kernel), List.mem_of_getElem? (i := 571) (by decide +kernel), List.mem_of_getElem? (i := 572) (by decide +kernel)⟩
theorem lw_p18 : lw_okq (⟨"WeirStream$Stage", "putOut", "(J)V"⟩, 12) := ⟨⟨by decide +kernel, by decide +kernel⟩, List.mem_of_getElem? (i := 406) (by decide +kernel), List.mem_of_getElem? (i := 575) (by decide +kernel), List.mem_of_getElem? (i := 576) (by decide +kernel)⟩
theorem lw_p19 : lw_okq (⟨"WeirStream$Flow", "takeBarrier", "(LWeirStream$Stage;LWeirStream$Channel;LWeirStream$Channel;)V"⟩, 8) := ⟨⟨by decide +kernel, by decide +kernel⟩, List.mem_of_getElem? (i := 36) (by decide +kernel), List.mem_of_getElem? (i := 584) (by decide +kernel), List.mem_of_getElem? (i := 585) (by decide +kernel)⟩
theorem lw_p20 : lw_okq (⟨"WeirStream", "sinkOf", "(I)LWeirStream$Stage;"⟩, 5) := ⟨⟨by decide +kernel, by decide +kernel⟩, List.mem_of_getElem? (i := 28) (by decide +kernel), List.mem_of_getElem? (i := 663) (by decide +kernel), List.mem_of_getElem? (i := 664) (by decide +kernel)⟩
theorem lw_p21 : lw_okq (⟨"WeirStream", "digestOfStage", "(JI)J"⟩, 5) := ⟨⟨by decide +kernel, by decide +kernel⟩, List.mem_of_getElem? (i := 28) (by decide +kernel), List.mem_of_getElem? (i := 738) (by decide +kernel), List.mem_of_getElem? (i := 739) (by decide +kernel)⟩
theorem lw_p22 : lw_okq (⟨"WeirStream", "spanStageOf", "(I)LWeirStream$Stage;"⟩, 5) := ⟨⟨by decide +kernel, by decide +kernel⟩, List.mem_of_getElem? (i := 28) (by decide +kernel), List.mem_of_getElem? (i := 774) (by decide +kernel), List.mem_of_getElem? (i := 775) (by decide +kernel)⟩
theorem lw_p23 : lw_okq (⟨"WeirStream", "digestOfOutput", "(JI)J"⟩, 5) := ⟨⟨by decide +kernel, by decide +kernel⟩, List.mem_of_getElem? (i := 28) (by decide +kernel), List.mem_of_getElem? (i := 781) (by decide +kernel), List.mem_of_getElem? (i := 782) (by decide +kernel)⟩
theorem lw_p24 : lw_okq (⟨"WeirStream", "outputAt", "(II)J"⟩, 5) := ⟨⟨by decide +kernel, by decide +kernel⟩, List.mem_of_getElem? (i := 28) (by decide +kernel), List.mem_of_getElem? (i := 787) (by decide +kernel), List.mem_of_getElem? (i := 788) (by decide +kernel)⟩
theorem lw_p25 : lw_okq (⟨"WeirStream", "refuseMoreStages", "()V"⟩, 5) := ⟨⟨by decide +kernel, by decide +kernel⟩, List.mem_of_getElem? (i := 28) (by decide +kernel), List.mem_of_getElem? (i := 821) (by decide +kernel), List.mem_of_getElem? (i := 822) (by decide +kernel)⟩
theorem lw_p26 : lw_okq (⟨"WeirStream", "wire", "(LWeirStream$Plan;)I"⟩, 5) := ⟨⟨by decide +kernel, by decide +kernel⟩, List.mem_of_getElem? (i := 28) (by decide +kernel), List.mem_of_getElem? (i := 895) (by decide +kernel), List.mem_of_getElem? (i := 896) (by decide +kernel)⟩
theorem lw_p27 : lw_okq (⟨"WeirStream", "planOf", "(I)LWeirStream$Plan;"⟩, 5) := ⟨⟨by decide +kernel, by decide +kernel⟩, List.mem_of_getElem? (i := 28) (by decide +kernel), List.mem_of_getElem? (i := 899) (by decide +kernel), List.mem_of_getElem? (i := 900) (by decide +kernel)⟩
theorem lw_p28 : lw_okq (⟨"WeirStream$Flow", "channelFrom", "(I)LWeirStream$Channel;"⟩, 8) := ⟨⟨by decide +kernel, by decide +kernel⟩, List.mem_of_getElem? (i := 36) (by decide +kernel), List.mem_of_getElem? (i := 925) (by decide +kernel), List.mem_of_getElem? (i := 926) (by decide +kernel)⟩
theorem lw_p29 : lw_okq (⟨"java/util/ArrayList", "add", "(Ljava/lang/Object;[Ljava/lang/Object;I)V"⟩, 3) := ⟨⟨by decide +kernel, by decide +kernel⟩, List.mem_of_getElem? (i := 42) (by decide +kernel), List.mem_of_getElem? (i := 956) (by decide +kernel), List.mem_of_getElem? (i := 957) (by decide +kernel)⟩
theorem lw_p30 : lw_okq (⟨"java/util/ArrayList", "grow", "()[Ljava/lang/Object;"⟩, 3) := ⟨⟨by decide +kernel, by decide +kernel⟩, List.mem_of_getElem? (i := 42) (by decide +kernel), List.mem_of_getElem? (i := 960) (by decide +kernel), List.mem_of_getElem? (i := 961) (by decide +kernel)⟩
theorem lw_p31 : lw_okq (⟨"java/util/ArrayList", "grow", "(I)[Ljava/lang/Object;"⟩, 3) := ⟨⟨by decide +kernel, by decide +kernel⟩, List.mem_of_getElem? (i := 42) (by decide +kernel), List.mem_of_getElem? (i := 964) (by decide +kernel), List.mem_of_getElem? (i := 965) (by decide +kernel)⟩
def lw_privs_2 : List (MethodName × Nat) := [(⟨"WeirStream$Stage", "meets", "(JJ)Z"⟩, 12), (⟨"WeirStream$Stage", "joined", "(II)I"⟩, 12), (⟨"WeirStream$Stage", "putOut", "(J)V"⟩, 12), (⟨"WeirStream$Flow", "takeBarrier", "(LWeirStream$Stage;LWeirStream$Channel;LWeirStream$Channel;)V"⟩, 8), (⟨"WeirStream", "sinkOf", "(I)LWeirStream$Stage;"⟩, 5), (⟨"WeirStream", "digestOfStage", "(JI)J"⟩, 5), (⟨"WeirStream", "spanStageOf", "(I)LWeirStream$Stage;"⟩, 5), (⟨"WeirStream", "digestOfOutput", "(JI)J"⟩, 5), (⟨"WeirStream", "outputAt", "(II)J"⟩, 5), (⟨"WeirStream", "refuseMoreStages", "()V"⟩, 5), (⟨"WeirStream", "wire", "(LWeirStream$Plan;)I"⟩, 5), (⟨"WeirStream", "planOf", "(I)LWeirStream$Plan;"⟩, 5), (⟨"WeirStream$Flow", "channelFrom", "(I)LWeirStream$Channel;"⟩, 8), (⟨"java/util/ArrayList", "add", "(Ljava/lang/Object;[Ljava/lang/Object;I)V"⟩, 3), (⟨"java/util/ArrayList", "grow", "()[Ljava/lang/Object;"⟩, 3), (⟨"java/util/ArrayList", "grow", "(I)[Ljava/lang/Object;"⟩, 3)]
theorem lw_r2 : ∀ q ∈ lw_privs_2, lw_okq q := List.forall_mem_cons.mpr ⟨lw_p16, List.forall_mem_cons.mpr ⟨lw_p17, List.forall_mem_cons.mpr ⟨lw_p18, List.forall_mem_cons.mpr ⟨lw_p19, List.forall_mem_cons.mpr ⟨lw_p20, List.forall_mem_cons.mpr ⟨lw_p21, List.forall_mem_cons.mpr ⟨lw_p22, List.forall_mem_cons.mpr ⟨lw_p23, List.forall_mem_cons.mpr ⟨lw_p24, List.forall_mem_cons.mpr ⟨lw_p25, List.forall_mem_cons.mpr ⟨lw_p26, List.forall_mem_cons.mpr ⟨lw_p27, List.forall_mem_cons.mpr ⟨lw_p28, List.forall_mem_cons.mpr ⟨lw_p29, List.forall_mem_cons.mpr ⟨lw_p30, List.forall_mem_cons.mpr ⟨lw_p31, fun _ h => absurd h List.not_mem_nil⟩⟩⟩⟩⟩⟩⟩⟩⟩⟩⟩⟩⟩⟩⟩⟩
def lw_privs : List (MethodName × Nat) := lw_privs_1 ++ (lw_privs_2)
def lw_tbl : List Cond := k2_sels lw_privs ++ tables_1
theorem lw_privs_ok : ∀ q ∈ lw_privs, lw_okq q := by
  show ∀ q ∈ lw_privs_1 ++ (lw_privs_2), lw_okq q
  exact List.forall_mem_append.mpr ⟨lw_r1, lw_r2⟩
/-- the streams that the claim lets the run draw from -/
abbrev lw_cs : List Choice := [Jvm.Choice.named "NaN.bits"]
theorem lw_bits : nanBits ∈ lw_cs := by first | decide | exact List.mem_cons_self | simp [lw_cs, nanBits]
end
section
def RX0 : String := "WeirStream$Account"
def TX0 : u_T := fun k => match k with
  | _ => ("", "", "", false)
def tyX0 : Nat → FieldType := fun k => match k with
  | _ => .int
abbrev wsX00 : List Cond := u_ws RX0 TX0 0
theorem nmX0 : ∀ a, a < 0 → ∀ b, b < 0 → a ≠ b → (TX0 a).2.1 ≠ (TX0 b).2.1 := by decide +kernel
theorem tyX0_ok : ∀ k, k < 0 → parseFieldDescriptor (TX0 k).2.2.1 = some (tyX0 k) := by decide +kernel
abbrev cX0_cell : ByteArray := prog_2_method_2_code
def yX0_cell : MethodName := ⟨RX0, "cell", "(II)J"⟩
abbrev cX0_value : ByteArray := prog_2_method_3_code
def yX0_value : MethodName := ⟨RX0, "value", "(J)I"⟩
abbrev cX0_beside : ByteArray := prog_2_method_4_code
def yX0_beside : MethodName := ⟨RX0, "beside", "(J)I"⟩
abbrev cX0_ofOne : ByteArray := prog_2_method_5_code
def yX0_ofOne : MethodName := ⟨RX0, "ofOne", "(IJ)J"⟩
abbrev cX0_ofBoth : ByteArray := prog_2_method_6_code
def yX0_ofBoth : MethodName := ⟨RX0, "ofBoth", "(IJJ)J"⟩
abbrev cX0_answer : ByteArray := prog_2_method_7_code
def yX0_answer : MethodName := ⟨RX0, "answer", "(IJ)I"⟩
def RX1 : String := "WeirStream$Channel"
def TX1 : u_T := fun k => match k with
  | 0 => ("WeirStream$Channel", "items", "LWeirStream$Row;", true)
  | 1 => ("WeirStream$Channel", "given", "I", false)
  | _ => ("WeirStream$Channel", "isShut", "Z", false)
def tyX1 : Nat → FieldType := fun k => match k with
  | 0 => .object "WeirStream$Row"
  | 1 => .int
  | _ => .boolean
abbrev wsX10 : List Cond := u_ws RX1 TX1 3
theorem nmX1 : ∀ a, a < 3 → ∀ b, b < 3 → a ≠ b → (TX1 a).2.1 ≠ (TX1 b).2.1 := by decide +kernel
theorem tyX1_ok : ∀ k, k < 3 → parseFieldDescriptor (TX1 k).2.2.1 = some (tyX1 k) := by decide +kernel
abbrev cX1_init : ByteArray := prog_3_method_1_code
def yX1_init : MethodName := ⟨RX1, "<init>", "(LWeirStream$Row;)V"⟩
abbrev cX1_length : ByteArray := prog_3_method_2_code
def yX1_length : MethodName := ⟨RX1, "length", "()I"⟩
abbrev cX1_canGive : ByteArray := prog_3_method_3_code
def yX1_canGive : MethodName := ⟨RX1, "canGive", "()Z"⟩
abbrev cX1_give : ByteArray := prog_3_method_4_code
def yX1_give : MethodName := ⟨RX1, "give", "()J"⟩
def RX2 : String := "WeirStream$Flow"
def TX2 : u_T := fun k => match k with
  | 0 => ("WeirStream$Flow", "isTrial", "Z", true)
  | 1 => ("WeirStream$Flow", "stages", "Ljava/util/ArrayList;", true)
  | 2 => ("WeirStream$Flow", "capacity", "I", false)
  | 3 => ("WeirStream$Flow", "lastWorked", "I", false)
  | 4 => ("WeirStream$Flow", "begunCount", "I", false)
  | 5 => ("WeirStream$Flow", "begunNumber", "I", false)
  | 6 => ("WeirStream$Flow", "completeNumber", "I", false)
  | _ => ("WeirStream$Flow", "unsaved", "I", false)
def tyX2 : Nat → FieldType := fun k => match k with
  | 0 => .boolean
  | 1 => .object "java/util/ArrayList"
  | 2 => .int
  | 3 => .int
  | 4 => .int
  | 5 => .int
  | 6 => .int
  | _ => .int
abbrev wsX20 : List Cond := u_ws RX2 TX2 8
theorem nmX2 : ∀ a, a < 8 → ∀ b, b < 8 → a ≠ b → (TX2 a).2.1 ≠ (TX2 b).2.1 := by decide +kernel
theorem tyX2_ok : ∀ k, k < 8 → parseFieldDescriptor (TX2 k).2.2.1 = some (tyX2 k) := by decide +kernel
abbrev cX2_init : ByteArray := prog_4_method_1_code
def yX2_init : MethodName := ⟨RX2, "<init>", "(Z)V"⟩
abbrev cX2_size : ByteArray := prog_4_method_2_code
def yX2_size : MethodName := ⟨RX2, "size", "()I"⟩
abbrev cX2_at : ByteArray := prog_4_method_3_code
def yX2_at : MethodName := ⟨RX2, "at", "(I)LWeirStream$Stage;"⟩
abbrev cX2_add : ByteArray := prog_4_method_4_code
def yX2_add : MethodName := ⟨RX2, "add", "(LWeirStream$Plan;LWeirStream$Row;)V"⟩
abbrev cX2_channelFrom : ByteArray := prog_4_method_5_code
def yX2_channelFrom : MethodName := ⟨RX2, "channelFrom", "(I)LWeirStream$Channel;"⟩
abbrev cX2_channels : ByteArray := prog_4_method_6_code
def yX2_channels : MethodName := ⟨RX2, "channels", "()I"⟩
abbrev cX2_waiting : ByteArray := prog_4_method_7_code
def yX2_waiting : MethodName := ⟨RX2, "waiting", "()I"⟩
abbrev cX2_nextToWork : ByteArray := prog_4_method_8_code
def yX2_nextToWork : MethodName := ⟨RX2, "nextToWork", "()I"⟩
abbrev cX2_step : ByteArray := prog_4_method_9_code
def yX2_step : MethodName := ⟨RX2, "step", "(I)Z"⟩
abbrev cX2_takeBarrier : ByteArray := prog_4_method_10_code
def yX2_takeBarrier : MethodName := ⟨RX2, "takeBarrier", "(LWeirStream$Stage;LWeirStream$Channel;LWeirStream$Channel;)V"⟩
abbrev cX2_passBarrier : ByteArray := prog_4_method_11_code
def yX2_passBarrier : MethodName := ⟨RX2, "passBarrier", "(LWeirStream$Stage;)V"⟩
abbrev cX2_completeCheckpoint : ByteArray := prog_4_method_12_code
def yX2_completeCheckpoint : MethodName := ⟨RX2, "completeCheckpoint", "()V"⟩
abbrev cX2_beginCheckpoint : ByteArray := prog_4_method_13_code
def yX2_beginCheckpoint : MethodName := ⟨RX2, "beginCheckpoint", "()I"⟩
abbrev cX2_goBack : ByteArray := prog_4_method_14_code
def yX2_goBack : MethodName := ⟨RX2, "goBack", "()I"⟩
abbrev cX2_become : ByteArray := prog_4_method_15_code
def yX2_become : MethodName := ⟨RX2, "become", "(LWeirStream$Flow;)V"⟩
def RX3 : String := "WeirStream$Item"
def TX3 : u_T := fun k => match k with
  | _ => ("", "", "", false)
def tyX3 : Nat → FieldType := fun k => match k with
  | _ => .int
abbrev wsX30 : List Cond := u_ws RX3 TX3 0
theorem nmX3 : ∀ a, a < 0 → ∀ b, b < 0 → a ≠ b → (TX3 a).2.1 ≠ (TX3 b).2.1 := by decide +kernel
theorem tyX3_ok : ∀ k, k < 0 → parseFieldDescriptor (TX3 k).2.2.1 = some (tyX3 k) := by decide +kernel
abbrev cX3_event : ByteArray := prog_5_method_2_code
def yX3_event : MethodName := ⟨RX3, "event", "(III)J"⟩
abbrev cX3_mark : ByteArray := prog_5_method_3_code
def yX3_mark : MethodName := ⟨RX3, "mark", "(I)J"⟩
abbrev cX3_barrier : ByteArray := prog_5_method_4_code
def yX3_barrier : MethodName := ⟨RX3, "barrier", "()J"⟩
abbrev cX3_kind : ByteArray := prog_5_method_5_code
def yX3_kind : MethodName := ⟨RX3, "kind", "(J)I"⟩
abbrev cX3_time : ByteArray := prog_5_method_6_code
def yX3_time : MethodName := ⟨RX3, "time", "(J)I"⟩
abbrev cX3_key : ByteArray := prog_5_method_7_code
def yX3_key : MethodName := ⟨RX3, "key", "(J)I"⟩
abbrev cX3_value : ByteArray := prog_5_method_8_code
def yX3_value : MethodName := ⟨RX3, "value", "(J)I"⟩
def RX4 : String := "WeirStream$Outlet"
def TX4 : u_T := fun k => match k with
  | 0 => ("WeirStream$Outlet", "items", "LWeirStream$Row;", true)
  | _ => ("WeirStream$Outlet", "channels", "Ljava/util/ArrayList;", true)
def tyX4 : Nat → FieldType := fun k => match k with
  | 0 => .object "WeirStream$Row"
  | _ => .object "java/util/ArrayList"
abbrev wsX40 : List Cond := u_ws RX4 TX4 2
theorem nmX4 : ∀ a, a < 2 → ∀ b, b < 2 → a ≠ b → (TX4 a).2.1 ≠ (TX4 b).2.1 := by decide +kernel
theorem tyX4_ok : ∀ k, k < 2 → parseFieldDescriptor (TX4 k).2.2.1 = some (tyX4 k) := by decide +kernel
abbrev cX4_init : ByteArray := prog_6_method_1_code
def yX4_init : MethodName := ⟨RX4, "<init>", "()V"⟩
abbrev cX4_open : ByteArray := prog_6_method_2_code
def yX4_open : MethodName := ⟨RX4, "open", "()LWeirStream$Channel;"⟩
abbrev cX4_isBelow : ByteArray := prog_6_method_3_code
def yX4_isBelow : MethodName := ⟨RX4, "isBelow", "(I)Z"⟩
abbrev cX4_leastGiven : ByteArray := prog_6_method_4_code
def yX4_leastGiven : MethodName := ⟨RX4, "leastGiven", "()I"⟩
abbrev cX4_forgetGiven : ByteArray := prog_6_method_5_code
def yX4_forgetGiven : MethodName := ⟨RX4, "forgetGiven", "()V"⟩
abbrev cX4_empty : ByteArray := prog_6_method_6_code
def yX4_empty : MethodName := ⟨RX4, "empty", "()V"⟩
abbrev cX4_become : ByteArray := prog_6_method_7_code
def yX4_become : MethodName := ⟨RX4, "become", "(LWeirStream$Outlet;)V"⟩
def RX5 : String := "WeirStream$Plan"
def TX5 : u_T := fun k => match k with
  | 0 => ("WeirStream$Plan", "sort", "I", true)
  | 1 => ("WeirStream$Plan", "first", "I", true)
  | 2 => ("WeirStream$Plan", "second", "I", true)
  | 3 => ("WeirStream$Plan", "slack", "I", false)
  | 4 => ("WeirStream$Plan", "rule", "I", false)
  | 5 => ("WeirStream$Plan", "n", "I", false)
  | 6 => ("WeirStream$Plan", "size", "I", false)
  | 7 => ("WeirStream$Plan", "step", "I", false)
  | 8 => ("WeirStream$Plan", "lateness", "I", false)
  | 9 => ("WeirStream$Plan", "gap", "I", false)
  | 10 => ("WeirStream$Plan", "before", "I", false)
  | 11 => ("WeirStream$Plan", "after", "I", false)
  | 12 => ("WeirStream$Plan", "account", "I", false)
  | 13 => ("WeirStream$Plan", "depth", "I", false)
  | _ => ("WeirStream$Plan", "upstream", "I", false)
def tyX5 : Nat → FieldType := fun k => match k with
  | 0 => .int
  | 1 => .int
  | 2 => .int
  | 3 => .int
  | 4 => .int
  | 5 => .int
  | 6 => .int
  | 7 => .int
  | 8 => .int
  | 9 => .int
  | 10 => .int
  | 11 => .int
  | 12 => .int
  | 13 => .int
  | _ => .int
abbrev wsX50 : List Cond := u_ws RX5 TX5 15
theorem nmX5 : ∀ a, a < 15 → ∀ b, b < 15 → a ≠ b → (TX5 a).2.1 ≠ (TX5 b).2.1 := by decide +kernel
theorem tyX5_ok : ∀ k, k < 15 → parseFieldDescriptor (TX5 k).2.2.1 = some (tyX5 k) := by decide +kernel
abbrev cX5_init : ByteArray := prog_7_method_1_code
def yX5_init : MethodName := ⟨RX5, "<init>", "(III)V"⟩
abbrev cX5_standBehind : ByteArray := prog_7_method_2_code
def yX5_standBehind : MethodName := ⟨RX5, "standBehind", "(LWeirStream$Plan;I)V"⟩
def RX6 : String := "WeirStream$Row"
def TX6 : u_T := fun k => match k with
  | 0 => ("WeirStream$Row", "cells", "[J", false)
  | _ => ("WeirStream$Row", "length", "I", false)
def tyX6 : Nat → FieldType := fun k => match k with
  | 0 => .array .long
  | _ => .int
abbrev wsX60 : List Cond := u_ws RX6 TX6 2
theorem nmX6 : ∀ a, a < 2 → ∀ b, b < 2 → a ≠ b → (TX6 a).2.1 ≠ (TX6 b).2.1 := by decide +kernel
theorem tyX6_ok : ∀ k, k < 2 → parseFieldDescriptor (TX6 k).2.2.1 = some (tyX6 k) := by decide +kernel
abbrev cX6_init : ByteArray := prog_8_method_1_code
def yX6_init : MethodName := ⟨RX6, "<init>", "()V"⟩
abbrev cX6_length : ByteArray := prog_8_method_2_code
def yX6_length : MethodName := ⟨RX6, "length", "()I"⟩
abbrev cX6_at : ByteArray := prog_8_method_3_code
def yX6_at : MethodName := ⟨RX6, "at", "(I)J"⟩
abbrev cX6_put : ByteArray := prog_8_method_4_code
def yX6_put : MethodName := ⟨RX6, "put", "(IJ)V"⟩
abbrev cX6_add : ByteArray := prog_8_method_5_code
def yX6_add : MethodName := ⟨RX6, "add", "(J)V"⟩
abbrev cX6_insert : ByteArray := prog_8_method_6_code
def yX6_insert : MethodName := ⟨RX6, "insert", "(IJ)V"⟩
abbrev cX6_remove : ByteArray := prog_8_method_7_code
def yX6_remove : MethodName := ⟨RX6, "remove", "(II)V"⟩
abbrev cX6_shorten : ByteArray := prog_8_method_8_code
def yX6_shorten : MethodName := ⟨RX6, "shorten", "(I)V"⟩
abbrev cX6_become : ByteArray := prog_8_method_9_code
def yX6_become : MethodName := ⟨RX6, "become", "(LWeirStream$Row;I)V"⟩
def RX7 : String := "WeirStream$Spans"
def TX7 : u_T := fun k => match k with
  | 0 => ("WeirStream$Spans", "names", "LWeirStream$Row;", true)
  | _ => ("WeirStream$Spans", "accounts", "LWeirStream$Row;", true)
def tyX7 : Nat → FieldType := fun k => match k with
  | 0 => .object "WeirStream$Row"
  | _ => .object "WeirStream$Row"
abbrev wsX70 : List Cond := u_ws RX7 TX7 2
theorem nmX7 : ∀ a, a < 2 → ∀ b, b < 2 → a ≠ b → (TX7 a).2.1 ≠ (TX7 b).2.1 := by decide +kernel
theorem tyX7_ok : ∀ k, k < 2 → parseFieldDescriptor (TX7 k).2.2.1 = some (tyX7 k) := by decide +kernel
abbrev cX7_init : ByteArray := prog_9_method_1_code
def yX7_init : MethodName := ⟨RX7, "<init>", "()V"⟩
abbrev cX7_name : ByteArray := prog_9_method_2_code
def yX7_name : MethodName := ⟨RX7, "name", "(III)J"⟩
abbrev cX7_length : ByteArray := prog_9_method_3_code
def yX7_length : MethodName := ⟨RX7, "length", "()I"⟩
abbrev cX7_endAt : ByteArray := prog_9_method_4_code
def yX7_endAt : MethodName := ⟨RX7, "endAt", "(I)I"⟩
abbrev cX7_keyAtPlace : ByteArray := prog_9_method_5_code
def yX7_keyAtPlace : MethodName := ⟨RX7, "keyAtPlace", "(I)I"⟩
abbrev cX7_beginAt : ByteArray := prog_9_method_6_code
def yX7_beginAt : MethodName := ⟨RX7, "beginAt", "(I)I"⟩
abbrev cX7_accountAtPlace : ByteArray := prog_9_method_7_code
def yX7_accountAtPlace : MethodName := ⟨RX7, "accountAtPlace", "(I)J"⟩
abbrev cX7_placeFor : ByteArray := prog_9_method_8_code
def yX7_placeFor : MethodName := ⟨RX7, "placeFor", "(J)I"⟩
abbrev cX7_firstEndingAbove : ByteArray := prog_9_method_9_code
def yX7_firstEndingAbove : MethodName := ⟨RX7, "firstEndingAbove", "(I)I"⟩
abbrev cX7_isAt : ByteArray := prog_9_method_11_code
def yX7_isAt : MethodName := ⟨RX7, "isAt", "(IJ)Z"⟩
abbrev cX7_insert : ByteArray := prog_9_method_12_code
def yX7_insert : MethodName := ⟨RX7, "insert", "(IJJ)V"⟩
abbrev cX7_setAccount : ByteArray := prog_9_method_13_code
def yX7_setAccount : MethodName := ⟨RX7, "setAccount", "(IJ)V"⟩
abbrev cX7_remove : ByteArray := prog_9_method_14_code
def yX7_remove : MethodName := ⟨RX7, "remove", "(II)V"⟩
abbrev cX7_become : ByteArray := prog_9_method_15_code
def yX7_become : MethodName := ⟨RX7, "become", "(LWeirStream$Spans;)V"⟩
def RX8 : String := "WeirStream$Stage"
def TX8 : u_T := fun k => match k with
  | 0 => ("WeirStream$Stage", "plan", "LWeirStream$Plan;", true)
  | 1 => ("WeirStream$Stage", "log", "LWeirStream$Row;", true)
  | 2 => ("WeirStream$Stage", "first", "LWeirStream$Channel;", true)
  | 3 => ("WeirStream$Stage", "second", "LWeirStream$Channel;", true)
  | 4 => ("WeirStream$Stage", "isTrial", "Z", true)
  | 5 => ("WeirStream$Stage", "outlet", "LWeirStream$Outlet;", true)
  | 6 => ("WeirStream$Stage", "output", "LWeirStream$Row;", true)
  | 7 => ("WeirStream$Stage", "now", "LWeirStream$State;", true)
  | 8 => ("WeirStream$Stage", "latest", "LWeirStream$State;", false)
  | 9 => ("WeirStream$Stage", "coming", "LWeirStream$State;", false)
  | 10 => ("WeirStream$Stage", "isClosed", "Z", false)
  | _ => ("WeirStream$Stage", "owesBarrier", "Z", false)
def tyX8 : Nat → FieldType := fun k => match k with
  | 0 => .object "WeirStream$Plan"
  | 1 => .object "WeirStream$Row"
  | 2 => .object "WeirStream$Channel"
  | 3 => .object "WeirStream$Channel"
  | 4 => .boolean
  | 5 => .object "WeirStream$Outlet"
  | 6 => .object "WeirStream$Row"
  | 7 => .object "WeirStream$State"
  | 8 => .object "WeirStream$State"
  | 9 => .object "WeirStream$State"
  | 10 => .boolean
  | _ => .boolean
abbrev wsX80 : List Cond := u_ws RX8 TX8 12
theorem nmX8 : ∀ a, a < 12 → ∀ b, b < 12 → a ≠ b → (TX8 a).2.1 ≠ (TX8 b).2.1 := by decide +kernel
theorem tyX8_ok : ∀ k, k < 12 → parseFieldDescriptor (TX8 k).2.2.1 = some (tyX8 k) := by decide +kernel
abbrev cX8_init : ByteArray := prog_10_method_1_code
def yX8_init : MethodName := ⟨RX8, "<init>", "(LWeirStream$Plan;LWeirStream$Row;LWeirStream$Channel;LWeirStream$Channel;Z)V"⟩
abbrev cX8_channel : ByteArray := prog_10_method_2_code
def yX8_channel : MethodName := ⟨RX8, "channel", "(Z)LWeirStream$Channel;"⟩
abbrev cX8_unread : ByteArray := prog_10_method_3_code
def yX8_unread : MethodName := ⟨RX8, "unread", "()I"⟩
abbrev cX8_canWork : ByteArray := prog_10_method_4_code
def yX8_canWork : MethodName := ⟨RX8, "canWork", "(I)Z"⟩
abbrev cX8_turnsToSecond : ByteArray := prog_10_method_5_code
def yX8_turnsToSecond : MethodName := ⟨RX8, "turnsToSecond", "()Z"⟩
abbrev cX8_emit : ByteArray := prog_10_method_6_code
def yX8_emit : MethodName := ⟨RX8, "emit", "(J)V"⟩
abbrev cX8_read : ByteArray := prog_10_method_7_code
def yX8_read : MethodName := ⟨RX8, "read", "()I"⟩
abbrev cX8_takeEvent : ByteArray := prog_10_method_8_code
def yX8_takeEvent : MethodName := ⟨RX8, "takeEvent", "(JZ)V"⟩
abbrev cX8_passes : ByteArray := prog_10_method_9_code
def yX8_passes : MethodName := ⟨RX8, "passes", "(J)Z"⟩
abbrev cX8_mapped : ByteArray := prog_10_method_10_code
def yX8_mapped : MethodName := ⟨RX8, "mapped", "(J)J"⟩
abbrev cX8_putOut : ByteArray := prog_10_method_11_code
def yX8_putOut : MethodName := ⟨RX8, "putOut", "(J)V"⟩
abbrev cX8_takeIntoWindows : ByteArray := prog_10_method_12_code
def yX8_takeIntoWindows : MethodName := ⟨RX8, "takeIntoWindows", "(J)V"⟩
abbrev cX8_takeIntoWindow : ByteArray := prog_10_method_13_code
def yX8_takeIntoWindow : MethodName := ⟨RX8, "takeIntoWindow", "(JII)I"⟩
abbrev cX8_takeIntoSession : ByteArray := prog_10_method_14_code
def yX8_takeIntoSession : MethodName := ⟨RX8, "takeIntoSession", "(J)V"⟩
abbrev cX8_fire : ByteArray := prog_10_method_15_code
def yX8_fire : MethodName := ⟨RX8, "fire", "(I)V"⟩
abbrev cX8_takeIntoJoin : ByteArray := prog_10_method_16_code
def yX8_takeIntoJoin : MethodName := ⟨RX8, "takeIntoJoin", "(JZ)V"⟩
abbrev cX8_meets : ByteArray := prog_10_method_17_code
def yX8_meets : MethodName := ⟨RX8, "meets", "(JJ)Z"⟩
abbrev cX8_joined : ByteArray := prog_10_method_18_code
def yX8_joined : MethodName := ⟨RX8, "joined", "(II)I"⟩
abbrev cX8_leastMark : ByteArray := prog_10_method_19_code
def yX8_leastMark : MethodName := ⟨RX8, "leastMark", "(IZ)I"⟩
abbrev cX8_raiseMark : ByteArray := prog_10_method_20_code
def yX8_raiseMark : MethodName := ⟨RX8, "raiseMark", "(I)V"⟩
abbrev cX8_fireFrom : ByteArray := prog_10_method_21_code
def yX8_fireFrom : MethodName := ⟨RX8, "fireFrom", "(I)V"⟩
abbrev cX8_forgetBelow : ByteArray := prog_10_method_22_code
def yX8_forgetBelow : MethodName := ⟨RX8, "forgetBelow", "(LWeirStream$Row;I)V"⟩
abbrev cX8_adoptSaved : ByteArray := prog_10_method_23_code
def yX8_adoptSaved : MethodName := ⟨RX8, "adoptSaved", "()V"⟩
abbrev cX8_goBack : ByteArray := prog_10_method_24_code
def yX8_goBack : MethodName := ⟨RX8, "goBack", "()V"⟩
abbrev cX8_become : ByteArray := prog_10_method_25_code
def yX8_become : MethodName := ⟨RX8, "become", "(LWeirStream$Stage;)V"⟩
def RX9 : String := "WeirStream$State"
def TX9 : u_T := fun k => match k with
  | 0 => ("WeirStream$State", "mark", "I", false)
  | 1 => ("WeirStream$State", "firstMark", "I", false)
  | 2 => ("WeirStream$State", "secondMark", "I", false)
  | 3 => ("WeirStream$State", "tookSecond", "Z", false)
  | 4 => ("WeirStream$State", "taken", "I", false)
  | 5 => ("WeirStream$State", "emitted", "I", false)
  | 6 => ("WeirStream$State", "late", "I", false)
  | 7 => ("WeirStream$State", "outputCount", "I", false)
  | 8 => ("WeirStream$State", "spans", "LWeirStream$Spans;", true)
  | 9 => ("WeirStream$State", "left", "LWeirStream$Row;", true)
  | _ => ("WeirStream$State", "right", "LWeirStream$Row;", true)
def tyX9 : Nat → FieldType := fun k => match k with
  | 0 => .int
  | 1 => .int
  | 2 => .int
  | 3 => .boolean
  | 4 => .int
  | 5 => .int
  | 6 => .int
  | 7 => .int
  | 8 => .object "WeirStream$Spans"
  | 9 => .object "WeirStream$Row"
  | _ => .object "WeirStream$Row"
abbrev wsX90 : List Cond := u_ws RX9 TX9 11
theorem nmX9 : ∀ a, a < 11 → ∀ b, b < 11 → a ≠ b → (TX9 a).2.1 ≠ (TX9 b).2.1 := by decide +kernel
theorem tyX9_ok : ∀ k, k < 11 → parseFieldDescriptor (TX9 k).2.2.1 = some (tyX9 k) := by decide +kernel
abbrev cX9_init : ByteArray := prog_11_method_1_code
def yX9_init : MethodName := ⟨RX9, "<init>", "()V"⟩
abbrev cX9_keptCount : ByteArray := prog_11_method_2_code
def yX9_keptCount : MethodName := ⟨RX9, "keptCount", "()I"⟩
abbrev cX9_become : ByteArray := prog_11_method_3_code
def yX9_become : MethodName := ⟨RX9, "become", "(LWeirStream$State;)V"⟩
def RX10 : String := "WeirStream"
def TX10 : u_T := fun k => match k with
  | 0 => ("WeirStream", "live", "LWeirStream$Flow;", true)
  | 1 => ("WeirStream", "trial", "LWeirStream$Flow;", true)
  | 2 => ("WeirStream", "hasStarted", "Z", false)
  | 3 => ("WeirStream", "crashCount", "I", false)
  | _ => ("WeirStream", "workedCount", "I", false)
def tyX10 : Nat → FieldType := fun k => match k with
  | 0 => .object "WeirStream$Flow"
  | 1 => .object "WeirStream$Flow"
  | 2 => .boolean
  | 3 => .int
  | _ => .int
abbrev wsX100 : List Cond := u_ws RX10 TX10 5
theorem nmX10 : ∀ a, a < 5 → ∀ b, b < 5 → a ≠ b → (TX10 a).2.1 ≠ (TX10 b).2.1 := by decide +kernel
theorem tyX10_ok : ∀ k, k < 5 → parseFieldDescriptor (TX10 k).2.2.1 = some (tyX10 k) := by decide +kernel
abbrev cX10_init : ByteArray := prog_1_method_1_code
def yX10_init : MethodName := ⟨RX10, "<init>", "()V"⟩
abbrev cX10_addSource : ByteArray := prog_1_method_2_code
def yX10_addSource : MethodName := ⟨RX10, "addSource", "(I)I"⟩
abbrev cX10_addFilter : ByteArray := prog_1_method_3_code
def yX10_addFilter : MethodName := ⟨RX10, "addFilter", "(III)I"⟩
abbrev cX10_addMap : ByteArray := prog_1_method_4_code
def yX10_addMap : MethodName := ⟨RX10, "addMap", "(III)I"⟩
abbrev cX10_addWindow : ByteArray := prog_1_method_5_code
def yX10_addWindow : MethodName := ⟨RX10, "addWindow", "(IIIII)I"⟩
abbrev cX10_addSession : ByteArray := prog_1_method_6_code
def yX10_addSession : MethodName := ⟨RX10, "addSession", "(III)I"⟩
abbrev cX10_addJoin : ByteArray := prog_1_method_7_code
def yX10_addJoin : MethodName := ⟨RX10, "addJoin", "(IIIII)I"⟩
abbrev cX10_addMerge : ByteArray := prog_1_method_8_code
def yX10_addMerge : MethodName := ⟨RX10, "addMerge", "(II)I"⟩
abbrev cX10_addSink : ByteArray := prog_1_method_9_code
def yX10_addSink : MethodName := ⟨RX10, "addSink", "(I)I"⟩
abbrev cX10_start : ByteArray := prog_1_method_10_code
def yX10_start : MethodName := ⟨RX10, "start", "()I"⟩
abbrev cX10_setCapacity : ByteArray := prog_1_method_11_code
def yX10_setCapacity : MethodName := ⟨RX10, "setCapacity", "(I)I"⟩
abbrev cX10_offer : ByteArray := prog_1_method_12_code
def yX10_offer : MethodName := ⟨RX10, "offer", "(IIII)I"⟩
abbrev cX10_close : ByteArray := prog_1_method_13_code
def yX10_close : MethodName := ⟨RX10, "close", "(I)I"⟩
abbrev cX10_work : ByteArray := prog_1_method_14_code
def yX10_work : MethodName := ⟨RX10, "work", "(I)I"⟩
abbrev cX10_workAt : ByteArray := prog_1_method_15_code
def yX10_workAt : MethodName := ⟨RX10, "workAt", "(I)Z"⟩
abbrev cX10_checkpoint : ByteArray := prog_1_method_16_code
def yX10_checkpoint : MethodName := ⟨RX10, "checkpoint", "()I"⟩
abbrev cX10_crash : ByteArray := prog_1_method_17_code
def yX10_crash : MethodName := ⟨RX10, "crash", "()I"⟩
abbrev cX10_stages : ByteArray := prog_1_method_18_code
def yX10_stages : MethodName := ⟨RX10, "stages", "()I"⟩
abbrev cX10_isStarted : ByteArray := prog_1_method_19_code
def yX10_isStarted : MethodName := ⟨RX10, "isStarted", "()Z"⟩
abbrev cX10_sortOf : ByteArray := prog_1_method_20_code
def yX10_sortOf : MethodName := ⟨RX10, "sortOf", "(I)I"⟩
abbrev cX10_markOf : ByteArray := prog_1_method_21_code
def yX10_markOf : MethodName := ⟨RX10, "markOf", "(I)I"⟩
abbrev cX10_taken : ByteArray := prog_1_method_22_code
def yX10_taken : MethodName := ⟨RX10, "taken", "(I)I"⟩
abbrev cX10_emitted : ByteArray := prog_1_method_23_code
def yX10_emitted : MethodName := ⟨RX10, "emitted", "(I)I"⟩
abbrev cX10_late : ByteArray := prog_1_method_24_code
def yX10_late : MethodName := ⟨RX10, "late", "(I)I"⟩
abbrev cX10_kept : ByteArray := prog_1_method_25_code
def yX10_kept : MethodName := ⟨RX10, "kept", "(I)I"⟩
abbrev cX10_isReady : ByteArray := prog_1_method_26_code
def yX10_isReady : MethodName := ⟨RX10, "isReady", "(I)Z"⟩
abbrev cX10_hasRoom : ByteArray := prog_1_method_27_code
def yX10_hasRoom : MethodName := ⟨RX10, "hasRoom", "(I)Z"⟩
abbrev cX10_queued : ByteArray := prog_1_method_28_code
def yX10_queued : MethodName := ⟨RX10, "queued", "(IZ)I"⟩
abbrev cX10_isBlocked : ByteArray := prog_1_method_29_code
def yX10_isBlocked : MethodName := ⟨RX10, "isBlocked", "(IZ)Z"⟩
abbrev cX10_depthOf : ByteArray := prog_1_method_31_code
def yX10_depthOf : MethodName := ⟨RX10, "depthOf", "(I)I"⟩
abbrev cX10_nextEnd : ByteArray := prog_1_method_33_code
def yX10_nextEnd : MethodName := ⟨RX10, "nextEnd", "(I)I"⟩
abbrev cX10_outputs : ByteArray := prog_1_method_34_code
def yX10_outputs : MethodName := ⟨RX10, "outputs", "(I)I"⟩
abbrev cX10_committed : ByteArray := prog_1_method_35_code
def yX10_committed : MethodName := ⟨RX10, "committed", "(I)I"⟩
abbrev cX10_complete : ByteArray := prog_1_method_39_code
def yX10_complete : MethodName := ⟨RX10, "complete", "()I"⟩
abbrev cX10_begun : ByteArray := prog_1_method_40_code
def yX10_begun : MethodName := ⟨RX10, "begun", "()I"⟩
abbrev cX10_crashes : ByteArray := prog_1_method_41_code
def yX10_crashes : MethodName := ⟨RX10, "crashes", "()I"⟩
abbrev cX10_worked : ByteArray := prog_1_method_42_code
def yX10_worked : MethodName := ⟨RX10, "worked", "()I"⟩
abbrev cX10_inFlight : ByteArray := prog_1_method_43_code
def yX10_inFlight : MethodName := ⟨RX10, "inFlight", "()I"⟩
abbrev cX10_next : ByteArray := prog_1_method_44_code
def yX10_next : MethodName := ⟨RX10, "next", "()I"⟩
abbrev cX10_meanQueue : ByteArray := prog_1_method_45_code
def yX10_meanQueue : MethodName := ⟨RX10, "meanQueue", "()D"⟩
abbrev cX10_itemsToRest : ByteArray := prog_1_method_46_code
def yX10_itemsToRest : MethodName := ⟨RX10, "itemsToRest", "(I)I"⟩
abbrev cX10_wouldLose : ByteArray := prog_1_method_48_code
def yX10_wouldLose : MethodName := ⟨RX10, "wouldLose", "(I)I"⟩
abbrev cX10_wouldReplay : ByteArray := prog_1_method_49_code
def yX10_wouldReplay : MethodName := ⟨RX10, "wouldReplay", "(I)I"⟩
abbrev cX10_digest : ByteArray := prog_1_method_50_code
def yX10_digest : MethodName := ⟨RX10, "digest", "()J"⟩
abbrev cX10_digestOfStage : ByteArray := prog_1_method_51_code
def yX10_digestOfStage : MethodName := ⟨RX10, "digestOfStage", "(JI)J"⟩
abbrev cX10_digestOfOutput : ByteArray := prog_1_method_52_code
def yX10_digestOfOutput : MethodName := ⟨RX10, "digestOfOutput", "(JI)J"⟩
abbrev cX10_bit : ByteArray := prog_1_method_53_code
def yX10_bit : MethodName := ⟨RX10, "bit", "(Z)I"⟩
abbrev cX10_isWithin : ByteArray := prog_1_method_54_code
def yX10_isWithin : MethodName := ⟨RX10, "isWithin", "(III)Z"⟩
abbrev cX10_refuseUnless : ByteArray := prog_1_method_55_code
def yX10_refuseUnless : MethodName := ⟨RX10, "refuseUnless", "(Z)V"⟩
abbrev cX10_refuseMoreStages : ByteArray := prog_1_method_56_code
def yX10_refuseMoreStages : MethodName := ⟨RX10, "refuseMoreStages", "()V"⟩
abbrev cX10_refuseUnlessStarted : ByteArray := prog_1_method_57_code
def yX10_refuseUnlessStarted : MethodName := ⟨RX10, "refuseUnlessStarted", "()V"⟩
abbrev cX10_refuseUnlessOpen : ByteArray := prog_1_method_58_code
def yX10_refuseUnlessOpen : MethodName := ⟨RX10, "refuseUnlessOpen", "(LWeirStream$Stage;)V"⟩
abbrev cX10_stageOf : ByteArray := prog_1_method_59_code
def yX10_stageOf : MethodName := ⟨RX10, "stageOf", "(I)LWeirStream$Stage;"⟩
abbrev cX10_sourceOf : ByteArray := prog_1_method_60_code
def yX10_sourceOf : MethodName := ⟨RX10, "sourceOf", "(I)LWeirStream$Stage;"⟩
abbrev cX10_spanStageOf : ByteArray := prog_1_method_61_code
def yX10_spanStageOf : MethodName := ⟨RX10, "spanStageOf", "(I)LWeirStream$Stage;"⟩
abbrev cX10_sinkOf : ByteArray := prog_1_method_62_code
def yX10_sinkOf : MethodName := ⟨RX10, "sinkOf", "(I)LWeirStream$Stage;"⟩
abbrev cX10_outputAt : ByteArray := prog_1_method_63_code
def yX10_outputAt : MethodName := ⟨RX10, "outputAt", "(II)J"⟩
abbrev cX10_wire : ByteArray := prog_1_method_64_code
def yX10_wire : MethodName := ⟨RX10, "wire", "(LWeirStream$Plan;)I"⟩
abbrev cX10_planOf : ByteArray := prog_1_method_65_code
def yX10_planOf : MethodName := ⟨RX10, "planOf", "(I)LWeirStream$Plan;"⟩
def RX11 : String := "WeirStreamModel$Kept"
def TX11 : u_T := fun k => match k with
  | _ => ("", "", "", false)
def tyX11 : Nat → FieldType := fun k => match k with
  | _ => .int
abbrev wsX110 : List Cond := u_ws RX11 TX11 0
theorem nmX11 : ∀ a, a < 0 → ∀ b, b < 0 → a ≠ b → (TX11 a).2.1 ≠ (TX11 b).2.1 := by decide +kernel
theorem tyX11_ok : ∀ k, k < 0 → parseFieldDescriptor (TX11 k).2.2.1 = some (tyX11 k) := by decide +kernel
def RX12 : String := "WeirStreamModel$Rows"
def TX12 : u_T := fun k => match k with
  | _ => ("", "", "", false)
def tyX12 : Nat → FieldType := fun k => match k with
  | _ => .int
abbrev wsX120 : List Cond := u_ws RX12 TX12 0
theorem nmX12 : ∀ a, a < 0 → ∀ b, b < 0 → a ≠ b → (TX12 a).2.1 ≠ (TX12 b).2.1 := by decide +kernel
theorem tyX12_ok : ∀ k, k < 0 → parseFieldDescriptor (TX12 k).2.2.1 = some (tyX12 k) := by decide +kernel
def RX13 : String := "WeirStreamModel$State"
def TX13 : u_T := fun k => match k with
  | _ => ("", "", "", false)
def tyX13 : Nat → FieldType := fun k => match k with
  | _ => .int
abbrev wsX130 : List Cond := u_ws RX13 TX13 0
theorem nmX13 : ∀ a, a < 0 → ∀ b, b < 0 → a ≠ b → (TX13 a).2.1 ≠ (TX13 b).2.1 := by decide +kernel
theorem tyX13_ok : ∀ k, k < 0 → parseFieldDescriptor (TX13 k).2.2.1 = some (tyX13 k) := by decide +kernel
def RX14 : String := "WeirStreamModel"
def TX14 : u_T := fun k => match k with
  | _ => ("", "", "", false)
def tyX14 : Nat → FieldType := fun k => match k with
  | _ => .int
abbrev wsX140 : List Cond := u_ws RX14 TX14 0
theorem nmX14 : ∀ a, a < 0 → ∀ b, b < 0 → a ≠ b → (TX14 a).2.1 ≠ (TX14 b).2.1 := by decide +kernel
theorem tyX14_ok : ∀ k, k < 0 → parseFieldDescriptor (TX14 k).2.2.1 = some (tyX14 k) := by decide +kernel
def RJx145de : String := "java/io/Serializable"
def TJx145de : u_T := fun k => match k with
  | _ => ("", "", "", false)
def tyJx145de : Nat → FieldType := fun k => match k with
  | _ => .int
abbrev wsJx145de0 : List Cond := u_ws RJx145de TJx145de 0
theorem nmJx145de : ∀ a, a < 0 → ∀ b, b < 0 → a ≠ b → (TJx145de a).2.1 ≠ (TJx145de b).2.1 := by decide +kernel
theorem tyJx145de_ok : ∀ k, k < 0 → parseFieldDescriptor (TJx145de k).2.2.1 = some (tyJx145de k) := by decide +kernel
def RJx8e188 : String := "java/lang/Cloneable"
def TJx8e188 : u_T := fun k => match k with
  | _ => ("", "", "", false)
def tyJx8e188 : Nat → FieldType := fun k => match k with
  | _ => .int
abbrev wsJx8e1880 : List Cond := u_ws RJx8e188 TJx8e188 0
theorem nmJx8e188 : ∀ a, a < 0 → ∀ b, b < 0 → a ≠ b → (TJx8e188 a).2.1 ≠ (TJx8e188 b).2.1 := by decide +kernel
theorem tyJx8e188_ok : ∀ k, k < 0 → parseFieldDescriptor (TJx8e188 k).2.2.1 = some (tyJx8e188 k) := by decide +kernel
def RJxab1ab : String := "java/lang/Iterable"
def TJxab1ab : u_T := fun k => match k with
  | _ => ("", "", "", false)
def tyJxab1ab : Nat → FieldType := fun k => match k with
  | _ => .int
abbrev wsJxab1ab0 : List Cond := u_ws RJxab1ab TJxab1ab 0
theorem nmJxab1ab : ∀ a, a < 0 → ∀ b, b < 0 → a ≠ b → (TJxab1ab a).2.1 ≠ (TJxab1ab b).2.1 := by decide +kernel
theorem tyJxab1ab_ok : ∀ k, k < 0 → parseFieldDescriptor (TJxab1ab k).2.2.1 = some (tyJxab1ab k) := by decide +kernel
def RJ9 : String := "java/lang/Math"
def TJ9 : u_T := fun k => match k with
  | _ => ("", "", "", false)
def tyJ9 : Nat → FieldType := fun k => match k with
  | _ => .int
abbrev wsJ90 : List Cond := u_ws RJ9 TJ9 0
theorem nmJ9 : ∀ a, a < 0 → ∀ b, b < 0 → a ≠ b → (TJ9 a).2.1 ≠ (TJ9 b).2.1 := by decide +kernel
theorem tyJ9_ok : ∀ k, k < 0 → parseFieldDescriptor (TJ9 k).2.2.1 = some (tyJ9 k) := by decide +kernel
abbrev cJ9_floorDiv_7cf53 : ByteArray := prog_24_method_47_code
def yJ9_floorDiv_7cf53 : MethodName := ⟨RJ9, "floorDiv", "(II)I"⟩
abbrev cJ9_floorMod_7cf53 : ByteArray := prog_24_method_50_code
def yJ9_floorMod_7cf53 : MethodName := ⟨RJ9, "floorMod", "(II)I"⟩
abbrev cJ9_max_7cf53 : ByteArray := prog_24_method_65_code
def yJ9_max_7cf53 : MethodName := ⟨RJ9, "max", "(II)I"⟩
abbrev cJ9_min_7cf53 : ByteArray := prog_24_method_69_code
def yJ9_min_7cf53 : MethodName := ⟨RJ9, "min", "(II)I"⟩
def RJ10 : String := "java/lang/System"
def TJ10 : u_T := fun k => match k with
  | _ => ("", "", "", false)
def tyJ10 : Nat → FieldType := fun k => match k with
  | _ => .int
abbrev wsJ100 : List Cond := u_ws RJ10 TJ10 0
theorem nmJ10 : ∀ a, a < 0 → ∀ b, b < 0 → a ≠ b → (TJ10 a).2.1 ≠ (TJ10 b).2.1 := by decide +kernel
theorem tyJ10_ok : ∀ k, k < 0 → parseFieldDescriptor (TJ10 k).2.2.1 = some (tyJ10 k) := by decide +kernel
def RJxa1e45 : String := "java/util/AbstractCollection"
def TJxa1e45 : u_T := fun k => match k with
  | _ => ("", "", "", false)
def tyJxa1e45 : Nat → FieldType := fun k => match k with
  | _ => .int
abbrev wsJxa1e450 : List Cond := u_ws RJxa1e45 TJxa1e45 0
theorem nmJxa1e45 : ∀ a, a < 0 → ∀ b, b < 0 → a ≠ b → (TJxa1e45 a).2.1 ≠ (TJxa1e45 b).2.1 := by decide +kernel
theorem tyJxa1e45_ok : ∀ k, k < 0 → parseFieldDescriptor (TJxa1e45 k).2.2.1 = some (tyJxa1e45 k) := by decide +kernel
abbrev cJxa1e45_init_da8c8 : ByteArray := prog_28_method_1_code
def yJxa1e45_init_da8c8 : MethodName := ⟨RJxa1e45, "<init>", "()V"⟩
def RJxc12de : String := "java/util/AbstractList"
def TJxc12de : u_T := fun k => match k with
  | _ => ("", "", "", false)
def tyJxc12de : Nat → FieldType := fun k => match k with
  | _ => .int
abbrev wsJxc12de0 : List Cond := u_ws RJxc12de TJxc12de 0
theorem nmJxc12de : ∀ a, a < 0 → ∀ b, b < 0 → a ≠ b → (TJxc12de a).2.1 ≠ (TJxc12de b).2.1 := by decide +kernel
theorem tyJxc12de_ok : ∀ k, k < 0 → parseFieldDescriptor (TJxc12de k).2.2.1 = some (tyJxc12de k) := by decide +kernel
abbrev cJxc12de_init_da8c8 : ByteArray := prog_29_method_1_code
def yJxc12de_init_da8c8 : MethodName := ⟨RJxc12de, "<init>", "()V"⟩
def RJx4a65c : String := "java/util/ArrayList"
def TJx4a65c : u_T := fun k => match k with
  | 0 => ("java/util/AbstractList", "modCount", "I", false)
  | 1 => ("java/util/ArrayList", "elementData", "[Ljava/lang/Object;", false)
  | _ => ("java/util/ArrayList", "size", "I", false)
def tyJx4a65c : Nat → FieldType := fun k => match k with
  | 0 => .int
  | 1 => .array (.object "java/lang/Object")
  | _ => .int
abbrev wsJx4a65c0 : List Cond := u_ws RJx4a65c TJx4a65c 3
theorem nmJx4a65c : ∀ a, a < 3 → ∀ b, b < 3 → a ≠ b → (TJx4a65c a).2.1 ≠ (TJx4a65c b).2.1 := by decide +kernel
theorem tyJx4a65c_ok : ∀ k, k < 3 → parseFieldDescriptor (TJx4a65c k).2.2.1 = some (tyJx4a65c k) := by decide +kernel
abbrev cJx4a65c_init_da8c8 : ByteArray := prog_30_method_2_code
def yJx4a65c_init_da8c8 : MethodName := ⟨RJx4a65c, "<init>", "()V"⟩
abbrev cJx4a65c_grow_92f84 : ByteArray := prog_30_method_6_code
def yJx4a65c_grow_92f84 : MethodName := ⟨RJx4a65c, "grow", "(I)[Ljava/lang/Object;"⟩
abbrev cJx4a65c_grow_d5877 : ByteArray := prog_30_method_7_code
def yJx4a65c_grow_d5877 : MethodName := ⟨RJx4a65c, "grow", "()[Ljava/lang/Object;"⟩
abbrev cJx4a65c_size_8abf5 : ByteArray := prog_30_method_8_code
def yJx4a65c_size_8abf5 : MethodName := ⟨RJx4a65c, "size", "()I"⟩
abbrev cJx4a65c_elementData_915e3 : ByteArray := prog_30_method_18_code
def yJx4a65c_elementData_915e3 : MethodName := ⟨RJx4a65c, "elementData", "(I)Ljava/lang/Object;"⟩
abbrev cJx4a65c_get_915e3 : ByteArray := prog_30_method_20_code
def yJx4a65c_get_915e3 : MethodName := ⟨RJx4a65c, "get", "(I)Ljava/lang/Object;"⟩
abbrev cJx4a65c_add_72be8 : ByteArray := prog_30_method_24_code
def yJx4a65c_add_72be8 : MethodName := ⟨RJx4a65c, "add", "(Ljava/lang/Object;[Ljava/lang/Object;I)V"⟩
abbrev cJx4a65c_add_9ea2d : ByteArray := prog_30_method_25_code
def yJx4a65c_add_9ea2d : MethodName := ⟨RJx4a65c, "add", "(Ljava/lang/Object;)Z"⟩
def RJ7 : String := "java/util/Arrays"
def TJ7 : u_T := fun k => match k with
  | _ => ("", "", "", false)
def tyJ7 : Nat → FieldType := fun k => match k with
  | _ => .int
abbrev wsJ70 : List Cond := u_ws RJ7 TJ7 0
theorem nmJ7 : ∀ a, a < 0 → ∀ b, b < 0 → a ≠ b → (TJ7 a).2.1 ≠ (TJ7 b).2.1 := by decide +kernel
theorem tyJ7_ok : ∀ k, k < 0 → parseFieldDescriptor (TJ7 k).2.2.1 = some (tyJ7 k) := by decide +kernel
abbrev cJ7_copyOf_1904c : ByteArray := prog_31_method_119_code
def yJ7_copyOf_1904c : MethodName := ⟨RJ7, "copyOf", "([Ljava/lang/Object;I)[Ljava/lang/Object;"⟩
abbrev cJ7_copyOf_6403c : ByteArray := prog_31_method_120_code
def yJ7_copyOf_6403c : MethodName := ⟨RJ7, "copyOf", "([Ljava/lang/Object;ILjava/lang/Class;)[Ljava/lang/Object;"⟩
abbrev cJ7_copyOf_c38d5 : ByteArray := prog_31_method_124_code
def yJ7_copyOf_c38d5 : MethodName := ⟨RJ7, "copyOf", "([JI)[J"⟩
def RJx5ef63 : String := "java/util/Collection"
def TJx5ef63 : u_T := fun k => match k with
  | _ => ("", "", "", false)
def tyJx5ef63 : Nat → FieldType := fun k => match k with
  | _ => .int
abbrev wsJx5ef630 : List Cond := u_ws RJx5ef63 TJx5ef63 0
theorem nmJx5ef63 : ∀ a, a < 0 → ∀ b, b < 0 → a ≠ b → (TJx5ef63 a).2.1 ≠ (TJx5ef63 b).2.1 := by decide +kernel
theorem tyJx5ef63_ok : ∀ k, k < 0 → parseFieldDescriptor (TJx5ef63 k).2.2.1 = some (tyJx5ef63 k) := by decide +kernel
def RJxbd725 : String := "java/util/List"
def TJxbd725 : u_T := fun k => match k with
  | _ => ("", "", "", false)
def tyJxbd725 : Nat → FieldType := fun k => match k with
  | _ => .int
abbrev wsJxbd7250 : List Cond := u_ws RJxbd725 TJxbd725 0
theorem nmJxbd725 : ∀ a, a < 0 → ∀ b, b < 0 → a ≠ b → (TJxbd725 a).2.1 ≠ (TJxbd725 b).2.1 := by decide +kernel
theorem tyJxbd725_ok : ∀ k, k < 0 → parseFieldDescriptor (TJxbd725 k).2.2.1 = some (tyJxbd725 k) := by decide +kernel
def RJ15 : String := "java/util/Objects"
def TJ15 : u_T := fun k => match k with
  | _ => ("", "", "", false)
def tyJ15 : Nat → FieldType := fun k => match k with
  | _ => .int
abbrev wsJ150 : List Cond := u_ws RJ15 TJ15 0
theorem nmJ15 : ∀ a, a < 0 → ∀ b, b < 0 → a ≠ b → (TJ15 a).2.1 ≠ (TJ15 b).2.1 := by decide +kernel
theorem tyJ15_ok : ∀ k, k < 0 → parseFieldDescriptor (TJ15 k).2.2.1 = some (tyJ15 k) := by decide +kernel
abbrev cJ15_checkIndex_7cf53 : ByteArray := prog_34_method_17_code
def yJ15_checkIndex_7cf53 : MethodName := ⟨RJ15, "checkIndex", "(II)I"⟩
def RJxf0a74 : String := "java/util/RandomAccess"
def TJxf0a74 : u_T := fun k => match k with
  | _ => ("", "", "", false)
def tyJxf0a74 : Nat → FieldType := fun k => match k with
  | _ => .int
abbrev wsJxf0a740 : List Cond := u_ws RJxf0a74 TJxf0a74 0
theorem nmJxf0a74 : ∀ a, a < 0 → ∀ b, b < 0 → a ≠ b → (TJxf0a74 a).2.1 ≠ (TJxf0a74 b).2.1 := by decide +kernel
theorem tyJxf0a74_ok : ∀ k, k < 0 → parseFieldDescriptor (TJxf0a74 k).2.2.1 = some (tyJxf0a74 k) := by decide +kernel
def RJxa66e6 : String := "java/util/SequencedCollection"
def TJxa66e6 : u_T := fun k => match k with
  | _ => ("", "", "", false)
def tyJxa66e6 : Nat → FieldType := fun k => match k with
  | _ => .int
abbrev wsJxa66e60 : List Cond := u_ws RJxa66e6 TJxa66e6 0
theorem nmJxa66e6 : ∀ a, a < 0 → ∀ b, b < 0 → a ≠ b → (TJxa66e6 a).2.1 ≠ (TJxa66e6 b).2.1 := by decide +kernel
theorem tyJxa66e6_ok : ∀ k, k < 0 → parseFieldDescriptor (TJxa66e6 k).2.2.1 = some (tyJxa66e6 k) := by decide +kernel
def RJ8 : String := "jdk/internal/util/ArraysSupport"
def TJ8 : u_T := fun k => match k with
  | _ => ("", "", "", false)
def tyJ8 : Nat → FieldType := fun k => match k with
  | _ => .int
abbrev wsJ80 : List Cond := u_ws RJ8 TJ8 0
theorem nmJ8 : ∀ a, a < 0 → ∀ b, b < 0 → a ≠ b → (TJ8 a).2.1 ≠ (TJ8 b).2.1 := by decide +kernel
theorem tyJ8_ok : ∀ k, k < 0 → parseFieldDescriptor (TJ8 k).2.2.1 = some (tyJ8 k) := by decide +kernel
abbrev cJ8_newLength_cabcc : ByteArray := prog_37_method_27_code
def yJ8_newLength_cabcc : MethodName := ⟨RJ8, "newLength", "(III)I"⟩
abbrev cJ8_hugeLength_7cf53 : ByteArray := prog_37_method_28_code
def yJ8_hugeLength_7cf53 : MethodName := ⟨RJ8, "hugeLength", "(II)I"⟩
def RJ3 : String := "jdk/internal/util/Preconditions"
def TJ3 : u_T := fun k => match k with
  | _ => ("", "", "", false)
def tyJ3 : Nat → FieldType := fun k => match k with
  | _ => .int
abbrev wsJ30 : List Cond := u_ws RJ3 TJ3 0
theorem nmJ3 : ∀ a, a < 0 → ∀ b, b < 0 → a ≠ b → (TJ3 a).2.1 ≠ (TJ3 b).2.1 := by decide +kernel
theorem tyJ3_ok : ∀ k, k < 0 → parseFieldDescriptor (TJ3 k).2.2.1 = some (tyJ3 k) := by decide +kernel
abbrev cJ3_checkIndex_8e157 : ByteArray := prog_38_method_11_code
def yJ3_checkIndex_8e157 : MethodName := ⟨RJ3, "checkIndex", "(IILjava/util/function/BiFunction;)I"⟩
def RL : String := "WeirStreamLaw"
abbrev cL_below : ByteArray := method_2_code
def yL_below : MethodName := ⟨RL, "below", "(II)I"⟩
abbrev cL_cell : ByteArray := method_3_code
def yL_cell : MethodName := ⟨RL, "cell", "([II)I"⟩
abbrev cL_law : ByteArray := code
def yL_law : MethodName := ⟨RL, "law", "([I)Z"⟩
abbrev cL_offer : ByteArray := method_5_code
def yL_offer : MethodName := ⟨RL, "offer", "(LWeirStream;IIII)I"⟩
abbrev cL_add : ByteArray := method_6_code
def yL_add : MethodName := ⟨RL, "add", "(LWeirStream;II)V"⟩
abbrev cL_isSound : ByteArray := method_7_code
def yL_isSound : MethodName := ⟨RL, "isSound", "(LWeirStream;II)Z"⟩
abbrev vwCl : List vw_C := [(RJx4a65c, TJx4a65c, 3), (RX1, TX1, 3), (RX2, TX2, 8), (RX4, TX4, 2), (RX5, TX5, 15), (RX6, TX6, 2), (RX7, TX7, 2), (RX8, TX8, 12), (RX9, TX9, 11), (RX10, TX10, 5)]
end
section
/-! ===== one list of words for all methods; the context that every contract carries; calls and ends, packed ===== -/
def lw_all : List Cond := lw_tbl.filter goodWord
theorem lw_in {w : Cond} (h : w ∈ lw_tbl) (g : goodWord w = true) : w ∈ lw_all := List.mem_filter.mpr ⟨h, g⟩
theorem lw_tb {w : Cond} (h : w ∈ tables_1) : w ∈ lw_tbl := List.mem_append_right _ h
theorem lw_ps {w : Cond} (h : w ∈ k2_sels lw_privs) : w ∈ lw_tbl := List.mem_append_left _ h
theorem lw_all_tbl {w : Cond} (h : w ∈ lw_all) : w ∈ lw_tbl := (List.mem_filter.mp h).1
theorem lw_good {w : Cond} (h : w ∈ lw_all) : w ∈ lw_all ∧ ((w.onTables && w.keeps) = true ∨ ∃ ty, w = .arrayClass ty) := ⟨h, good_of_word (List.mem_filter.mp h).2⟩
abbrev ws_ (y : MethodName) (c : ByteArray) (n : Nat) (r : Option FieldType) : List Cond := Cond.code y c n r :: lw_all
theorem lw_C {w : Cond} (h : w ∈ lw_all) : GoodIn lw_all (w :: lw_all) := fun w' hw => (List.mem_cons.mp hw).elim (fun e => by rw [e]; exact lw_good h) (fun h' => lw_good h')
theorem lw_app {l : List Cond} {w : Cond} (hl : ∀ w' ∈ l, w' ∈ lw_all) (h : w ∈ lw_all) : GoodIn lw_all (l ++ (w :: lw_all)) := fun w' hw => (List.mem_append.mp hw).elim (fun h' => lw_good (hl w' h')) (fun h' => lw_C h w' h')
theorem lw_V {own C : String} {i : Nat} {y : MethodName} {w : Cond} (h1 : Cond.methodLink own i y ∈ lw_all) (h2 : Cond.instanceMethod y ∈ lw_all) (h3 : Cond.selects C y y ∈ lw_all) (h4 : Cond.initialized C ∈ lw_all) (h : w ∈ lw_all) : GoodIn lw_all (wsV own i C y (w :: lw_all)) :=
  lw_app (List.forall_mem_cons.mpr ⟨h1, List.forall_mem_cons.mpr ⟨h2, List.forall_mem_cons.mpr ⟨h3, List.forall_mem_cons.mpr ⟨h4, fun _ h => absurd h List.not_mem_nil⟩⟩⟩⟩) h
theorem lw_S {own : String} {i : Nat} {y : MethodName} {w : Cond} (h1 : Cond.methodLink own i y ∈ lw_all) (h2 : Cond.static y ∈ lw_all) (h3 : Cond.initialized y.cls ∈ lw_all) (h : w ∈ lw_all) : GoodIn lw_all (va_wsS own i y (w :: lw_all)) :=
  lw_app (List.forall_mem_cons.mpr ⟨h1, List.forall_mem_cons.mpr ⟨h2, List.forall_mem_cons.mpr ⟨h3, fun _ h => absurd h List.not_mem_nil⟩⟩⟩) h
-- the words that aren't good, but stay: nest mates' links, castable, declares, arrayOver
def zk_n (w : Cond) : Bool := match w with
  | .fieldLinkNest .. => true
  | .methodLinkNest .. => true
  | .castable .. => true
  | .declares _ => true
  | .arrayOver _ => true
  | _ => false
def zk_N (U : State) : Prop := ∀ w ∈ lw_tbl, zk_n w = true → w.before #[] U = true
theorem zk_over {ty : FieldType} {s U : State} (hW : s.WarmedH U.vm) (h : (Cond.arrayOver ty).before #[] s = true) : (Cond.arrayOver ty).before #[] U = true := by
  have h2 : (Cond.arrayOver ty).before #[] (s.setVm U.vm) = true := by rw [Cond.arrayOver_setVmC hW.alike ty]; exact h
  exact h2
theorem zk_N.warm {s U : State} (hW : s.WarmedH U.vm) (h : zk_N s) : zk_N U := by
  intro w hw hz
  have h0 := h w hw hz
  cases w with
  | fieldLinkNest a i b n d hh => exact va_Nw.warmF hW h0
  | methodLinkNest a i x hh => exact va_Nw.warmM hW h0
  | castable C T => exact va_Nw.warmC hW h0
  | declares x => exact va_Nw.warmD hW h0
  | arrayOver ty => exact zk_over hW h0
  | _ => exact (Bool.false_ne_true hz).elim
theorem zk_tab {w : Cond} (hw : w.onTables = true) {s : State} {A : Array Value} (h : w.before #[] s = true) : w.before A s = true := va_tabs hw rfl h
-- the array classes, by their places in yT
abbrev yT (y : Nat → ClassId) : List (ClassId × FieldType) := [(y 0, .int), (y 1, .long), (y 2, .object "java/lang/Object")]
theorem zk_same {D : va_G} {cl : List vw_C} {tys : List (ClassId × FieldType)} {U : State} {c1 c2 : ClassId} {ty : FieldType} (h : va_K D cl tys U) (i j : Nat) (hi : tys[i]? = some (c1, ty)) (hj : tys[j]? = some (c2, ty)) : c1 = c2 := by
  have h1 := (h.2 i _ hi).2
  have h2 := (h.2 j _ hj).2
  cases ty with
  | object C =>
    obtain ⟨_, _, _, _, _, e1⟩ := h1
    obtain ⟨_, _, _, _, _, e2⟩ := h2
    exact Option.some.inj (e1.symm.trans e2)
  | _ =>
    have e1 : U.vm.findClass _ = some c1 := h1
    have e2 : U.vm.findClass _ = some c2 := h2
    exact Option.some.inj (e1.symm.trans e2)
/-- what every contract knows of its start: the classes, the words that stay, the empty lists' shared array; A: what the method may change -/
def CX (D : va_G) (y : Nat → ClassId) (e0 : Nat) (A : Nat → Prop) (U : State) : Prop :=
  va_K D vwCl (yT y) U ∧ zk_N U ∧ va_Z "java/util/ArrayList" "DEFAULTCAPACITY_EMPTY_ELEMENTDATA" "[Ljava/lang/Object;" (.ref e0) A U U.heap ∧ va_T (.object "java/lang/Object") e0 0 (fun _ => .null) A U U.heap
theorem CX.go {D : va_G} {y : Nat → ClassId} {e0 : Nat} {A B : Nat → Prop} {s U : State} {H : Heap} {locs : List Loc} (h : CX D y e0 A s) (hS : va_S A s.heap H locs) (hB : ∀ q, B q → A q) (hU : U.heap = H) (hW : s.WarmedH U.vm) : CX D y e0 B U := by
  obtain ⟨h1, h2, h6, h7⟩ := h
  rw [← hU] at hS
  refine ⟨va_K.moved hW.alike h1, zk_N.warm hW h2, ?_, ?_⟩
  · exact ((h6.kept hS.2.1).moved hW.alike).narrow hB
  · exact ((h7.kept hS.2.1).moved hW.alike).narrow hB
theorem CX.calling {D : va_G} {y : Nat → ClassId} {e0 : Nat} {A : Nat → Prop} {U : State} (g : JFrame) (mk : MethodId) (a : Array Value) (h : CX D y e0 A U) : CX D y e0 A (U.calling g mk a) := by
  have hv : (U.calling g mk a).vm = U.vm := rfl
  have hW : U.WarmedH (U.calling g mk a).vm := by rw [hv]; exact State.WarmedH.refl U
  have hU : (U.calling g mk a).heap = U.heap := rfl
  exact h.go (H := U.heap) (locs := []) va_S.rf (fun _ h => h) hU hW
theorem CX.narrow {D : va_G} {y : Nat → ClassId} {e0 : Nat} {A B : Nat → Prop} {U : State} (hB : ∀ q, B q → A q) (h : CX D y e0 A U) : CX D y e0 B U := by
  obtain ⟨h1, h2, h6, h7⟩ := h
  exact ⟨h1, h2, h6.narrow hB, h7.narrow hB⟩
/-- a contract's start: the arguments, the world ws, the context -/
def PR (D : va_G) (y : Nat → ClassId) (e0 : Nat) (ws : va_W) (sz : Nat) (av : List Value) : Array Value → State → Prop := va_Pc av (fun U => U.heap.size = sz ∧ va_P D vwCl ws U.heap ∧ va_D (fun _ => True) ws ∧ CX D y e0 (va_A ws sz) U)
theorem PR.blind {D : va_G} {y : Nat → ClassId} {e0 : Nat} {ws : va_W} {sz : Nat} {av : List Value} : FrameBlind (PR D y e0 ws sz av) := fun a U g mk q => by
  obtain ⟨q0, q1, qP, qD, qC⟩ := q
  exact ⟨q0, q1, qP, qD, CX.calling g mk a qC⟩
/-- the world behind a method; u: the cells that it made -/
abbrev WD (D : va_G) (A : Nat → Prop) (w : (Nat → Nat → Nat) → va_W) (u : Nat → Nat → Nat) (t : State) : Prop := va_P D vwCl (w u) t.heap ∧ va_D A (w u)
theorem zk_sub {D : va_G} {cl : List vw_C} {ws wc : va_W} {H : Heap} (h : va_P D cl ws H) (is : List Nat) (hs : is.map (fun i => ws[i]?) = wc.map some) : va_P D cl wc H := by
  intro k q hk
  have h1 : (is.map (fun i => ws[i]?))[k]? = some (some q) := by rw [hs, List.getElem?_map, hk]; rfl
  rw [List.getElem?_map] at h1
  cases hi : is[k]? with
  | none => rw [hi] at h1; cases h1
  | some i => rw [hi] at h1; exact h i q (Option.some.inj h1)
section ZKC
variable {p : Program} {l : Launch} {e : Env} {R : Room} {s : State} {m : MethodId} {args : Array Value} {below : List Frame} {meth : Method} {c : Code} {H : Heap} {locs : List Loc} {cells slots : Nat} {Q : State → Prop}
variable {D : va_G} {y : Nat → ClassId} {e0 : Nat} {A : Nat → Prop} {ws wc wr : va_W} {As rest st0 : List Value} {mc ms pc : Nat} {ls : Array Slot} {a : Array Value}
theorem zk_pS (hC : CX D y e0 A s) (hP : va_P D vwCl ws H) (hD : va_D A ws) (hS : va_S A s.heap H locs) (hA : ∀ q, s.heap.size ≤ q → A q) (is : List Nat) (hc : is.map (fun i => ws[i]?) = wc.map some) (hn : va_nd is = true) : PreS s H (PR D y e0 wc H.size As) As :=
  ⟨PR.blind, fun U hU hW => ⟨rfl, by rw [hU], by rw [hU]; exact zk_sub hP is hc, (hD.sub is hn hc).weaken (fun _ _ _ _ => trivial), hC.go hS (va_free hD hS hA is hc) hU hW⟩⟩
theorem zk_pV {C : String} {b : Addr} (hC : CX D y e0 A s) (hP : va_P D vwCl ws H) (hD : va_D A ws) (hS : va_S A s.heap H locs) (hA : ∀ q, s.heap.size ≤ q → A q) (is : List Nat) (hc : is.map (fun i => ws[i]?) = wc.map some) (hn : va_nd is = true) (q0 ci : Nat) {fs : List Value} {T : u_T} {N : Nat} (he : ws[q0]? = some (b, .inr (ci, fs))) (hci : vwCl[ci]? = some (C, T, N)) : PreV s H C b (PR D y e0 wc H.size (.ref b :: As)) As :=
  ⟨PR.blind, va_recv hC.1 hP hci he, fun U hU hW => ⟨rfl, by rw [hU], by rw [hU]; exact zk_sub hP is hc, (hD.sub is hn hc).weaken (fun _ _ _ _ => trivial), hC.go hS (va_free hD hS hA is hc) hU hW⟩⟩
/-- the worlds put together behind a call -/
theorem zk_jn {w1 : va_W} {H1 : Heap} (hP : va_P D vwCl ws H) (hD : va_D A ws) (hS : va_S A s.heap H locs) (hA : ∀ q, s.heap.size ≤ q → A q) (is js : List Nat) (hc : is.map (fun i => ws[i]?) = wc.map some) (hr : js.map (fun i => ws[i]?) = wr.map some) (hn : va_nd js = true) (hdis : ∀ i ∈ js, i ∉ is)
    (hk : ∀ q : Nat, q < H.size → ¬ va_A wc H.size q → H1[q]? = H[q]?) (hP1 : va_P D vwCl w1 H1) (hD1 : va_D (va_A wc H.size) w1) : va_P D vwCl (wr ++ w1) H1 ∧ va_D A (wr ++ w1) :=
  va_join hP hD is js hc hr hn hdis hk (va_free hD hS hA is hc) hP1 hD1
theorem zk_i {r0 : (Nat → Nat → Nat) → Int32} {w1 : (Nat → Nat → Nat) → va_W} (hr : va_Run p l e R s m args below meth c H locs cells slots mc ms (F0 m pc ls st0) rest (va_Qi (fun r u => r = r0 u) (WD D (va_A wc H.size) w1) (va_A wc H.size) a) (va_A wc H.size))
    (hP : va_P D vwCl ws H) (hD : va_D A ws) (hS : va_S A s.heap H locs) (hA : ∀ q, s.heap.size ≤ q → A q) (is js : List Nat) (hc : is.map (fun i => ws[i]?) = wc.map some) (hj : js.map (fun i => ws[i]?) = wr.map some) (hn : va_nd js = true) (hdis : ∀ i ∈ js, i ∉ is)
    (kk : ∀ (u : Nat → Nat → Nat) (H1 : Heap) (locs1 : List Loc), va_P D vwCl (wr ++ w1 u) H1 → va_D A (wr ++ w1 u) → va_S A s.heap H1 locs1 → W p l e R s m args below meth c H1 locs1 (cells + mc) (slots + ms) Q (F0 m (pc + 3) ls (.int (r0 u) :: rest))) : W p l e R s m args below meth c H locs cells slots Q (F0 m pc ls st0) := by
  have hF := va_free hD hS hA is hc
  refine va_calli hr hS (fun q _ h => hF q h) hF (fun r u t H1 locs1 ht hvm hw hB hz1 hk1 hS1 => ?_)
  obtain ⟨hP1, hD1⟩ := hB
  rw [ht] at hP1
  obtain ⟨h1, h2⟩ := zk_jn hP hD hS hA is js hc hj hn hdis hk1 hP1 hD1
  rw [show r = r0 u from hw]
  exact kk u H1 locs1 h1 h2 hS1
theorem zk_l {r0 : (Nat → Nat → Nat) → Int64} {w1 : (Nat → Nat → Nat) → va_W} (hr : va_Run p l e R s m args below meth c H locs cells slots mc ms (F0 m pc ls st0) rest (va_Ql (fun r u => r = r0 u) (WD D (va_A wc H.size) w1) (va_A wc H.size) a) (va_A wc H.size))
    (hP : va_P D vwCl ws H) (hD : va_D A ws) (hS : va_S A s.heap H locs) (hA : ∀ q, s.heap.size ≤ q → A q) (is js : List Nat) (hc : is.map (fun i => ws[i]?) = wc.map some) (hj : js.map (fun i => ws[i]?) = wr.map some) (hn : va_nd js = true) (hdis : ∀ i ∈ js, i ∉ is)
    (kk : ∀ (u : Nat → Nat → Nat) (H1 : Heap) (locs1 : List Loc), va_P D vwCl (wr ++ w1 u) H1 → va_D A (wr ++ w1 u) → va_S A s.heap H1 locs1 → W p l e R s m args below meth c H1 locs1 (cells + mc) (slots + ms) Q (F0 m (pc + 3) ls (.long (r0 u) :: rest))) : W p l e R s m args below meth c H locs cells slots Q (F0 m pc ls st0) := by
  have hF := va_free hD hS hA is hc
  refine va_calll hr hS (fun q _ h => hF q h) hF (fun r u t H1 locs1 ht hvm hw hB hz1 hk1 hS1 => ?_)
  obtain ⟨hP1, hD1⟩ := hB
  rw [ht] at hP1
  obtain ⟨h1, h2⟩ := zk_jn hP hD hS hA is js hc hj hn hdis hk1 hP1 hD1
  rw [show r = r0 u from hw]
  exact kk u H1 locs1 h1 h2 hS1
theorem zk_d {r0 : (Nat → Nat → Nat) → UInt64} {w1 : (Nat → Nat → Nat) → va_W} (hr : va_Run p l e R s m args below meth c H locs cells slots mc ms (F0 m pc ls st0) rest (va_Qd (fun r u => r = r0 u) (WD D (va_A wc H.size) w1) (va_A wc H.size) a) (va_A wc H.size))
    (hP : va_P D vwCl ws H) (hD : va_D A ws) (hS : va_S A s.heap H locs) (hA : ∀ q, s.heap.size ≤ q → A q) (is js : List Nat) (hc : is.map (fun i => ws[i]?) = wc.map some) (hj : js.map (fun i => ws[i]?) = wr.map some) (hn : va_nd js = true) (hdis : ∀ i ∈ js, i ∉ is)
    (kk : ∀ (u : Nat → Nat → Nat) (H1 : Heap) (locs1 : List Loc), va_P D vwCl (wr ++ w1 u) H1 → va_D A (wr ++ w1 u) → va_S A s.heap H1 locs1 → W p l e R s m args below meth c H1 locs1 (cells + mc) (slots + ms) Q (F0 m (pc + 3) ls (.double (r0 u) :: rest))) : W p l e R s m args below meth c H locs cells slots Q (F0 m pc ls st0) := by
  have hF := va_free hD hS hA is hc
  refine va_calld hr hS (fun q _ h => hF q h) hF (fun r u t H1 locs1 ht hvm hw hB hz1 hk1 hS1 => ?_)
  obtain ⟨hP1, hD1⟩ := hB
  rw [ht] at hP1
  obtain ⟨h1, h2⟩ := zk_jn hP hD hS hA is js hc hj hn hdis hk1 hP1 hD1
  rw [show r = r0 u from hw]
  exact kk u H1 locs1 h1 h2 hS1
theorem zk_q {r0 : (Nat → Nat → Nat) → Option Nat} {w1 : (Nat → Nat → Nat) → va_W} (hr : va_Run p l e R s m args below meth c H locs cells slots mc ms (F0 m pc ls st0) rest (va_Qq (fun r u => r = r0 u) (WD D (va_A wc H.size) w1) (va_A wc H.size) a) (va_A wc H.size))
    (hP : va_P D vwCl ws H) (hD : va_D A ws) (hS : va_S A s.heap H locs) (hA : ∀ q, s.heap.size ≤ q → A q) (is js : List Nat) (hc : is.map (fun i => ws[i]?) = wc.map some) (hj : js.map (fun i => ws[i]?) = wr.map some) (hn : va_nd js = true) (hdis : ∀ i ∈ js, i ∉ is)
    (kk : ∀ (u : Nat → Nat → Nat) (H1 : Heap) (locs1 : List Loc), va_P D vwCl (wr ++ w1 u) H1 → va_D A (wr ++ w1 u) → va_S A s.heap H1 locs1 → W p l e R s m args below meth c H1 locs1 (cells + mc) (slots + ms) Q (F0 m (pc + 3) ls (va_rf (r0 u) :: rest))) : W p l e R s m args below meth c H locs cells slots Q (F0 m pc ls st0) := by
  have hF := va_free hD hS hA is hc
  refine va_callq hr hS (fun q _ h => hF q h) hF (fun r u t H1 locs1 ht hvm hw hB hz1 hk1 hS1 => ?_)
  obtain ⟨hP1, hD1⟩ := hB
  rw [ht] at hP1
  obtain ⟨h1, h2⟩ := zk_jn hP hD hS hA is js hc hj hn hdis hk1 hP1 hD1
  rw [show r = r0 u from hw]
  exact kk u H1 locs1 h1 h2 hS1
theorem zk_v {w1 : (Nat → Nat → Nat) → va_W} (hr : va_Run p l e R s m args below meth c H locs cells slots mc ms (F0 m pc ls st0) rest (va_Qv (fun _ => True) (WD D (va_A wc H.size) w1) (va_A wc H.size) a) (va_A wc H.size))
    (hP : va_P D vwCl ws H) (hD : va_D A ws) (hS : va_S A s.heap H locs) (hA : ∀ q, s.heap.size ≤ q → A q) (is js : List Nat) (hc : is.map (fun i => ws[i]?) = wc.map some) (hj : js.map (fun i => ws[i]?) = wr.map some) (hn : va_nd js = true) (hdis : ∀ i ∈ js, i ∉ is)
    (kk : ∀ (u : Nat → Nat → Nat) (H1 : Heap) (locs1 : List Loc), va_P D vwCl (wr ++ w1 u) H1 → va_D A (wr ++ w1 u) → va_S A s.heap H1 locs1 → W p l e R s m args below meth c H1 locs1 (cells + mc) (slots + ms) Q (F0 m (pc + 3) ls rest)) : W p l e R s m args below meth c H locs cells slots Q (F0 m pc ls st0) := by
  have hF := va_free hD hS hA is hc
  refine va_callv hr hS (fun q _ h => hF q h) hF (fun u t H1 locs1 ht hvm hw hB hz1 hk1 hS1 => ?_)
  obtain ⟨hP1, hD1⟩ := hB
  rw [ht] at hP1
  obtain ⟨h1, h2⟩ := zk_jn hP hD hS hA is js hc hj hn hdis hk1 hP1 hD1
  exact kk u H1 locs1 h1 h2 hS1
-- known numbers on top of the stack
theorem zk_ti {x y : Int32} (h : x = y) (k : W p l e R s m args below meth c H locs cells slots Q (F0 m pc ls (.int y :: rest))) : W p l e R s m args below meth c H locs cells slots Q (F0 m pc ls (.int x :: rest)) := by rw [h]; exact k
theorem zk_tl {x y : Int64} (h : x = y) (k : W p l e R s m args below meth c H locs cells slots Q (F0 m pc ls (.long y :: rest))) : W p l e R s m args below meth c H locs cells slots Q (F0 m pc ls (.long x :: rest)) := by rw [h]; exact k
theorem zk_tv {x y : Value} (h : x = y) (k : W p l e R s m args below meth c H locs cells slots Q (F0 m pc ls (y :: rest))) : W p l e R s m args below meth c H locs cells slots Q (F0 m pc ls (x :: rest)) := by rw [h]; exact k
-- ends
theorem zk_ri {cc : ByteArray} {r0 : (Nat → Nat → Nat) → Int32} {w1 : (Nat → Nat → Nat) → va_W} {v : Int32} {ty : FieldType} (hx : p.tables.exec = Jvm.exec) (hb : c.code = cc) (hr : meth.sig.returnType = some ty) (hlocks : meth.locks = false) (hP : va_P D vwCl ws H) (hD : va_D A ws) (hS : va_S A s.heap H locs) (u : Nat → Nat → Nat) (hn0 : narrow ty (.int v) = .int v) (hv : v = r0 u) (is : List Nat) (hs : is.map (fun i => ws[i]?) = (w1 u).map some) (hn : va_nd is = true) (h1 : cells ≤ mc) (h2 : slots ≤ ms) (hdg : decode cc pc = .ok (.ireturn, 1)) :
    W p l e R s m args below meth c H locs cells slots (MQ below (va_Qi (fun r u => r = r0 u) (WD D A w1) A) args s mc ms A) (F0 m pc ls [.int v]) :=
  W.widen h1 h2 (W.zret hx hb hr hn0 (fun t ht hW => ⟨⟨v, u, rfl, hv, by rw [ht]; exact zk_sub hP is hs, hD.sub is hn hs⟩, hS.F ht⟩) hS.2.2 hdg hlocks)
theorem zk_rl {cc : ByteArray} {r0 : (Nat → Nat → Nat) → Int64} {w1 : (Nat → Nat → Nat) → va_W} {v : Int64} (hx : p.tables.exec = Jvm.exec) (hb : c.code = cc) (hr : meth.sig.returnType = some .long) (hlocks : meth.locks = false) (hP : va_P D vwCl ws H) (hD : va_D A ws) (hS : va_S A s.heap H locs) (u : Nat → Nat → Nat) (hv : v = r0 u) (is : List Nat) (hs : is.map (fun i => ws[i]?) = (w1 u).map some) (hn : va_nd is = true) (h1 : cells ≤ mc) (h2 : slots ≤ ms) (hdg : decode cc pc = .ok (.lreturn, 1)) :
    W p l e R s m args below meth c H locs cells slots (MQ below (va_Ql (fun r u => r = r0 u) (WD D A w1) A) args s mc ms A) (F0 m pc ls [.long v]) :=
  W.widen h1 h2 (W.lret hx hb hr (fun t ht hW => ⟨⟨v, u, rfl, hv, by rw [ht]; exact zk_sub hP is hs, hD.sub is hn hs⟩, hS.F ht⟩) hS.2.2 hdg hlocks)
theorem zk_rd {cc : ByteArray} {r0 : (Nat → Nat → Nat) → UInt64} {w1 : (Nat → Nat → Nat) → va_W} {v : UInt64} (hx : p.tables.exec = Jvm.exec) (hb : c.code = cc) (hr : meth.sig.returnType = some .double) (hlocks : meth.locks = false) (hP : va_P D vwCl ws H) (hD : va_D A ws) (hS : va_S A s.heap H locs) (u : Nat → Nat → Nat) (hv : v = r0 u) (is : List Nat) (hs : is.map (fun i => ws[i]?) = (w1 u).map some) (hn : va_nd is = true) (h1 : cells ≤ mc) (h2 : slots ≤ ms) (hdg : decode cc pc = .ok (.dreturn, 1)) :
    W p l e R s m args below meth c H locs cells slots (MQ below (va_Qd (fun r u => r = r0 u) (WD D A w1) A) args s mc ms A) (F0 m pc ls [.double v]) :=
  W.widen h1 h2 (W.dret hx hb hr (fun t ht hW => ⟨⟨v, u, rfl, hv, by rw [ht]; exact zk_sub hP is hs, hD.sub is hn hs⟩, hS.F ht⟩) hS.2.2 hdg hlocks)
theorem zk_rq {cc : ByteArray} {r0 : (Nat → Nat → Nat) → Option Nat} {w1 : (Nat → Nat → Nat) → va_W} {v : Value} {ty : FieldType} (hx : p.tables.exec = Jvm.exec) (hb : c.code = cc) (hr : meth.sig.returnType = some ty) (hty : (∃ n, ty = .object n) ∨ ∃ t, ty = .array t) (hlocks : meth.locks = false) (hP : va_P D vwCl ws H) (hD : va_D A ws) (hS : va_S A s.heap H locs) (u : Nat → Nat → Nat) (hv : v = va_rf (r0 u)) (is : List Nat) (hs : is.map (fun i => ws[i]?) = (w1 u).map some) (hn : va_nd is = true) (h1 : cells ≤ mc) (h2 : slots ≤ ms) (hdg : decode cc pc = .ok (.areturn, 1)) :
    W p l e R s m args below meth c H locs cells slots (MQ below (va_Qq (fun r u => r = r0 u) (WD D A w1) A) args s mc ms A) (F0 m pc ls [v]) :=
  W.widen h1 h2 (W.aret hx hb hr hty (by rw [hv]; cases r0 u with | none => exact Or.inl rfl | some z => exact Or.inr ⟨z, rfl⟩) (fun t ht hW => ⟨⟨r0 u, u, by rw [hv], rfl, by rw [ht]; exact zk_sub hP is hs, hD.sub is hn hs⟩, hS.F ht⟩) hS.2.2 hdg hlocks)
theorem zk_rv {cc : ByteArray} {w1 : (Nat → Nat → Nat) → va_W} (hx : p.tables.exec = Jvm.exec) (hb : c.code = cc) (hr : meth.sig.returnType = none) (hlocks : meth.locks = false) (hP : va_P D vwCl ws H) (hD : va_D A ws) (hS : va_S A s.heap H locs) (u : Nat → Nat → Nat) (is : List Nat) (hs : is.map (fun i => ws[i]?) = (w1 u).map some) (hn : va_nd is = true) (h1 : cells ≤ mc) (h2 : slots ≤ ms) (hdg : decode cc pc = .ok (.return_, 1)) :
    W p l e R s m args below meth c H locs cells slots (MQ below (va_Qv (fun _ => True) (WD D A w1) A) args s mc ms A) (F0 m pc ls []) :=
  W.widen h1 h2 (W.vret hx hb hr (fun t ht hW => ⟨⟨u, rfl, trivial, by rw [ht]; exact zk_sub hP is hs, hD.sub is hn hs⟩, hS.F ht⟩) hS.2.2 hdg hlocks)
end ZKC
/-- a contract from the walk of its body -/
theorem zk_M {l : Launch} {y : MethodName} {cc : ByteArray} {maxL : Nat} {ret : Option FieldType} {rm : Room} {D : va_G} {yc : Nat → ClassId} {e0 sz : Nat} {w : va_W} {av : List Value} {Qc : (Nat → Prop) → Array Value → State → Outcome → State → Prop} {mc ms : Nat} (hy : plainName y.cls = true) (hav : (lg_sl av).length ≤ maxL)
    (body : ∀ (p : Program) (e : Env) (s : State) (m : MethodId) (args : Array Value) (below : List Frame) (meth : Method) (c : Code) (A : Nat → Prop) (ls : Array Slot), p.tables.exec = Jvm.exec → c.code = cc → c.maxLocals = maxL → meth.sig.returnType = ret → meth.locks = false → s.vm.findClass y.cls = some m.cls → meth.name = y.name → (∀ w ∈ lw_all, w.before args s = true) → va_P D vwCl w s.heap → va_D A w → va_S A s.heap s.heap [] → (∀ q, s.heap.size ≤ q → A q) → CX D yc e0 A s → lv_has ls maxL (lv_args 0 av) →
      W p l e rm s m args below meth c s.heap [] 0 0 (MQ below (Qc A) args s mc ms A) (F0 m 0 ls [])) :
    Met l y (ws_ y cc maxL ret) rm (PR D yc e0 w sz av) (Qc (va_A w sz)) mc ms (va_A w sz) := by
  refine Met.ofW (cc := cc) (maxL := maxL) (ret := ret) hy rfl ?_
  intro p e s m args below meth c s₁ B hml hv
  obtain ⟨rfl, hsz, hP, hD0, hC⟩ := hv
  subst hsz
  have hts := atoms_spec (ws := ws_ y cc maxL ret) B.pre
  rw [lg_entry_eq]
  exact body p e s m _ below meth c _ _ B.exec B.bytes hml B.returns B.notSynchronized (findClass_of_methodNamed B.named) (name_of_methodNamed B.named B.method).1 (fun w h => hts w (List.mem_cons_of_mem _ h)) hP (hD0.self) va_S.rf (fun q h => Or.inr h) hC (lv_entry av hav)
end
section
/-! ===== how many slots a heap has; what a walk knows of its heap ===== -/
def zh (H : Heap) : Nat := (H.toList.map (fun c => c.slots.size)).sum
theorem zh_split {B C : Heap} (hz : B.size ≤ C.size) (h : ∀ (a : Nat) (c : Cell), B[a]? = some c → ∃ c' : Cell, C[a]? = some c' ∧ c'.slots.size = c.slots.size) : zh C = zh B + ((C.toList.drop B.size).map (fun c => c.slots.size)).sum := by
  have e : (C.toList.take B.size).map (fun c => c.slots.size) = B.toList.map (fun c => c.slots.size) := by
    apply List.ext_getElem?
    intro i
    rw [List.getElem?_map, List.getElem?_map, List.getElem?_take]
    by_cases hi : i < B.size
    · rw [if_pos hi]
      have h1 : B[i]? = some B[i] := Array.getElem?_eq_getElem hi
      obtain ⟨c', h2, h3⟩ := h i _ h1
      rw [Array.getElem?_toList, Array.getElem?_toList, h1, h2]
      simp [h3]
    · rw [if_neg hi, Array.getElem?_toList, Array.getElem?_eq_none (by omega)]
  unfold zh
  rw [← e, ← List.sum_append, ← List.map_append, List.take_append_drop]
theorem zh_same {B C : Heap} (hz : C.size = B.size) (h : ∀ (a : Nat) (c : Cell), B[a]? = some c → ∃ c' : Cell, C[a]? = some c' ∧ c'.slots.size = c.slots.size) : zh C = zh B := by
  rw [zh_split (B := B) (C := C) (by omega) h]
  have : C.toList.drop B.size = [] := List.drop_eq_nil_of_le (by rw [Array.length_toList]; omega)
  rw [this]
  rfl
theorem zh_set {B C : Heap} {a i : Nat} {v : Value} {cell : Cell} (h0 : B[a]? = some cell) (e1 : C[a]? = some (cell.setSlot i v)) (hz : C.size = B.size) (e3 : ∀ q : Nat, q ≠ a → C[q]? = B[q]?) : zh C = zh B := by
  refine zh_same hz (fun b c hb => ?_)
  by_cases h : b = a
  · subst h
    have : c = cell := Option.some.inj (hb.symm.trans h0)
    subst this
    exact ⟨_, e1, by simp [Cell.setSlot]⟩
  · exact ⟨c, by rw [e3 b h]; exact hb, rfl⟩
section ZW
variable {p : Program} {l : Launch} {e : Env} {R : Room} {s : State} {m : MethodId} {args : Array Value} {below : List Frame} {meth : Method} {c : Code} {H : Heap} {locs : List Loc} {cells slots : Nat} {Q : State → Prop}
theorem zw_sum {T : State} (X : Stand p l e R s m args below meth c T locs cells slots) : zh T.heap = zh s.heap + ((T.heap.toList.drop s.heap.size).map (fun c => c.slots.size)).sum :=
  zh_split (B := s.heap) (C := T.heap) X.same.2.1 (fun a c h => by obtain ⟨c', h1, h2, h3, h4⟩ := X.same.2.2.2.2.2 a c h; exact ⟨c', h1, h3⟩)
theorem W.know {g : JFrame} (k : H.size ≤ s.heap.size + cells → s.heap.size ≤ H.size → zh H ≤ zh s.heap + slots → zh s.heap ≤ zh H → W p l e R s m args below meth c H locs cells slots Q g) : W p l e R s m args below meth c H locs cells slots Q g := by
  intro T hT X
  have h1 : T.heap.size ≤ s.heap.size + cells := X.same.2.2.1
  have h2 : s.heap.size ≤ T.heap.size := X.same.2.1
  have h3 := zw_sum X
  have h4 : ((T.heap.toList.drop s.heap.size).map (fun c => c.slots.size)).sum ≤ slots := X.same.2.2.2.2.1
  rw [hT] at h1 h2 h3 h4
  exact k h1 h2 (by omega) (by omega) T hT X
theorem W.tight {g : JFrame} {c1 n1 : Nat} (h1 : H.size ≤ s.heap.size + c1) (h2 : zh H ≤ zh s.heap + n1) (k : W p l e R s m args below meth c H locs c1 n1 Q g) : W p l e R s m args below meth c H locs cells slots Q g := by
  intro T hT X
  have h3 := zw_sum X
  rw [hT] at h3
  refine k T hT { X with same := ⟨X.same.1, X.same.2.1, ?_, X.same.2.2.2.1, ?_, X.same.2.2.2.2.2⟩ }
  · show T.heap.size ≤ s.heap.size + c1
    rw [hT]; exact h1
  · show ((T.heap.toList.drop s.heap.size).map (fun c => c.slots.size)).sum ≤ n1
    rw [hT]; omega
end ZW
/-- a contract from others, chosen by the state -/
theorem Met.conv {l : Launch} {y : MethodName} {ws : List Cond} {rm : Room} {Pc' : Array Value → State → Prop} {Qc' : Array Value → State → Outcome → State → Prop} {mc ms : Nat} {free' : Addr → Prop}
    (h : ∀ args s, Pc' args s → ∃ (Pc : Array Value → State → Prop) (Qc : Array Value → State → Outcome → State → Prop) (free : Addr → Prop), Met l y ws rm Pc Qc mc ms free ∧ Pc args s ∧ (∀ q, free q → free' q) ∧ ∀ o t, Qc args s o t → t.heap.size ≤ s.heap.size + mc → zh t.heap ≤ zh s.heap + ms → (∀ q : Nat, q < s.heap.size → ¬ free q → t.heap[q]? = s.heap[q]?) → Qc' args s o t) : Met l y ws rm Pc' Qc' mc ms free' := by
  intro p e ha hc hk s m args below hf happ hP hK
  obtain ⟨Pc, Qc, free, hM, hp, hfr, hq⟩ := h args s hP
  obtain ⟨n, o, h1, h2, h3, h4, L, h5, h6⟩ := hM p e ha hc hk s m args below hf happ hp hK
  have hs := h5.2.2
  have e0 := zh_split (B := s.heap) (C := (stepsAlone p.tables e n s).heap) hs.2.1 (fun a c h => by obtain ⟨c', g1, g2, g3, g4⟩ := hs.2.2.2.2.2 a c h; exact ⟨c', g1, g3⟩)
  have e1 : (((stepsAlone p.tables e n s).heap.toList.drop s.heap.size).map (fun c => c.slots.size)).sum ≤ ms := hs.2.2.2.2.1
  refine ⟨n, o, h1, h2, h3, hq o _ h4 hs.2.2.1 (by omega) ?_, L, h5, fun q hq => hfr _ (h6 q hq)⟩
  intro q hq1 hq2
  have h9 : s.heap[q]? = some s.heap[q] := Array.getElem?_eq_getElem hq1
  obtain ⟨c', g1, g2, g3, g4⟩ := hs.2.2.2.2.2 q _ h9
  have g1' : (stepsAlone p.tables e n s).heap[q]? = some c' := g1
  rw [g1', h9, g2]
  have : c'.slots = s.heap[q].slots := by
    apply Array.ext_getElem?
    intro i
    exact g4 i (fun hm => hq2 (h6 _ hm))
  rw [this]
/-! ===== methods that write nothing ===== -/
def zQ (v : Option Value) : Array Value → State → Outcome → State → Prop := fun _ st oc t => oc = .returned v ∧ t.heap = st.heap
abbrev zno : Addr → Prop := fun _ => False
section ZR
variable {p : Program} {l : Launch} {e : Env} {R : Room} {s : State} {m : MethodId} {args : Array Value} {below : List Frame} {meth : Method} {c : Code} {H : Heap} {locs : List Loc} {cells slots : Nat} {Q : State → Prop}
variable {pc : Nat} {ls : Array Slot} {rest st0 : List Value} {a : Array Value} {cc : ByteArray}
theorem zr_c {v : Option Value} (hr : va_Run p l e R s m args below meth c H locs cells slots 0 0 (F0 m pc ls st0) rest (zQ v a) zno) (kk : W p l e R s m args below meth c H locs cells slots Q (F0 m (pc + 3) ls (v.toList ++ rest))) : W p l e R s m args below meth c H locs cells slots Q (F0 m pc ls st0) := by
  intro T hT X
  obtain ⟨v', st₀, t, T', L, h0, X', hL, e1, e2, ⟨hv, hh⟩, st⟩ := hr T hT X
  have hv' : v' = v := Outcome.returned.inj hv
  subst hv'
  have hL0 : L = [] := by
    cases L with
    | nil => rfl
    | cons q L => exact (hL q List.mem_cons_self).elim
  subst hL0
  have hX : Stand p l e R s m args below meth c T' locs cells slots := by
    have h := X'
    rw [List.append_nil, Nat.add_zero, Nat.add_zero] at h
    exact h
  obtain ⟨t2, a1, b1⟩ := kk T' (by rw [e1, hh, h0]) hX
  exact ⟨t2, st t2 a1, b1⟩
theorem zr_i {v : Int32} (hr : va_Run p l e R s m args below meth c H locs cells slots 0 0 (F0 m pc ls st0) rest (zQ (some (.int v)) a) zno) (kk : W p l e R s m args below meth c H locs cells slots Q (F0 m (pc + 3) ls (.int v :: rest))) : W p l e R s m args below meth c H locs cells slots Q (F0 m pc ls st0) := zr_c hr kk
theorem zr_l {v : Int64} (hr : va_Run p l e R s m args below meth c H locs cells slots 0 0 (F0 m pc ls st0) rest (zQ (some (.long v)) a) zno) (kk : W p l e R s m args below meth c H locs cells slots Q (F0 m (pc + 3) ls (.long v :: rest))) : W p l e R s m args below meth c H locs cells slots Q (F0 m pc ls st0) := zr_c hr kk
theorem zr_q {v : Value} (hr : va_Run p l e R s m args below meth c H locs cells slots 0 0 (F0 m pc ls st0) rest (zQ (some v) a) zno) (kk : W p l e R s m args below meth c H locs cells slots Q (F0 m (pc + 3) ls (v :: rest))) : W p l e R s m args below meth c H locs cells slots Q (F0 m pc ls st0) := zr_c hr kk
theorem zr_d {v : UInt64} (hr : va_Run p l e R s m args below meth c H locs cells slots 0 0 (F0 m pc ls st0) rest (zQ (some (.double v)) a) zno) (kk : W p l e R s m args below meth c H locs cells slots Q (F0 m (pc + 3) ls (.double v :: rest))) : W p l e R s m args below meth c H locs cells slots Q (F0 m pc ls st0) := zr_c hr kk
theorem zr_v (hr : va_Run p l e R s m args below meth c H locs cells slots 0 0 (F0 m pc ls st0) rest (zQ none a) zno) (kk : W p l e R s m args below meth c H locs cells slots Q (F0 m (pc + 3) ls rest)) : W p l e R s m args below meth c H locs cells slots Q (F0 m pc ls st0) := zr_c hr kk
-- ends of such methods
theorem ze_i {v r : Int32} {ty : FieldType} (hx : p.tables.exec = Jvm.exec) (hb : c.code = cc) (hr : meth.sig.returnType = some ty) (hlk : meth.locks = false) (hn : narrow ty (.int v) = .int v) (hv : v = r) (hdg : decode cc pc = .ok (.ireturn, 1)) : W p l e R s m args below meth c s.heap [] 0 0 (MQ below (zQ (some (.int r))) args s 0 0 zno) (F0 m pc ls [.int v]) := by
  subst hv
  exact W.zret hx hb hr hn (fun t ht _ => ⟨rfl, ht⟩) (fun q h => by cases h) hdg hlk
theorem ze_l {v r : Int64} (hx : p.tables.exec = Jvm.exec) (hb : c.code = cc) (hr : meth.sig.returnType = some .long) (hlk : meth.locks = false) (hv : v = r) (hdg : decode cc pc = .ok (.lreturn, 1)) : W p l e R s m args below meth c s.heap [] 0 0 (MQ below (zQ (some (.long r))) args s 0 0 zno) (F0 m pc ls [.long v]) := by
  subst hv
  exact W.lret hx hb hr (fun t ht _ => ⟨rfl, ht⟩) (fun q h => by cases h) hdg hlk
theorem ze_d {v r : UInt64} (hx : p.tables.exec = Jvm.exec) (hb : c.code = cc) (hr : meth.sig.returnType = some .double) (hlk : meth.locks = false) (hv : v = r) (hdg : decode cc pc = .ok (.dreturn, 1)) : W p l e R s m args below meth c s.heap [] 0 0 (MQ below (zQ (some (.double r))) args s 0 0 zno) (F0 m pc ls [.double v]) := by
  subst hv
  exact W.dret hx hb hr (fun t ht _ => ⟨rfl, ht⟩) (fun q h => by cases h) hdg hlk
theorem ze_q {v r : Value} {ty : FieldType} (hx : p.tables.exec = Jvm.exec) (hb : c.code = cc) (hr : meth.sig.returnType = some ty) (hty : (∃ n, ty = .object n) ∨ ∃ t, ty = .array t) (hlk : meth.locks = false) (hvr : v = .null ∨ ∃ a, v = .ref a) (hv : v = r) (hdg : decode cc pc = .ok (.areturn, 1)) : W p l e R s m args below meth c s.heap [] 0 0 (MQ below (zQ (some r)) args s 0 0 zno) (F0 m pc ls [v]) := by
  subst hv
  exact W.aret hx hb hr hty hvr (fun t ht _ => ⟨rfl, ht⟩) (fun q h => by cases h) hdg hlk
theorem ze_v (hx : p.tables.exec = Jvm.exec) (hb : c.code = cc) (hr : meth.sig.returnType = none) (hlk : meth.locks = false) (hdg : decode cc pc = .ok (.return_, 1)) : W p l e R s m args below meth c s.heap [] 0 0 (MQ below (zQ none) args s 0 0 zno) (F0 m pc ls []) :=
  W.vret hx hb hr (fun t ht _ => ⟨rfl, ht⟩) (fun q h => by cases h) hdg hlk
end ZR
/-! ===== the world of the run: objects by kind, flow and number; rows of longs; lists ===== -/
-- kinds: 0 State (3k+w), 1 Spans (3k+w), 2 Stage, 3 Outlet, 4 Channel of the first input, 5 of the second, 6 Flow, 7 WeirStream, 8 Plan
abbrev TF : Type := Nat → Nat → Nat → Nat → Int32
abbrev TG : Type := Nat → Nat → Nat × Nat
abbrev TQ : Type := Nat → Nat × List Int64
/-- the shape: where objects, rows and lists stand; how many stages; whose input is whose -/
abbrev TS : Type := (Nat → Nat → Nat → Nat) × (Nat → Nat) × (Nat → Nat → Nat → Nat) × Nat × (Nat → Nat → Option Nat)
abbrev zg (S : TS) : Nat → Nat → Nat → Nat := S.1
abbrev zr (S : TS) : Nat → Nat := S.2.1
abbrev zl (S : TS) : Nat → Nat → Nat → Nat := S.2.2.1
abbrev zn (S : TS) : Nat := S.2.2.2.1
abbrev zp (S : TS) : Nat → Nat → Option Nat := S.2.2.2.2
-- the rows' numbers
def rs (x fl k : Nat) : Nat := x + 4 * fl + 8 * k
def ri (fl k : Nat) : Nat := 288 + fl + 2 * k
def ro (fl k : Nat) : Nat := 312 + fl + 2 * k
def rl (k : Nat) : Nat := 336 + k
def zsrc (S : TS) (x k : Nat) : Nat := ((zp S x k).getD 0)
def zch (S : TS) (x fl k : Nat) : Value := if (zp S x k).isSome then .ref (zg S (4 + x) fl k) else .null
def cel (S : TS) (G : TG) (kd fl k : Nat) (f : Nat → Int32) : va_E := match kd with
  | 0 => .inr (8, [.int (f 0), .int (f 1), .int (f 2), .int (f 3), .int (f 4), .int (f 5), .int (f 6), .int (f 7), .ref (zg S 1 fl k), .ref (zr S (rs 2 fl k)), .ref (zr S (rs 3 fl k))])
  | 1 => .inr (6, [.ref (zr S (rs 0 fl k)), .ref (zr S (rs 1 fl k))])
  | 2 => .inr (7, [.ref (zg S 8 0 k), .ref (zr S (rl k)), zch S 0 fl k, zch S 1 fl k, .int (nI fl), .ref (zg S 3 fl k), .ref (zr S (ro fl k)), .ref (zg S 0 fl (3 * k)), .ref (zg S 0 fl (3 * k + (G fl k).1)), .ref (zg S 0 fl (3 * k + (G fl k).2)), .int (f 10), .int (f 11)])
  | 3 => .inr (3, [.ref (zr S (ri fl k)), .ref (zl S 1 fl k)])
  | 4 => .inr (1, [.ref (zr S (ri fl (zsrc S 0 k))), .int (f 1), .int (f 2)])
  | 5 => .inr (1, [.ref (zr S (ri fl (zsrc S 1 k))), .int (f 1), .int (f 2)])
  | 6 => .inr (2, [.int (nI fl), .ref (zl S 0 fl 0), .int (f 2), .int (f 3), .int (f 4), .int (f 5), .int (f 6), .int (f 7)])
  | 7 => .inr (9, [.ref (zg S 6 0 0), .ref (zg S 6 1 0), .int (f 2), .int (f 3), .int (f 4)])
  | _ => .inr (4, [.int (f 0), .int (f 1), .int (f 2), .int (f 3), .int (f 4), .int (f 5), .int (f 6), .int (f 7), .int (f 8), .int (f 9), .int (f 10), .int (f 11), .int (f 12), .int (f 13), .int (f 14)])
/-- which objects are there -/
def dm (S : TS) (kd fl k : Nat) : Prop := match kd with
  | 0 => fl < 2 ∧ k < 3 * zn S
  | 1 => fl < 2 ∧ k < 3 * zn S
  | 2 => fl < 2 ∧ k < zn S
  | 3 => fl < 2 ∧ k < zn S
  | 4 => fl < 2 ∧ k < zn S ∧ (zp S 0 k).isSome = true
  | 5 => fl < 2 ∧ k < zn S ∧ (zp S 1 k).isSome = true
  | 6 => fl < 2 ∧ k = 0
  | 7 => fl = 0 ∧ k = 0
  | 8 => fl = 0 ∧ k < zn S
  | _ => False
def dr (S : TS) (i : Nat) : Prop := (i < 288 ∧ i / 8 < 3 * zn S) ∨ (288 ≤ i ∧ i < 312 ∧ (i - 288) / 2 < zn S) ∨ (312 ≤ i ∧ i < 336 ∧ (i - 312) / 2 < zn S) ∨ (336 ≤ i ∧ i < 348 ∧ i - 336 < zn S)
def dl (S : TS) (b fl k : Nat) : Prop := (b = 0 ∧ fl < 2 ∧ k = 0) ∨ (b = 1 ∧ fl < 2 ∧ k < zn S)
/-- the channels that lead from a stage: kind and consumer -/
def och (S : TS) (k : Nat) : List (Nat × Nat) := (List.range (zn S)).flatMap (fun c => (if zp S 0 c = some k then [(4, c)] else []) ++ (if zp S 1 c = some k then [(5, c)] else []))
def lic (S : TS) (b fl k : Nat) : List Nat := if b = 0 then (List.range (zn S)).map (zg S 2 fl) else (och S k).map (fun q => zg S q.1 fl q.2)
/-- fields that are truth values -/
def zib (kd j : Nat) : Bool := (kd == 0 && j == 3) || (kd == 2 && (j == 10 || j == 11)) || ((kd == 4 || kd == 5) && j == 2) || (kd == 7 && j == 2)
def zsm (f : Nat → Nat) : Nat → Nat | 0 => 0 | n + 1 => zsm f n + f n
def Psi (q : TQ) : Nat := zsm (fun i => (q i).1 / 8) 348
def Phi (q : TQ) : Nat := zsm (fun i => 2 * (q i).1) 348
abbrev TO : Type := Nat → Nat × Nat × Nat × Nat
def WRow (D : va_G) (yc : Nat → ClassId) (A : Nat → Prop) (own : TO) (r x i : Nat) (f : Nat → Int64) (q : Nat × List Int64) (H : Heap) : Prop :=
  (va_at D vwCl (r, .inr (5, [.ref x, .int (nI q.2.length)])) H ∧ A r ∧ own r = (1, i, 0, 0)) ∧ (va_at D vwCl (x, .inl (yc 1, q.1, .inr (.inl f))) H ∧ A x ∧ own x = (2, i, 0, 0)) ∧ q.2.length ≤ q.1 ∧ (∀ (j : Nat) (h : j < q.2.length), f j = q.2[j]) ∧ ∃ z : Nat, z ≤ 20 ∧ q.1 = 8 * 2 ^ z
def WList (D : va_G) (yc : Nat → ClassId) (e0 : Nat) (A : Nat → Prop) (own : TO) (a b fl k : Nat) (L : List Nat) (H : Heap) : Prop :=
  (A a ∧ own a = (3, b, fl, k)) ∧ ((L = [] ∧ ∃ mc : Int32, va_at D vwCl (a, .inr (0, [.int mc, .ref e0, .int 0])) H) ∨
    ∃ (mc : Int32) (x cap : Nat) (f : Nat → Option Nat), va_at D vwCl (a, .inr (0, [.int mc, .ref x, .int (nI L.length)])) H ∧ (va_at D vwCl (x, .inl (yc 2, cap, .inr (.inr (.inr (.inr f))))) H ∧ A x ∧ own x = (4, b, fl, k)) ∧ L.length ≤ cap ∧ cap < 1024 ∧ ∀ (j : Nat) (h : j < L.length), f j = some L[j])
def zok (S : TS) : Prop := ∀ x k p, k < zn S → zp S x k = some p → p < k
def WT (D : va_G) (yc : Nat → ClassId) (e0 : Nat) (A : Nat → Prop) (S : TS) (Z : Nat × Nat) (F : TF) (G : TG) (q : TQ) (H : Heap) : Prop :=
  ∃ own : TO, (∀ kd fl k, dm S kd fl k → va_at D vwCl (zg S kd fl k, cel S G kd fl k (F kd fl k)) H ∧ A (zg S kd fl k) ∧ own (zg S kd fl k) = (0, kd, fl, k)) ∧
    (∀ i, dr S i → ∃ (x : Nat) (f : Nat → Int64), WRow D yc A own (zr S i) x i f (q i) H) ∧ (∀ b fl k, dl S b fl k → WList D yc e0 A own (zl S b fl k) b fl k (lic S b fl k) H) ∧
    (∀ kd fl k j, zib kd j = true → F kd fl k j = 0 ∨ F kd fl k j = 1) ∧ H.size ≤ Z.1 + Psi q ∧ zh H ≤ Z.2 + Phi q ∧ zn S ≤ 12 ∧ zok S
def zF (F : TF) (kd fl k : Nat) (f : Nat → Int32) : TF := fun kd' fl' k' => if kd' = kd ∧ fl' = fl ∧ k' = k then f else F kd' fl' k'
theorem zF_s {F : TF} {kd fl k : Nat} {f : Nat → Int32} : zF F kd fl k f kd fl k = f := by unfold zF; rw [if_pos ⟨rfl, rfl, rfl⟩]
theorem zF_n {F : TF} {kd fl k kd' fl' k' : Nat} {f : Nat → Int32} (h : ¬ (kd' = kd ∧ fl' = fl ∧ k' = k)) : zF F kd fl k f kd' fl' k' = F kd' fl' k' := by unfold zF; rw [if_neg h]
section ZT
variable {D : va_G} {yc : Nat → ClassId} {e0 : Nat} {A : Nat → Prop} {S : TS} {Z : Nat × Nat} {F : TF} {G : TG} {q : TQ} {H H1 : Heap}
theorem WT.obj (h : WT D yc e0 A S Z F G q H) {kd fl k : Nat} (hd : dm S kd fl k) : va_at D vwCl (zg S kd fl k, cel S G kd fl k (F kd fl k)) H ∧ A (zg S kd fl k) := by
  obtain ⟨own, h1, -⟩ := h
  exact ⟨(h1 kd fl k hd).1, (h1 kd fl k hd).2.1⟩
theorem WT.row (h : WT D yc e0 A S Z F G q H) {i : Nat} (hd : dr S i) : ∃ (x : Nat) (f : Nat → Int64), va_at D vwCl (zr S i, .inr (5, [.ref x, .int (nI (q i).2.length)])) H ∧ va_at D vwCl (x, .inl (yc 1, (q i).1, .inr (.inl f))) H ∧ (q i).2.length ≤ (q i).1 ∧ (∀ (j : Nat) (h : j < (q i).2.length), f j = (q i).2[j]) ∧ ∃ z : Nat, z ≤ 20 ∧ (q i).1 = 8 * 2 ^ z := by
  obtain ⟨own, h1, h2, -⟩ := h
  obtain ⟨x, f, h3, h4, h5⟩ := h2 i hd
  exact ⟨x, f, h3.1, h4.1, h5⟩
theorem WT.n12 (h : WT D yc e0 A S Z F G q H) : zn S ≤ 12 := by
  obtain ⟨own, h1, h2, h3, h4, h5, h6, h7, h8⟩ := h
  exact h7
theorem WT.src (h : WT D yc e0 A S Z F G q H) {x k : Nat} (hk : k < zn S) (hp : (zp S x k).isSome = true) : zsrc S x k < zn S := by
  obtain ⟨own, h1, h2, h3, h4, h5, h6, h7, h8⟩ := h
  obtain ⟨p, hp⟩ := Option.isSome_iff_exists.mp hp
  have h9 := h8 x k p hk hp
  unfold zsrc
  rw [hp]
  show p < _
  omega
theorem WT.bit (h : WT D yc e0 A S Z F G q H) (kd fl k j : Nat) (hj : zib kd j = true) : F kd fl k j = 0 ∨ F kd fl k j = 1 := by
  obtain ⟨own, h1, h2, h3, h4, h5⟩ := h
  exact h4 kd fl k j hj
theorem WRow.kept {own : TO} {r x i : Nat} {f : Nat → Int64} {qq : Nat × List Int64} (h : WRow D yc A own r x i f qq H) (h1 : H1[r]? = H[r]?) (h2 : H1[x]? = H[x]?) : WRow D yc A own r x i f qq H1 :=
  ⟨⟨h.1.1.kept h1, h.1.2⟩, ⟨h.2.1.1.kept h2, h.2.1.2⟩, h.2.2⟩
theorem WList.kept {own : TO} {a b fl k : Nat} {L : List Nat} (h : WList D yc e0 A own a b fl k L H) (hk : ∀ x, own x = (3, b, fl, k) ∨ own x = (4, b, fl, k) → H1[x]? = H[x]?) : WList D yc e0 A own a b fl k L H1 := by
  obtain ⟨ha, h | ⟨mc, x, cap, f, h1, h2, h3⟩⟩ := h
  · exact ⟨ha, Or.inl ⟨h.1, h.2.elim fun mc h => ⟨mc, h.kept (hk a (Or.inl ha.2))⟩⟩⟩
  · exact ⟨ha, Or.inr ⟨mc, x, cap, f, h1.kept (hk a (Or.inl ha.2)), ⟨h2.1.kept (hk x (Or.inr h2.2.2)), h2.2⟩, h3⟩⟩
theorem WT.put (h : WT D yc e0 A S Z F G q H) {kd fl k : Nat} (hd : dm S kd fl k) {f : Nat → Int32} {G' : TG} (h1 : va_at D vwCl (zg S kd fl k, cel S G' kd fl k f) H1) (h3 : ∀ x : Nat, x ≠ zg S kd fl k → H1[x]? = H[x]?) (hz : H1.size = H.size) (hh : zh H1 = zh H)
    (hG : ∀ fl' k', ¬ (kd = 2 ∧ fl' = fl ∧ k' = k) → G' fl' k' = G fl' k') (hf : ∀ j, zib kd j = true → f j = 0 ∨ f j = 1) : WT D yc e0 A S Z (zF F kd fl k f) G' q H1 := by
  obtain ⟨own, g1, g2, g3, g4, g5, g6, g7⟩ := h
  have hO := (g1 kd fl k hd).2.2
  refine ⟨own, fun kd' fl' k' hd' => ?_, fun i hi => ?_, fun b fl' k' hl => ?_, fun kd' fl' k' j hj => ?_, by rw [hz]; exact g5, by rw [hh]; exact g6, g7⟩
  · by_cases hc : kd' = kd ∧ fl' = fl ∧ k' = k
    · obtain ⟨rfl, rfl, rfl⟩ := hc
      rw [zF_s]
      exact ⟨h1, (g1 kd' fl' k' hd').2⟩
    · rw [zF_n hc]
      have ho := (g1 kd' fl' k' hd').2.2
      have hne : zg S kd' fl' k' ≠ zg S kd fl k := fun e => by
        rw [e, hO] at ho
        simp only [Prod.mk.injEq, true_and] at ho
        exact hc ⟨ho.1.symm, ho.2.1.symm, ho.2.2.symm⟩
      refine ⟨?_, (g1 kd' fl' k' hd').2⟩
      have h9 := (g1 kd' fl' k' hd').1.kept (H1 := H1) (h3 _ hne)
      have e9 : cel S G' kd' fl' k' (F kd' fl' k') = cel S G kd' fl' k' (F kd' fl' k') := by
        by_cases h2 : kd' = 2
        · subst h2
          unfold cel
          rw [hG fl' k' (fun ⟨a, b, c⟩ => hc ⟨a.symm, b, c⟩)]
        · unfold cel
          split <;> first | rfl | exact absurd rfl h2
      rw [e9]
      exact h9
  · obtain ⟨x, f', k1, k2, k3⟩ := g2 i hi
    refine ⟨x, f', WRow.kept ⟨k1, k2, k3⟩ (h3 _ fun e => ?_) (h3 _ fun e => ?_)⟩
    · have := k1.2.2
      rw [e, hO] at this
      simp at this
    · have := k2.2.2
      rw [e, hO] at this
      simp at this
  · refine (g3 b fl' k' hl).kept fun x hx => h3 x fun e => ?_
    rw [e, hO] at hx
    simp at hx
  · by_cases hc : kd' = kd ∧ fl' = fl ∧ k' = k
    · obtain ⟨rfl, rfl, rfl⟩ := hc
      rw [zF_s]
      exact hf j hj
    · rw [zF_n hc]
      exact g4 kd' fl' k' j hj
end ZT
def zmax (x y : Int32) : Int32 := if x < y then y else x
def zmin (x y : Int32) : Int32 := if y < x then y else x
theorem dm0 {S : TS} {fl k : Nat} (h : fl < 2) (h2 : k < 3 * zn S) : dm S 0 fl k := ⟨h, h2⟩
theorem dm1 {S : TS} {fl k : Nat} (h : fl < 2) (h2 : k < 3 * zn S) : dm S 1 fl k := ⟨h, h2⟩
theorem dm2 {S : TS} {fl k : Nat} (h : fl < 2) (h2 : k < zn S) : dm S 2 fl k := ⟨h, h2⟩
theorem dm3 {S : TS} {fl k : Nat} (h : fl < 2) (h2 : k < zn S) : dm S 3 fl k := ⟨h, h2⟩
theorem dm4 {S : TS} {fl k : Nat} (h : fl < 2) (h2 : k < zn S) (h3 : (zp S 0 k).isSome = true) : dm S 4 fl k := ⟨h, h2, h3⟩
theorem dm5 {S : TS} {fl k : Nat} (h : fl < 2) (h2 : k < zn S) (h3 : (zp S 1 k).isSome = true) : dm S 5 fl k := ⟨h, h2, h3⟩
theorem dm6 {S : TS} {fl : Nat} (h : fl < 2) : dm S 6 fl 0 := ⟨h, rfl⟩
theorem dm7 {S : TS} : dm S 7 0 0 := ⟨rfl, rfl⟩
theorem dm8 {S : TS} {k : Nat} (h2 : k < zn S) : dm S 8 0 k := ⟨rfl, h2⟩
theorem dr_s {S : TS} {x fl k : Nat} (hn : zn S ≤ 12) (hx : x < 4) (h : fl < 2) (h2 : k < 3 * zn S) : dr S (rs x fl k) := by unfold dr rs; left; omega
theorem dr_i {S : TS} {fl k : Nat} (hn : zn S ≤ 12) (h : fl < 2) (h2 : k < zn S) : dr S (ri fl k) := by unfold dr ri; right; left; omega
theorem dr_o {S : TS} {fl k : Nat} (hn : zn S ≤ 12) (h : fl < 2) (h2 : k < zn S) : dr S (ro fl k) := by unfold dr ro; right; right; left; omega
theorem dr_l {S : TS} {k : Nat} (hn : zn S ≤ 12) (h2 : k < zn S) : dr S (rl k) := by unfold dr rl; right; right; right; omega
theorem zk_nt {x v : Int32} (h : ¬ x = v) : x.toInt ≠ v.toInt := fun e => h (Int32.toInt_inj.mp e)
theorem zk_nb {v : Int32} (h : v = 0 ∨ v = 1) : narrow .boolean (.int v) = .int v := by rcases h with rfl | rfl <;> rfl
theorem va_P_one {D : va_G} {cl : List vw_C} {q : Nat × va_E} {H : Heap} (h : va_at D cl q H) : va_P D cl [q] H := by
  intro k q' hk
  match k, hk with
  | 0, hk => cases hk; exact h
  | k + 1, hk => simp at hk
/-- a contract's start over the world: the arguments, the world, the context -/
def PT (D : va_G) (yc : Nat → ClassId) (e0 : Nat) (A : Nat → Prop) (S : TS) (Z : Nat × Nat) (F : TF) (G : TG) (q : TQ) (av : List Value) : Array Value → State → Prop := va_Pc av (fun U => WT D yc e0 A S Z F G q U.heap ∧ (∀ a, U.heap.size ≤ a → A a) ∧ CX D yc e0 A U)
theorem PT.blind {D : va_G} {yc : Nat → ClassId} {e0 : Nat} {A : Nat → Prop} {S : TS} {Z : Nat × Nat} {F : TF} {G : TG} {q : TQ} {av : List Value} : FrameBlind (PT D yc e0 A S Z F G q av) := fun a U g mk h => by
  obtain ⟨h0, h1, h2, h3⟩ := h
  exact ⟨h0, h1, h2, CX.calling g mk a h3⟩
section ZU
variable {p : Program} {l : Launch} {e : Env} {R : Room} {s : State} {m : MethodId} {args : Array Value} {below : List Frame} {meth : Method} {c : Code} {H : Heap} {locs : List Loc} {cells slots : Nat} {Q : State → Prop}
variable {D : va_G} {yc : Nat → ClassId} {e0 : Nat} {A : Nat → Prop} {S : TS} {Z : Nat × Nat} {F : TF} {G : TG} {q : TQ} {cc : ByteArray} {pc : Nat} {ls : Array Slot} {rest As st0 : List Value} {tys : List (ClassId × FieldType)} {H0 : Heap} {mc ms : Nat} {a : Array Value}
theorem t_get (hexec : p.tables.exec = Jvm.exec) (hb : c.code = cc) {own ref C : String} {T : u_T} {N ci index : Nat} {Ts : List Cond} (hts : ∀ w ∈ Ts, w.before args s = true) (hin : ∀ w ∈ u_ws C T N, w ∈ Ts) (hown : s.vm.findClass own = some m.cls) (hK : va_K D vwCl tys s) (hW : WT D yc e0 A S Z F G q H) (kd fl k : Nat) (hd : dm S kd fl k) {fs : List Value} (he : cel S G kd fl k (F kd fl k) = .inr (ci, fs)) (hc : vwCl[ci]? = some (C, T, N)) (j : Nat) (hk : j < N) (hlink : (Cond.fieldLink own index ref (T j).2.1 (T j).2.2.1).before args s = true) (hsame : ∀ x, s.fieldFound? (T j).1 (T j).2.1 (T j).2.2.1 = some x → s.fieldFound? ref (T j).2.1 (T j).2.2.1 = some x) {v : Value} (hv : fs[j]? = some v) (hdg : decode cc pc = .ok (.getfield index, 3))
    (kk : W p l e R s m args below meth c H locs cells slots Q (F0 m (pc + 3) ls (v :: rest))) : W p l e R s m args below meth c H locs cells slots Q (F0 m pc ls (.ref (zg S kd fl k) :: rest)) :=
  va_get hexec hb hts hin hown hK (va_P_one (by have h := (hW.obj hd).1; rw [he] at h; exact h)) 0 rfl hc j hk hlink hsame hv hdg kk
theorem t_getN (hexec : p.tables.exec = Jvm.exec) (hb : c.code = cc) {own ref C host : String} {T : u_T} {N ci index : Nat} {Ts : List Cond} (hts : ∀ w ∈ Ts, w.before args s = true) (hin : ∀ w ∈ u_ws C T N, w ∈ Ts) (hown : s.vm.findClass own = some m.cls) (hK : va_K D vwCl tys s) (hW : WT D yc e0 A S Z F G q H) (kd fl k : Nat) (hd : dm S kd fl k) {fs : List Value} (he : cel S G kd fl k (F kd fl k) = .inr (ci, fs)) (hc : vwCl[ci]? = some (C, T, N)) (j : Nat) (hk : j < N) (hlink : (Cond.fieldLinkNest own index ref (T j).2.1 (T j).2.2.1 host).before args s = true) (hsame : ∀ x, s.fieldFound? (T j).1 (T j).2.1 (T j).2.2.1 = some x → s.fieldFound? ref (T j).2.1 (T j).2.2.1 = some x) {v : Value} (hv : fs[j]? = some v) (hdg : decode cc pc = .ok (.getfield index, 3))
    (kk : W p l e R s m args below meth c H locs cells slots Q (F0 m (pc + 3) ls (v :: rest))) : W p l e R s m args below meth c H locs cells slots Q (F0 m pc ls (.ref (zg S kd fl k) :: rest)) :=
  va_getN hexec hb hts hin hown hK (va_P_one (by have h := (hW.obj hd).1; rw [he] at h; exact h)) 0 rfl hc j hk hlink hsame hv hdg kk
theorem t_put (hexec : p.tables.exec = Jvm.exec) (hb : c.code = cc) {own ref C : String} {T : u_T} {N ci index : Nat} {Ts : List Cond} (hts : ∀ w ∈ Ts, w.before args s = true) (hin : ∀ w ∈ u_ws C T N, w ∈ Ts) (ty0 : Nat → FieldType) (hty : ∀ k, k < N → parseFieldDescriptor (T k).2.2.1 = some (ty0 k)) (hnm : ∀ a, a < N → ∀ b, b < N → a ≠ b → (T a).2.1 ≠ (T b).2.1) (hown : s.vm.findClass own = some m.cls) (hK : va_K D vwCl tys s) (hW : WT D yc e0 A S Z F G q H) (hS0 : va_S A H0 H locs) (kd fl k : Nat) (hd : dm S kd fl k) {fs : List Value} (he : cel S G kd fl k (F kd fl k) = .inr (ci, fs)) (hc : vwCl[ci]? = some (C, T, N)) (j : Nat) (hk : j < N) (hlink : (Cond.fieldLink own index ref (T j).2.1 (T j).2.2.1).before args s = true) (hsame : ∀ x, s.fieldFound? (T j).1 (T j).2.1 (T j).2.2.1 = some x → s.fieldFound? ref (T j).2.1 (T j).2.2.1 = some x) (hfin : (T j).2.2.2 = false) {ty : FieldType} {v : Value} (hd0 : parseFieldDescriptor (T j).2.2.1 = some ty) (hn : narrow ty v = v) (hfit : fits ty v = true) (hl : j < fs.length)
    (f : Nat → Int32) (G' : TG) (he' : cel S G' kd fl k f = .inr (ci, fs.set j v)) (hG : ∀ fl' k', ¬ (kd = 2 ∧ fl' = fl ∧ k' = k) → G' fl' k' = G fl' k') (hf : ∀ j, zib kd j = true → f j = 0 ∨ f j = 1)
    (hdg : decode cc pc = .ok (.putfield index, 3)) (kk : ∀ (H1 : Heap) (locs1 : List Loc), WT D yc e0 A S Z (zF F kd fl k f) G' q H1 → va_S A H0 H1 locs1 → W p l e R s m args below meth c H1 locs1 cells slots Q (F0 m (pc + 3) ls rest)) : W p l e R s m args below meth c H locs cells slots Q (F0 m pc ls (v :: .ref (zg S kd fl k) :: rest)) := by
  have hap := va_apart (own := own) hts hin ty0 hty hnm hK hc
  have hO := hW.obj hd
  rw [he] at hO
  obtain ⟨⟨r, h1, cell, q1, q2, q3, q4⟩, hAa⟩ := hO
  have hr : r = (C, T, N) := Option.some.inj (h1.symm.trans hc)
  subst hr
  obtain ⟨hS, hfc, kC, hkC, hkind⟩ := hK.1 ci _ hc
  obtain ⟨cf, kf, fi, f0, hi, hsl⟩ := hS j hk
  have hlay := hts _ (hin _ (u_in_lay hk))
  unfold u_lay at hlay
  rw [if_neg (by rw [hfin]; decide)] at hlay
  have hst := (u_facts hfc hkC (u_lays hts hin hk) hi).1
  have h6 := u_store hfc hkC hkind hlay hi hd0 hn hfit
  refine W.putK hexec hb (f := f0) ⟨hown, hlink, ⟨_, _, _, hsame _ hi⟩, hst⟩ (by rw [q2]; exact h6) q1 q3 (by rw [hsl]; exact k2_hasslot (q4 j hk)) rfl rfl hdg fun H' e1 e2 e3 => ?_
  have hzh := zh_set q1 e1 e2 e3
  rw [hsl] at e1 ⊢
  exact kk H' _ (hW.put hd (by rw [he']; exact ⟨_, hc, t_OB.to (V := updV (vp_V fs) j v) ⟨_, e1, q2, q3, t_set q4 hap hk v⟩ (fun j _ => vp_updV_set hl v j)⟩) e3 e2 hzh hG hf) (hS0.put e2 e3 hAa)
theorem t_putN (hexec : p.tables.exec = Jvm.exec) (hb : c.code = cc) {own ref C host : String} {T : u_T} {N ci index : Nat} {Ts : List Cond} (hts : ∀ w ∈ Ts, w.before args s = true) (hin : ∀ w ∈ u_ws C T N, w ∈ Ts) (ty0 : Nat → FieldType) (hty : ∀ k, k < N → parseFieldDescriptor (T k).2.2.1 = some (ty0 k)) (hnm : ∀ a, a < N → ∀ b, b < N → a ≠ b → (T a).2.1 ≠ (T b).2.1) (hown : s.vm.findClass own = some m.cls) (hK : va_K D vwCl tys s) (hW : WT D yc e0 A S Z F G q H) (hS0 : va_S A H0 H locs) (kd fl k : Nat) (hd : dm S kd fl k) {fs : List Value} (he : cel S G kd fl k (F kd fl k) = .inr (ci, fs)) (hc : vwCl[ci]? = some (C, T, N)) (j : Nat) (hk : j < N) (hlink : (Cond.fieldLinkNest own index ref (T j).2.1 (T j).2.2.1 host).before args s = true) (hsame : ∀ x, s.fieldFound? (T j).1 (T j).2.1 (T j).2.2.1 = some x → s.fieldFound? ref (T j).2.1 (T j).2.2.1 = some x) (hfin : (T j).2.2.2 = false) {ty : FieldType} {v : Value} (hd0 : parseFieldDescriptor (T j).2.2.1 = some ty) (hn : narrow ty v = v) (hfit : fits ty v = true) (hl : j < fs.length)
    (f : Nat → Int32) (G' : TG) (he' : cel S G' kd fl k f = .inr (ci, fs.set j v)) (hG : ∀ fl' k', ¬ (kd = 2 ∧ fl' = fl ∧ k' = k) → G' fl' k' = G fl' k') (hf : ∀ j, zib kd j = true → f j = 0 ∨ f j = 1)
    (hdg : decode cc pc = .ok (.putfield index, 3)) (kk : ∀ (H1 : Heap) (locs1 : List Loc), WT D yc e0 A S Z (zF F kd fl k f) G' q H1 → va_S A H0 H1 locs1 → W p l e R s m args below meth c H1 locs1 cells slots Q (F0 m (pc + 3) ls rest)) : W p l e R s m args below meth c H locs cells slots Q (F0 m pc ls (v :: .ref (zg S kd fl k) :: rest)) := by
  have hap := va_apart (own := own) hts hin ty0 hty hnm hK hc
  have hO := hW.obj hd
  rw [he] at hO
  obtain ⟨⟨r, h1, cell, q1, q2, q3, q4⟩, hAa⟩ := hO
  have hr : r = (C, T, N) := Option.some.inj (h1.symm.trans hc)
  subst hr
  obtain ⟨hS, hfc, kC, hkC, hkind⟩ := hK.1 ci _ hc
  obtain ⟨cf, kf, fi, f0, hi, hsl⟩ := hS j hk
  have hlay := hts _ (hin _ (u_in_lay hk))
  unfold u_lay at hlay
  rw [if_neg (by rw [hfin]; decide)] at hlay
  have hst := (u_facts hfc hkC (u_lays hts hin hk) hi).1
  have h6 := u_store hfc hkC hkind hlay hi hd0 hn hfit
  refine va_WputK hexec hb (f := f0) hown hlink (hsame _ hi) hst (by rw [q2]; exact h6) q1 q3 (by rw [hsl]; exact k2_hasslot (q4 j hk)) rfl rfl hdg fun H' e1 e2 e3 => ?_
  have hzh := zh_set q1 e1 e2 e3
  rw [hsl] at e1 ⊢
  exact kk H' _ (hW.put hd (by rw [he']; exact ⟨_, hc, t_OB.to (V := updV (vp_V fs) j v) ⟨_, e1, q2, q3, t_set q4 hap hk v⟩ (fun j _ => vp_updV_set hl v j)⟩) e3 e2 hzh hG hf) (hS0.put e2 e3 hAa)
-- calls over the world
theorem tp_S (hC : CX D yc e0 A s) (hW : WT D yc e0 A S Z F G q H) (hS : va_S A s.heap H locs) (hA : ∀ a, s.heap.size ≤ a → A a) : PreS s H (PT D yc e0 A S Z F G q As) As :=
  ⟨PT.blind, fun U hU hWm => ⟨rfl, by rw [hU]; exact hW, fun a ha => hA a (Nat.le_trans hS.1 (by rw [← hU]; exact ha)), hC.go hS (fun _ h => h) hU hWm⟩⟩
theorem tp_V (hC : CX D yc e0 A s) (hW : WT D yc e0 A S Z F G q H) (hS : va_S A s.heap H locs) (hA : ∀ a, s.heap.size ≤ a → A a) (kd fl k : Nat) (hd : dm S kd fl k) {fs : List Value} {ci : Nat} (he : cel S G kd fl k (F kd fl k) = .inr (ci, fs)) {C : String} {T : u_T} {N : Nat} (hc : vwCl[ci]? = some (C, T, N)) : PreV s H C (zg S kd fl k) (PT D yc e0 A S Z F G q (.ref (zg S kd fl k) :: As)) As :=
  ⟨PT.blind, va_recv hC.1 (va_P_one (by have h := (hW.obj hd).1; rw [he] at h; exact h)) hc (q0 := 0) rfl, fun U hU hWm => ⟨rfl, by rw [hU]; exact hW, fun a ha => hA a (Nat.le_trans hS.1 (by rw [← hU]; exact ha)), hC.go hS (fun _ h => h) hU hWm⟩⟩
theorem tp_R (hC : CX D yc e0 A s) (hW : WT D yc e0 A S Z F G q H) (hS : va_S A s.heap H locs) (hA : ∀ a, s.heap.size ≤ a → A a) (i : Nat) (hd : dr S i) : PreV s H RX6 (zr S i) (PT D yc e0 A S Z F G q (.ref (zr S i) :: As)) As := by
  obtain ⟨x, f, h1, -⟩ := hW.row hd
  exact ⟨PT.blind, va_recv hC.1 (va_P_one h1) (ci := 5) rfl (q0 := 0) rfl, fun U hU hWm => ⟨rfl, by rw [hU]; exact hW, fun a ha => hA a (Nat.le_trans hS.1 (by rw [← hU]; exact ha)), hC.go hS (fun _ h => h) hU hWm⟩⟩
theorem tm_v {Su : Type} {F1 : Su → TF} {G1 : Su → TG} {q1 : Su → TQ} {Z1 : Su → Nat × Nat} {post : Su → Prop} (hr : va_Run p l e R s m args below meth c H locs cells slots mc ms (F0 m pc ls st0) rest (va_Qv post (fun u t => WT D yc e0 A S (Z1 u) (F1 u) (G1 u) (q1 u) t.heap) A a) A) (hS : va_S A s.heap H locs)
    (kk : ∀ (u : Su) (H1 : Heap) (locs1 : List Loc), post u → WT D yc e0 A S (Z1 u) (F1 u) (G1 u) (q1 u) H1 → va_S A s.heap H1 locs1 → W p l e R s m args below meth c H1 locs1 (cells + mc) (slots + ms) Q (F0 m (pc + 3) ls rest)) : W p l e R s m args below meth c H locs cells slots Q (F0 m pc ls st0) :=
  va_callv hr hS (fun _ _ h => h) (fun _ h => h) (fun u t H1 locs1 ht _ hp hB _ _ hS1 => kk u H1 locs1 hp (by rw [← ht]; exact hB) hS1)
theorem tm_i {Su : Type} {F1 : Su → TF} {G1 : Su → TG} {q1 : Su → TQ} {Z1 : Su → Nat × Nat} {post : Int32 → Su → Prop} (hr : va_Run p l e R s m args below meth c H locs cells slots mc ms (F0 m pc ls st0) rest (va_Qi post (fun u t => WT D yc e0 A S (Z1 u) (F1 u) (G1 u) (q1 u) t.heap) A a) A) (hS : va_S A s.heap H locs)
    (kk : ∀ (r : Int32) (u : Su) (H1 : Heap) (locs1 : List Loc), post r u → WT D yc e0 A S (Z1 u) (F1 u) (G1 u) (q1 u) H1 → va_S A s.heap H1 locs1 → W p l e R s m args below meth c H1 locs1 (cells + mc) (slots + ms) Q (F0 m (pc + 3) ls (.int r :: rest))) : W p l e R s m args below meth c H locs cells slots Q (F0 m pc ls st0) :=
  va_calli hr hS (fun _ _ h => h) (fun _ h => h) (fun r u t H1 locs1 ht _ hp hB _ _ hS1 => kk r u H1 locs1 hp (by rw [← ht]; exact hB) hS1)
theorem tm_l {Su : Type} {F1 : Su → TF} {G1 : Su → TG} {q1 : Su → TQ} {Z1 : Su → Nat × Nat} {post : Int64 → Su → Prop} (hr : va_Run p l e R s m args below meth c H locs cells slots mc ms (F0 m pc ls st0) rest (va_Ql post (fun u t => WT D yc e0 A S (Z1 u) (F1 u) (G1 u) (q1 u) t.heap) A a) A) (hS : va_S A s.heap H locs)
    (kk : ∀ (r : Int64) (u : Su) (H1 : Heap) (locs1 : List Loc), post r u → WT D yc e0 A S (Z1 u) (F1 u) (G1 u) (q1 u) H1 → va_S A s.heap H1 locs1 → W p l e R s m args below meth c H1 locs1 (cells + mc) (slots + ms) Q (F0 m (pc + 3) ls (.long r :: rest))) : W p l e R s m args below meth c H locs cells slots Q (F0 m pc ls st0) :=
  va_calll hr hS (fun _ _ h => h) (fun _ h => h) (fun r u t H1 locs1 ht _ hp hB _ _ hS1 => kk r u H1 locs1 hp (by rw [← ht]; exact hB) hS1)
-- ends of methods that write
theorem te_v {Su : Type} {F1 : Su → TF} {G1 : Su → TG} {q1 : Su → TQ} {Z1 : Su → Nat × Nat} {post : Su → Prop} (hx : p.tables.exec = Jvm.exec) (hb : c.code = cc) (hr : meth.sig.returnType = none) (hlk : meth.locks = false) (hS : va_S A s.heap H locs) (u : Su) (hp : post u) (hW : WT D yc e0 A S (Z1 u) (F1 u) (G1 u) (q1 u) H) (h1 : cells ≤ mc) (h2 : slots ≤ ms) (hdg : decode cc pc = .ok (.return_, 1)) :
    W p l e R s m args below meth c H locs cells slots (MQ below (va_Qv post (fun u t => WT D yc e0 A S (Z1 u) (F1 u) (G1 u) (q1 u) t.heap) A) args s mc ms A) (F0 m pc ls []) :=
  W.widen h1 h2 (W.vret hx hb hr (fun t ht _ => ⟨⟨u, rfl, hp, by subst ht; exact hW⟩, hS.F ht⟩) hS.2.2 hdg hlk)
theorem te_i {Su : Type} {F1 : Su → TF} {G1 : Su → TG} {q1 : Su → TQ} {Z1 : Su → Nat × Nat} {post : Int32 → Su → Prop} {v : Int32} {ty : FieldType} (hx : p.tables.exec = Jvm.exec) (hb : c.code = cc) (hr : meth.sig.returnType = some ty) (hlk : meth.locks = false) (hS : va_S A s.heap H locs) (hn : narrow ty (.int v) = .int v) (u : Su) (hp : post v u) (hW : WT D yc e0 A S (Z1 u) (F1 u) (G1 u) (q1 u) H) (h1 : cells ≤ mc) (h2 : slots ≤ ms) (hdg : decode cc pc = .ok (.ireturn, 1)) :
    W p l e R s m args below meth c H locs cells slots (MQ below (va_Qi post (fun u t => WT D yc e0 A S (Z1 u) (F1 u) (G1 u) (q1 u) t.heap) A) args s mc ms A) (F0 m pc ls [.int v]) :=
  W.widen h1 h2 (W.zret hx hb hr hn (fun t ht _ => ⟨⟨v, u, rfl, hp, by subst ht; exact hW⟩, hS.F ht⟩) hS.2.2 hdg hlk)
theorem te_l {Su : Type} {F1 : Su → TF} {G1 : Su → TG} {q1 : Su → TQ} {Z1 : Su → Nat × Nat} {post : Int64 → Su → Prop} {v : Int64} (hx : p.tables.exec = Jvm.exec) (hb : c.code = cc) (hr : meth.sig.returnType = some .long) (hlk : meth.locks = false) (hS : va_S A s.heap H locs) (u : Su) (hp : post v u) (hW : WT D yc e0 A S (Z1 u) (F1 u) (G1 u) (q1 u) H) (h1 : cells ≤ mc) (h2 : slots ≤ ms) (hdg : decode cc pc = .ok (.lreturn, 1)) :
    W p l e R s m args below meth c H locs cells slots (MQ below (va_Ql post (fun u t => WT D yc e0 A S (Z1 u) (F1 u) (G1 u) (q1 u) t.heap) A) args s mc ms A) (F0 m pc ls [.long v]) :=
  W.widen h1 h2 (W.lret hx hb hr (fun t ht _ => ⟨⟨v, u, rfl, hp, by subst ht; exact hW⟩, hS.F ht⟩) hS.2.2 hdg hlk)
end ZU
/-- a contract over the world from the walk of its body -/
theorem tk_M {l : Launch} {y : MethodName} {cc : ByteArray} {maxL : Nat} {ret : Option FieldType} {rm : Room} {D : va_G} {yc : Nat → ClassId} {e0 : Nat} {A : Nat → Prop} {S : TS} {Z : Nat × Nat} {F : TF} {G : TG} {q : TQ} {av : List Value} {Qc : Array Value → State → Outcome → State → Prop} {mc ms : Nat} {free : Addr → Prop} (hy : plainName y.cls = true) (hav : (lg_sl av).length ≤ maxL)
    (body : ∀ (p : Program) (e : Env) (s : State) (m : MethodId) (args : Array Value) (below : List Frame) (meth : Method) (c : Code) (ls : Array Slot), p.tables.exec = Jvm.exec → c.code = cc → c.maxLocals = maxL → meth.sig.returnType = ret → meth.locks = false → s.vm.findClass y.cls = some m.cls → (∀ w ∈ lw_all, w.before args s = true) → WT D yc e0 A S Z F G q s.heap → va_S A s.heap s.heap [] → (∀ a, s.heap.size ≤ a → A a) → CX D yc e0 A s → lv_has ls maxL (lv_args 0 av) →
      W p l e rm s m args below meth c s.heap [] 0 0 (MQ below Qc args s mc ms free) (F0 m 0 ls [])) :
    Met l y (ws_ y cc maxL ret) rm (PT D yc e0 A S Z F G q av) Qc mc ms free := by
  refine Met.ofW (cc := cc) (maxL := maxL) (ret := ret) hy rfl ?_
  intro p e s m args below meth c s₁ B hml hv
  obtain ⟨rfl, hW, hA, hC⟩ := hv
  have hts := atoms_spec (ws := ws_ y cc maxL ret) B.pre
  rw [lg_entry_eq]
  exact body p e s m _ below meth c _ B.exec B.bytes hml B.returns B.notSynchronized (findClass_of_methodNamed B.named) (fun w h => hts w (List.mem_cons_of_mem _ h)) hW va_S.rf hA hC (lv_entry av hav)
/-- .. of a method that looks at no cell -/
def PN (av : List Value) : Array Value → State → Prop := va_Pc av (fun _ => True)
theorem PN.blind {av : List Value} : FrameBlind (PN av) := fun _ _ _ _ h => h
theorem tp_N {s : State} {H : Heap} {As : List Value} : PreS s H (PN As) As := ⟨PN.blind, fun _ _ _ => ⟨rfl, trivial⟩⟩
theorem tk_N {l : Launch} {y : MethodName} {cc : ByteArray} {maxL : Nat} {ret : Option FieldType} {rm : Room} {av : List Value} {Qc : Array Value → State → Outcome → State → Prop} {mc ms : Nat} {free : Addr → Prop} (hy : plainName y.cls = true) (hav : (lg_sl av).length ≤ maxL)
    (body : ∀ (p : Program) (e : Env) (s : State) (m : MethodId) (args : Array Value) (below : List Frame) (meth : Method) (c : Code) (ls : Array Slot), p.tables.exec = Jvm.exec → c.code = cc → c.maxLocals = maxL → meth.sig.returnType = ret → meth.locks = false → s.vm.findClass y.cls = some m.cls → (∀ w ∈ lw_all, w.before args s = true) → lv_has ls maxL (lv_args 0 av) →
      W p l e rm s m args below meth c s.heap [] 0 0 (MQ below Qc args s mc ms free) (F0 m 0 ls [])) :
    Met l y (ws_ y cc maxL ret) rm (PN av) Qc mc ms free := by
  refine Met.ofW (cc := cc) (maxL := maxL) (ret := ret) hy rfl ?_
  intro p e s m args below meth c s₁ B hml hv
  obtain ⟨rfl, -⟩ := hv
  have hts := atoms_spec (ws := ws_ y cc maxL ret) B.pre
  rw [lg_entry_eq]
  exact body p e s m _ below meth c _ B.exec B.bytes hml B.returns B.notSynchronized (findClass_of_methodNamed B.named) (fun w h => hts w (List.mem_cons_of_mem _ h)) (lv_entry av hav)
end
section
theorem wq14 : (Jvm.Cond.initialized "java/lang/Math") ∈ lw_all := lw_in (lw_tb (List.mem_of_getElem? (i := 14) (by decide +kernel))) rfl
theorem wq25 : (Jvm.Cond.initialized "WeirStream$Item") ∈ lw_all := lw_in (lw_tb (List.mem_of_getElem? (i := 25) (by decide +kernel))) rfl
theorem wq26 : (Jvm.Cond.initialized "WeirStream$Account") ∈ lw_all := lw_in (lw_tb (List.mem_of_getElem? (i := 26) (by decide +kernel))) rfl
theorem wq300 : (Jvm.Cond.static ({ cls := "java/lang/Math", name := "min", desc := "(II)I" } : Jvm.MethodName)) ∈ lw_all := lw_in (lw_tb (List.mem_of_getElem? (i := 300) (by decide +kernel))) rfl
theorem wq301 : (Jvm.Cond.code ({ cls := "java/lang/Math", name := "min", desc := "(II)I" } : Jvm.MethodName) prog_24_method_69_code (2 : Nat) (Option.some Jvm.ClassFile.FieldType.int)) ∈ lw_all := lw_in (lw_tb (List.mem_of_getElem? (i := 301) (by decide +kernel))) rfl
theorem wq335 : (Jvm.Cond.constantLong "WeirStream$Item" (13 : Nat) (2305843009213693952 : Int64)) ∈ lw_all := lw_in (lw_tb (List.mem_of_getElem? (i := 335) (by decide +kernel))) rfl
theorem wq375 : (Jvm.Cond.static ({ cls := "java/lang/Math", name := "max", desc := "(II)I" } : Jvm.MethodName)) ∈ lw_all := lw_in (lw_tb (List.mem_of_getElem? (i := 375) (by decide +kernel))) rfl
theorem wq376 : (Jvm.Cond.code ({ cls := "java/lang/Math", name := "max", desc := "(II)I" } : Jvm.MethodName) prog_24_method_65_code (2 : Nat) (Option.some Jvm.ClassFile.FieldType.int)) ∈ lw_all := lw_in (lw_tb (List.mem_of_getElem? (i := 376) (by decide +kernel))) rfl
theorem wq396 : (Jvm.Cond.static ({ cls := "WeirStream$Item", name := "time", desc := "(J)I" } : Jvm.MethodName)) ∈ lw_all := lw_in (lw_tb (List.mem_of_getElem? (i := 396) (by decide +kernel))) rfl
theorem wq397 : (Jvm.Cond.code ({ cls := "WeirStream$Item", name := "time", desc := "(J)I" } : Jvm.MethodName) prog_5_method_6_code (2 : Nat) (Option.some Jvm.ClassFile.FieldType.int)) ∈ lw_all := lw_in (lw_tb (List.mem_of_getElem? (i := 397) (by decide +kernel))) rfl
theorem wq398 : (Jvm.Cond.constantLong "WeirStream$Item" (15 : Nat) (1048575 : Int64)) ∈ lw_all := lw_in (lw_tb (List.mem_of_getElem? (i := 398) (by decide +kernel))) rfl
theorem wq429 : (Jvm.Cond.methodLink "WeirStream$Account" (25 : Nat) ({ cls := "WeirStream$Account", name := "beside", desc := "(J)I" } : Jvm.MethodName)) ∈ lw_all := lw_in (lw_tb (List.mem_of_getElem? (i := 429) (by decide +kernel))) rfl
theorem wq430 : (Jvm.Cond.static ({ cls := "WeirStream$Account", name := "beside", desc := "(J)I" } : Jvm.MethodName)) ∈ lw_all := lw_in (lw_tb (List.mem_of_getElem? (i := 430) (by decide +kernel))) rfl
theorem wq431 : (Jvm.Cond.code ({ cls := "WeirStream$Account", name := "beside", desc := "(J)I" } : Jvm.MethodName) prog_2_method_4_code (2 : Nat) (Option.some Jvm.ClassFile.FieldType.int)) ∈ lw_all := lw_in (lw_tb (List.mem_of_getElem? (i := 431) (by decide +kernel))) rfl
theorem wq432 : (Jvm.Cond.methodLink "WeirStream$Account" (24 : Nat) ({ cls := "WeirStream$Account", name := "value", desc := "(J)I" } : Jvm.MethodName)) ∈ lw_all := lw_in (lw_tb (List.mem_of_getElem? (i := 432) (by decide +kernel))) rfl
theorem wq433 : (Jvm.Cond.static ({ cls := "WeirStream$Account", name := "value", desc := "(J)I" } : Jvm.MethodName)) ∈ lw_all := lw_in (lw_tb (List.mem_of_getElem? (i := 433) (by decide +kernel))) rfl
theorem wq434 : (Jvm.Cond.code ({ cls := "WeirStream$Account", name := "value", desc := "(J)I" } : Jvm.MethodName) prog_2_method_3_code (2 : Nat) (Option.some Jvm.ClassFile.FieldType.int)) ∈ lw_all := lw_in (lw_tb (List.mem_of_getElem? (i := 434) (by decide +kernel))) rfl
theorem wq447 : (Jvm.Cond.constantLong "WeirStream$Item" (7 : Nat) (4294967295 : Int64)) ∈ lw_all := lw_in (lw_tb (List.mem_of_getElem? (i := 447) (by decide +kernel))) rfl
theorem wq460 : (Jvm.Cond.constantLong "WeirStream$Item" (11 : Nat) (1152921504606846976 : Int64)) ∈ lw_all := lw_in (lw_tb (List.mem_of_getElem? (i := 460) (by decide +kernel))) rfl
theorem wq485 : (Jvm.Cond.static ({ cls := "WeirStream$Item", name := "value", desc := "(J)I" } : Jvm.MethodName)) ∈ lw_all := lw_in (lw_tb (List.mem_of_getElem? (i := 485) (by decide +kernel))) rfl
theorem wq486 : (Jvm.Cond.code ({ cls := "WeirStream$Item", name := "value", desc := "(J)I" } : Jvm.MethodName) prog_5_method_8_code (2 : Nat) (Option.some Jvm.ClassFile.FieldType.int)) ∈ lw_all := lw_in (lw_tb (List.mem_of_getElem? (i := 486) (by decide +kernel))) rfl
theorem wq490 : (Jvm.Cond.constantLong "WeirStream$Item" (17 : Nat) (255 : Int64)) ∈ lw_all := lw_in (lw_tb (List.mem_of_getElem? (i := 490) (by decide +kernel))) rfl
theorem wq516 : (Jvm.Cond.methodLink "WeirStream$Account" (9 : Nat) ({ cls := "WeirStream$Item", name := "value", desc := "(J)I" } : Jvm.MethodName)) ∈ lw_all := lw_in (lw_tb (List.mem_of_getElem? (i := 516) (by decide +kernel))) rfl
theorem wq517 : (Jvm.Cond.methodLink "WeirStream$Account" (17 : Nat) ({ cls := "WeirStream$Item", name := "time", desc := "(J)I" } : Jvm.MethodName)) ∈ lw_all := lw_in (lw_tb (List.mem_of_getElem? (i := 517) (by decide +kernel))) rfl
theorem wq518 : (Jvm.Cond.methodLink "WeirStream$Account" (20 : Nat) ({ cls := "WeirStream$Account", name := "cell", desc := "(II)J" } : Jvm.MethodName)) ∈ lw_all := lw_in (lw_tb (List.mem_of_getElem? (i := 518) (by decide +kernel))) rfl
theorem wq519 : (Jvm.Cond.static ({ cls := "WeirStream$Account", name := "cell", desc := "(II)J" } : Jvm.MethodName)) ∈ lw_all := lw_in (lw_tb (List.mem_of_getElem? (i := 519) (by decide +kernel))) rfl
theorem wq520 : (Jvm.Cond.code ({ cls := "WeirStream$Account", name := "cell", desc := "(II)J" } : Jvm.MethodName) prog_2_method_2_code (2 : Nat) (Option.some Jvm.ClassFile.FieldType.long)) ∈ lw_all := lw_in (lw_tb (List.mem_of_getElem? (i := 520) (by decide +kernel))) rfl
theorem wq521 : (Jvm.Cond.constantLong "WeirStream$Account" (7 : Nat) (4294967295 : Int64)) ∈ lw_all := lw_in (lw_tb (List.mem_of_getElem? (i := 521) (by decide +kernel))) rfl
theorem wq529 : (Jvm.Cond.methodLink "WeirStream$Account" (28 : Nat) ({ cls := "java/lang/Math", name := "min", desc := "(II)I" } : Jvm.MethodName)) ∈ lw_all := lw_in (lw_tb (List.mem_of_getElem? (i := 529) (by decide +kernel))) rfl
theorem wq530 : (Jvm.Cond.methodLink "WeirStream$Account" (34 : Nat) ({ cls := "java/lang/Math", name := "max", desc := "(II)I" } : Jvm.MethodName)) ∈ lw_all := lw_in (lw_tb (List.mem_of_getElem? (i := 530) (by decide +kernel))) rfl
theorem dX3_event_0 : decode cX3_event 0 = .ok (.iload_n 2, 1) := by decide +kernel
theorem dX3_event_1 : decode cX3_event 1 = .ok (.i2l, 1) := by decide +kernel
theorem dX3_event_2 : decode cX3_event 2 = .ok (.bipush 40, 2) := by decide +kernel
theorem dX3_event_4 : decode cX3_event 4 = .ok (.lshl, 1) := by decide +kernel
theorem dX3_event_5 : decode cX3_event 5 = .ok (.iload_n 0, 1) := by decide +kernel
theorem dX3_event_6 : decode cX3_event 6 = .ok (.i2l, 1) := by decide +kernel
theorem dX3_event_7 : decode cX3_event 7 = .ok (.bipush 32, 2) := by decide +kernel
theorem dX3_event_9 : decode cX3_event 9 = .ok (.lshl, 1) := by decide +kernel
theorem dX3_event_10 : decode cX3_event 10 = .ok (.lor, 1) := by decide +kernel
theorem dX3_event_11 : decode cX3_event 11 = .ok (.iload_n 1, 1) := by decide +kernel
theorem dX3_event_12 : decode cX3_event 12 = .ok (.i2l, 1) := by decide +kernel
theorem dX3_event_13 : decode cX3_event 13 = .ok (.ldc2_w 7, 3) := by decide +kernel
theorem dX3_event_16 : decode cX3_event 16 = .ok (.land, 1) := by decide +kernel
theorem dX3_event_17 : decode cX3_event 17 = .ok (.lor, 1) := by decide +kernel
theorem dX3_event_18 : decode cX3_event 18 = .ok (.lreturn, 1) := by decide +kernel
theorem dX3_mark_0 : decode cX3_mark 0 = .ok (.ldc2_w 11, 3) := by decide +kernel
theorem dX3_mark_3 : decode cX3_mark 3 = .ok (.iload_n 0, 1) := by decide +kernel
theorem dX3_mark_4 : decode cX3_mark 4 = .ok (.i2l, 1) := by decide +kernel
theorem dX3_mark_5 : decode cX3_mark 5 = .ok (.bipush 40, 2) := by decide +kernel
theorem dX3_mark_7 : decode cX3_mark 7 = .ok (.lshl, 1) := by decide +kernel
theorem dX3_mark_8 : decode cX3_mark 8 = .ok (.lor, 1) := by decide +kernel
theorem dX3_mark_9 : decode cX3_mark 9 = .ok (.lreturn, 1) := by decide +kernel
theorem dX3_barrier_0 : decode cX3_barrier 0 = .ok (.ldc2_w 13, 3) := by decide +kernel
theorem dX3_barrier_3 : decode cX3_barrier 3 = .ok (.lreturn, 1) := by decide +kernel
theorem dX3_kind_0 : decode cX3_kind 0 = .ok (.lload_n 0, 1) := by decide +kernel
theorem dX3_kind_1 : decode cX3_kind 1 = .ok (.bipush 60, 2) := by decide +kernel
theorem dX3_kind_3 : decode cX3_kind 3 = .ok (.lushr, 1) := by decide +kernel
theorem dX3_kind_4 : decode cX3_kind 4 = .ok (.l2i, 1) := by decide +kernel
theorem dX3_kind_5 : decode cX3_kind 5 = .ok (.ireturn, 1) := by decide +kernel
theorem dX3_time_0 : decode cX3_time 0 = .ok (.lload_n 0, 1) := by decide +kernel
theorem dX3_time_1 : decode cX3_time 1 = .ok (.bipush 40, 2) := by decide +kernel
theorem dX3_time_3 : decode cX3_time 3 = .ok (.lushr, 1) := by decide +kernel
theorem dX3_time_4 : decode cX3_time 4 = .ok (.ldc2_w 15, 3) := by decide +kernel
theorem dX3_time_7 : decode cX3_time 7 = .ok (.land, 1) := by decide +kernel
theorem dX3_time_8 : decode cX3_time 8 = .ok (.l2i, 1) := by decide +kernel
theorem dX3_time_9 : decode cX3_time 9 = .ok (.ireturn, 1) := by decide +kernel
theorem dX3_key_0 : decode cX3_key 0 = .ok (.lload_n 0, 1) := by decide +kernel
theorem dX3_key_1 : decode cX3_key 1 = .ok (.bipush 32, 2) := by decide +kernel
theorem dX3_key_3 : decode cX3_key 3 = .ok (.lushr, 1) := by decide +kernel
theorem dX3_key_4 : decode cX3_key 4 = .ok (.ldc2_w 17, 3) := by decide +kernel
theorem dX3_key_7 : decode cX3_key 7 = .ok (.land, 1) := by decide +kernel
theorem dX3_key_8 : decode cX3_key 8 = .ok (.l2i, 1) := by decide +kernel
theorem dX3_key_9 : decode cX3_key 9 = .ok (.ireturn, 1) := by decide +kernel
theorem dX3_value_0 : decode cX3_value 0 = .ok (.lload_n 0, 1) := by decide +kernel
theorem dX3_value_1 : decode cX3_value 1 = .ok (.l2i, 1) := by decide +kernel
theorem dX3_value_2 : decode cX3_value 2 = .ok (.ireturn, 1) := by decide +kernel
theorem dX0_cell_0 : decode cX0_cell 0 = .ok (.iload_n 1, 1) := by decide +kernel
theorem dX0_cell_1 : decode cX0_cell 1 = .ok (.i2l, 1) := by decide +kernel
theorem dX0_cell_2 : decode cX0_cell 2 = .ok (.bipush 32, 2) := by decide +kernel
theorem dX0_cell_4 : decode cX0_cell 4 = .ok (.lshl, 1) := by decide +kernel
theorem dX0_cell_5 : decode cX0_cell 5 = .ok (.iload_n 0, 1) := by decide +kernel
theorem dX0_cell_6 : decode cX0_cell 6 = .ok (.i2l, 1) := by decide +kernel
theorem dX0_cell_7 : decode cX0_cell 7 = .ok (.ldc2_w 7, 3) := by decide +kernel
theorem dX0_cell_10 : decode cX0_cell 10 = .ok (.land, 1) := by decide +kernel
theorem dX0_cell_11 : decode cX0_cell 11 = .ok (.lor, 1) := by decide +kernel
theorem dX0_cell_12 : decode cX0_cell 12 = .ok (.lreturn, 1) := by decide +kernel
theorem dX0_value_0 : decode cX0_value 0 = .ok (.lload_n 0, 1) := by decide +kernel
theorem dX0_value_1 : decode cX0_value 1 = .ok (.l2i, 1) := by decide +kernel
theorem dX0_value_2 : decode cX0_value 2 = .ok (.ireturn, 1) := by decide +kernel
theorem dX0_beside_0 : decode cX0_beside 0 = .ok (.lload_n 0, 1) := by decide +kernel
theorem dX0_beside_1 : decode cX0_beside 1 = .ok (.bipush 32, 2) := by decide +kernel
theorem dX0_beside_3 : decode cX0_beside 3 = .ok (.lshr, 1) := by decide +kernel
theorem dX0_beside_4 : decode cX0_beside 4 = .ok (.l2i, 1) := by decide +kernel
theorem dX0_beside_5 : decode cX0_beside 5 = .ok (.ireturn, 1) := by decide +kernel
theorem dX0_ofOne_0 : decode cX0_ofOne 0 = .ok (.iload_n 0, 1) := by decide +kernel
theorem dX0_ofOne_1 : decode cX0_ofOne 1 = .ok (.ifCond .ne 7, 3) := by decide +kernel
theorem dX0_ofOne_4 : decode cX0_ofOne 4 = .ok (.iconst 1, 1) := by decide +kernel
theorem dX0_ofOne_5 : decode cX0_ofOne 5 = .ok (.goto 7, 3) := by decide +kernel
theorem dX0_ofOne_12 : decode cX0_ofOne 12 = .ok (.istore_n 3, 1) := by decide +kernel
theorem dX0_ofOne_13 : decode cX0_ofOne 13 = .ok (.iload_n 3, 1) := by decide +kernel
theorem dX0_ofOne_14 : decode cX0_ofOne 14 = .ok (.iload_n 0, 1) := by decide +kernel
theorem dX0_ofOne_15 : decode cX0_ofOne 15 = .ok (.iconst 4, 1) := by decide +kernel
theorem dX0_ofOne_16 : decode cX0_ofOne 16 = .ok (.if_icmp .ne 10, 3) := by decide +kernel
theorem dX0_ofOne_19 : decode cX0_ofOne 19 = .ok (.lload_n 1, 1) := by decide +kernel
theorem dX0_ofOne_20 : decode cX0_ofOne 20 = .ok (.invokestatic 17, 3) := by decide +kernel
theorem dX0_ofOne_23 : decode cX0_ofOne 23 = .ok (.goto 4, 3) := by decide +kernel
theorem dX0_ofOne_27 : decode cX0_ofOne 27 = .ok (.invokestatic 20, 3) := by decide +kernel
theorem dX0_ofOne_30 : decode cX0_ofOne 30 = .ok (.lreturn, 1) := by decide +kernel
theorem dX0_ofOne_26 : decode cX0_ofOne 26 = .ok (.iconst 1, 1) := by decide +kernel
theorem dX0_ofOne_8 : decode cX0_ofOne 8 = .ok (.lload_n 1, 1) := by decide +kernel
theorem dX0_ofOne_9 : decode cX0_ofOne 9 = .ok (.invokestatic 9, 3) := by decide +kernel
theorem dX0_ofBoth_0 : decode cX0_ofBoth 0 = .ok (.lload_n 1, 1) := by decide +kernel
theorem dX0_ofBoth_1 : decode cX0_ofBoth 1 = .ok (.invokestatic 24, 3) := by decide +kernel
theorem dX0_ofBoth_4 : decode cX0_ofBoth 4 = .ok (.istore 5, 2) := by decide +kernel
theorem dX0_ofBoth_6 : decode cX0_ofBoth 6 = .ok (.lload_n 3, 1) := by decide +kernel
theorem dX0_ofBoth_7 : decode cX0_ofBoth 7 = .ok (.invokestatic 24, 3) := by decide +kernel
theorem dX0_ofBoth_10 : decode cX0_ofBoth 10 = .ok (.istore 6, 2) := by decide +kernel
theorem dX0_ofBoth_12 : decode cX0_ofBoth 12 = .ok (.lload_n 1, 1) := by decide +kernel
theorem dX0_ofBoth_13 : decode cX0_ofBoth 13 = .ok (.invokestatic 25, 3) := by decide +kernel
theorem dX0_ofBoth_16 : decode cX0_ofBoth 16 = .ok (.lload_n 3, 1) := by decide +kernel
theorem dX0_ofBoth_17 : decode cX0_ofBoth 17 = .ok (.invokestatic 25, 3) := by decide +kernel
theorem dX0_ofBoth_20 : decode cX0_ofBoth 20 = .ok (.iadd, 1) := by decide +kernel
theorem dX0_ofBoth_21 : decode cX0_ofBoth 21 = .ok (.istore 7, 2) := by decide +kernel
theorem dX0_ofBoth_23 : decode cX0_ofBoth 23 = .ok (.iload_n 0, 1) := by decide +kernel
theorem dX0_ofBoth_24 : decode cX0_ofBoth 24 = .ok (.tableswitch 71 2 4 #[28, 41, 54], 28) := by decide +kernel
theorem dX0_ofBoth_52 : decode cX0_ofBoth 52 = .ok (.iload 5, 2) := by decide +kernel
theorem dX0_ofBoth_54 : decode cX0_ofBoth 54 = .ok (.iload 6, 2) := by decide +kernel
theorem dX0_ofBoth_56 : decode cX0_ofBoth 56 = .ok (.invokestatic 28, 3) := by decide +kernel
theorem dX0_ofBoth_59 : decode cX0_ofBoth 59 = .ok (.iload 7, 2) := by decide +kernel
theorem dX0_ofBoth_61 : decode cX0_ofBoth 61 = .ok (.invokestatic 20, 3) := by decide +kernel
theorem dX0_ofBoth_64 : decode cX0_ofBoth 64 = .ok (.lreturn, 1) := by decide +kernel
theorem dX0_ofBoth_65 : decode cX0_ofBoth 65 = .ok (.iload 5, 2) := by decide +kernel
theorem dX0_ofBoth_67 : decode cX0_ofBoth 67 = .ok (.iload 6, 2) := by decide +kernel
theorem dX0_ofBoth_69 : decode cX0_ofBoth 69 = .ok (.invokestatic 34, 3) := by decide +kernel
theorem dX0_ofBoth_72 : decode cX0_ofBoth 72 = .ok (.iload 7, 2) := by decide +kernel
theorem dX0_ofBoth_74 : decode cX0_ofBoth 74 = .ok (.invokestatic 20, 3) := by decide +kernel
theorem dX0_ofBoth_77 : decode cX0_ofBoth 77 = .ok (.lreturn, 1) := by decide +kernel
theorem dX0_ofBoth_78 : decode cX0_ofBoth 78 = .ok (.lload_n 3, 1) := by decide +kernel
theorem dX0_ofBoth_79 : decode cX0_ofBoth 79 = .ok (.invokestatic 25, 3) := by decide +kernel
theorem dX0_ofBoth_82 : decode cX0_ofBoth 82 = .ok (.lload_n 1, 1) := by decide +kernel
theorem dX0_ofBoth_83 : decode cX0_ofBoth 83 = .ok (.invokestatic 25, 3) := by decide +kernel
theorem dX0_ofBoth_86 : decode cX0_ofBoth 86 = .ok (.if_icmp .lt 7, 3) := by decide +kernel
theorem dX0_ofBoth_93 : decode cX0_ofBoth 93 = .ok (.lload_n 1, 1) := by decide +kernel
theorem dX0_ofBoth_94 : decode cX0_ofBoth 94 = .ok (.lreturn, 1) := by decide +kernel
theorem dX0_ofBoth_89 : decode cX0_ofBoth 89 = .ok (.lload_n 3, 1) := by decide +kernel
theorem dX0_ofBoth_90 : decode cX0_ofBoth 90 = .ok (.goto 4, 3) := by decide +kernel
theorem dX0_ofBoth_95 : decode cX0_ofBoth 95 = .ok (.iload 5, 2) := by decide +kernel
theorem dX0_ofBoth_97 : decode cX0_ofBoth 97 = .ok (.iload 6, 2) := by decide +kernel
theorem dX0_ofBoth_99 : decode cX0_ofBoth 99 = .ok (.iadd, 1) := by decide +kernel
theorem dX0_ofBoth_100 : decode cX0_ofBoth 100 = .ok (.iload 7, 2) := by decide +kernel
theorem dX0_ofBoth_102 : decode cX0_ofBoth 102 = .ok (.invokestatic 20, 3) := by decide +kernel
theorem dX0_ofBoth_105 : decode cX0_ofBoth 105 = .ok (.lreturn, 1) := by decide +kernel
theorem dX0_answer_0 : decode cX0_answer 0 = .ok (.lload_n 1, 1) := by decide +kernel
theorem dX0_answer_1 : decode cX0_answer 1 = .ok (.invokestatic 25, 3) := by decide +kernel
theorem dX0_answer_4 : decode cX0_answer 4 = .ok (.istore_n 3, 1) := by decide +kernel
theorem dX0_answer_5 : decode cX0_answer 5 = .ok (.iload_n 0, 1) := by decide +kernel
theorem dX0_answer_6 : decode cX0_answer 6 = .ok (.iconst 5, 1) := by decide +kernel
theorem dX0_answer_7 : decode cX0_answer 7 = .ok (.if_icmp .ne 16, 3) := by decide +kernel
theorem dX0_answer_10 : decode cX0_answer 10 = .ok (.iload_n 3, 1) := by decide +kernel
theorem dX0_answer_11 : decode cX0_answer 11 = .ok (.ifCond .eq 12, 3) := by decide +kernel
theorem dX0_answer_23 : decode cX0_answer 23 = .ok (.lload_n 1, 1) := by decide +kernel
theorem dX0_answer_24 : decode cX0_answer 24 = .ok (.invokestatic 24, 3) := by decide +kernel
theorem dX0_answer_27 : decode cX0_answer 27 = .ok (.ireturn, 1) := by decide +kernel
theorem dX0_answer_14 : decode cX0_answer 14 = .ok (.lload_n 1, 1) := by decide +kernel
theorem dX0_answer_15 : decode cX0_answer 15 = .ok (.invokestatic 24, 3) := by decide +kernel
theorem dX0_answer_18 : decode cX0_answer 18 = .ok (.iload_n 3, 1) := by decide +kernel
theorem dX0_answer_19 : decode cX0_answer 19 = .ok (.idiv, 1) := by decide +kernel
theorem dX0_answer_20 : decode cX0_answer 20 = .ok (.goto 7, 3) := by decide +kernel
theorem dX7_name_0 : decode cX7_name 0 = .ok (.iload_n 0, 1) := by decide +kernel
theorem dX7_name_1 : decode cX7_name 1 = .ok (.i2l, 1) := by decide +kernel
theorem dX7_name_2 : decode cX7_name 2 = .ok (.bipush 29, 2) := by decide +kernel
theorem dX7_name_4 : decode cX7_name 4 = .ok (.lshl, 1) := by decide +kernel
theorem dX7_name_5 : decode cX7_name 5 = .ok (.iload_n 1, 1) := by decide +kernel
theorem dX7_name_6 : decode cX7_name 6 = .ok (.i2l, 1) := by decide +kernel
theorem dX7_name_7 : decode cX7_name 7 = .ok (.bipush 21, 2) := by decide +kernel
theorem dX7_name_9 : decode cX7_name 9 = .ok (.lshl, 1) := by decide +kernel
theorem dX7_name_10 : decode cX7_name 10 = .ok (.lor, 1) := by decide +kernel
theorem dX7_name_11 : decode cX7_name 11 = .ok (.iload_n 2, 1) := by decide +kernel
theorem dX7_name_12 : decode cX7_name 12 = .ok (.sipush 1000, 3) := by decide +kernel
theorem dX7_name_15 : decode cX7_name 15 = .ok (.iadd, 1) := by decide +kernel
theorem dX7_name_16 : decode cX7_name 16 = .ok (.i2l, 1) := by decide +kernel
theorem dX7_name_17 : decode cX7_name 17 = .ok (.lor, 1) := by decide +kernel
theorem dX7_name_18 : decode cX7_name 18 = .ok (.lreturn, 1) := by decide +kernel
end
section
def v_X3_event (i1 : Int32) (i2 : Int32) (i3 : Int32) : Int64 := ((i3.toInt64 <<< ((40 : Int32).toInt64 &&& 63)) ||| (i1.toInt64 <<< ((32 : Int32).toInt64 &&& 63))) ||| (i2.toInt64 &&& 4294967295)
set_option maxHeartbeats 4000000 in
set_option maxRecDepth 100000 in
theorem k_X3_event (l : Launch) (i1 : Int32) (i2 : Int32) (i3 : Int32)  : Met l yX3_event (ws_ yX3_event cX3_event 3 (some .long)) ({ frames := 0, cells := 0, slots := 0, locals := 0 }) (PN [.int i1, .int i2, .int i3]) (zQ (some (.long (v_X3_event i1 i2 i3)))) 0 0 zno := by
  refine tk_N (by decide) (Nat.le_of_ble_eq_true rfl) ?_
  intro p e s m args below meth c ls hx hb hml hr hlk hown hts hl
  have hl : lv_has ls 3 [(0, .int i1), (1, .int i2), (2, .int i3)] := hl
  refine lv_iload_n hx hb dX3_event_0 rfl (lv_at hl 2 rfl) ?_
  refine lv_i2l (v := i3.toInt64) hx hb dX3_event_1 rfl ?_
  refine lv_bipush (v := 40) hx hb dX3_event_2 (by decide) ?_
  refine lv_lshl (v := i3.toInt64 <<< ((40 : Int32).toInt64 &&& 63)) hx hb dX3_event_4 rfl ?_
  refine lv_iload_n hx hb dX3_event_5 rfl (lv_at hl 0 rfl) ?_
  refine lv_i2l (v := i1.toInt64) hx hb dX3_event_6 rfl ?_
  refine lv_bipush (v := 32) hx hb dX3_event_7 (by decide) ?_
  refine lv_lshl (v := i1.toInt64 <<< ((32 : Int32).toInt64 &&& 63)) hx hb dX3_event_9 rfl ?_
  refine lv_lor hx hb dX3_event_10 ?_
  refine lv_iload_n hx hb dX3_event_11 rfl (lv_at hl 1 rfl) ?_
  refine lv_i2l (v := i2.toInt64) hx hb dX3_event_12 rfl ?_
  refine lv_ldc2 hx hb hown (hts _ wq447) dX3_event_13 ?_
  refine lv_land hx hb dX3_event_16 ?_
  refine lv_lor hx hb dX3_event_17 ?_
  exact ze_l hx hb hr hlk (by rfl) dX3_event_18
def v_X3_mark (i1 : Int32) : Int64 := 1152921504606846976 ||| (i1.toInt64 <<< ((40 : Int32).toInt64 &&& 63))
set_option maxHeartbeats 4000000 in
set_option maxRecDepth 100000 in
theorem k_X3_mark (l : Launch) (i1 : Int32)  : Met l yX3_mark (ws_ yX3_mark cX3_mark 1 (some .long)) ({ frames := 0, cells := 0, slots := 0, locals := 0 }) (PN [.int i1]) (zQ (some (.long (v_X3_mark i1)))) 0 0 zno := by
  refine tk_N (by decide) (Nat.le_of_ble_eq_true rfl) ?_
  intro p e s m args below meth c ls hx hb hml hr hlk hown hts hl
  have hl : lv_has ls 1 [(0, .int i1)] := hl
  refine lv_ldc2 hx hb hown (hts _ wq460) dX3_mark_0 ?_
  refine lv_iload_n hx hb dX3_mark_3 rfl (lv_at hl 0 rfl) ?_
  refine lv_i2l (v := i1.toInt64) hx hb dX3_mark_4 rfl ?_
  refine lv_bipush (v := 40) hx hb dX3_mark_5 (by decide) ?_
  refine lv_lshl (v := i1.toInt64 <<< ((40 : Int32).toInt64 &&& 63)) hx hb dX3_mark_7 rfl ?_
  refine lv_lor hx hb dX3_mark_8 ?_
  exact ze_l hx hb hr hlk (by rfl) dX3_mark_9
def v_X3_barrier : Int64 := 2305843009213693952
set_option maxHeartbeats 4000000 in
set_option maxRecDepth 100000 in
theorem k_X3_barrier (l : Launch)   : Met l yX3_barrier (ws_ yX3_barrier cX3_barrier 0 (some .long)) ({ frames := 0, cells := 0, slots := 0, locals := 0 }) (PN []) (zQ (some (.long (v_X3_barrier)))) 0 0 zno := by
  refine tk_N (by decide) (Nat.le_of_ble_eq_true rfl) ?_
  intro p e s m args below meth c ls hx hb hml hr hlk hown hts hl
  have hl : lv_has ls 0 [] := hl
  refine lv_ldc2 hx hb hown (hts _ wq335) dX3_barrier_0 ?_
  exact ze_l hx hb hr hlk (by rfl) dX3_barrier_3
def v_X3_kind (l1 : Int64) : Int32 := ((l1.toUInt64 >>> ((60 : Int32).toInt64.toUInt64 &&& Int64.toUInt64 63)).toInt64).toInt32
set_option maxHeartbeats 4000000 in
set_option maxRecDepth 100000 in
theorem k_X3_kind (l : Launch) (l1 : Int64)  : Met l yX3_kind (ws_ yX3_kind cX3_kind 2 (some .int)) ({ frames := 0, cells := 0, slots := 0, locals := 0 }) (PN [.long l1]) (zQ (some (.int (v_X3_kind l1)))) 0 0 zno := by
  refine tk_N (by decide) (Nat.le_of_ble_eq_true rfl) ?_
  intro p e s m args below meth c ls hx hb hml hr hlk hown hts hl
  have hl : lv_has ls 2 [(0, .long l1)] := hl
  refine lv_lload_n hx hb dX3_kind_0 rfl (lv_at hl 0 rfl) ?_
  refine lv_bipush (v := 60) hx hb dX3_kind_1 (by decide) ?_
  refine lv_lushr (v := (l1.toUInt64 >>> ((60 : Int32).toInt64.toUInt64 &&& Int64.toUInt64 63)).toInt64) hx hb dX3_kind_3 rfl ?_
  refine lv_l2i (v := ((l1.toUInt64 >>> ((60 : Int32).toInt64.toUInt64 &&& Int64.toUInt64 63)).toInt64).toInt32) hx hb dX3_kind_4 rfl ?_
  exact ze_i hx hb hr hlk rfl (by rfl) dX3_kind_5
def v_X3_time (l1 : Int64) : Int32 := (((l1.toUInt64 >>> ((40 : Int32).toInt64.toUInt64 &&& Int64.toUInt64 63)).toInt64) &&& 1048575).toInt32
set_option maxHeartbeats 4000000 in
set_option maxRecDepth 100000 in
theorem k_X3_time (l : Launch) (l1 : Int64)  : Met l yX3_time (ws_ yX3_time cX3_time 2 (some .int)) ({ frames := 0, cells := 0, slots := 0, locals := 0 }) (PN [.long l1]) (zQ (some (.int (v_X3_time l1)))) 0 0 zno := by
  refine tk_N (by decide) (Nat.le_of_ble_eq_true rfl) ?_
  intro p e s m args below meth c ls hx hb hml hr hlk hown hts hl
  have hl : lv_has ls 2 [(0, .long l1)] := hl
  refine lv_lload_n hx hb dX3_time_0 rfl (lv_at hl 0 rfl) ?_
  refine lv_bipush (v := 40) hx hb dX3_time_1 (by decide) ?_
  refine lv_lushr (v := (l1.toUInt64 >>> ((40 : Int32).toInt64.toUInt64 &&& Int64.toUInt64 63)).toInt64) hx hb dX3_time_3 rfl ?_
  refine lv_ldc2 hx hb hown (hts _ wq398) dX3_time_4 ?_
  refine lv_land hx hb dX3_time_7 ?_
  refine lv_l2i (v := (((l1.toUInt64 >>> ((40 : Int32).toInt64.toUInt64 &&& Int64.toUInt64 63)).toInt64) &&& 1048575).toInt32) hx hb dX3_time_8 rfl ?_
  exact ze_i hx hb hr hlk rfl (by rfl) dX3_time_9
def v_X3_key (l1 : Int64) : Int32 := (((l1.toUInt64 >>> ((32 : Int32).toInt64.toUInt64 &&& Int64.toUInt64 63)).toInt64) &&& 255).toInt32
set_option maxHeartbeats 4000000 in
set_option maxRecDepth 100000 in
theorem k_X3_key (l : Launch) (l1 : Int64)  : Met l yX3_key (ws_ yX3_key cX3_key 2 (some .int)) ({ frames := 0, cells := 0, slots := 0, locals := 0 }) (PN [.long l1]) (zQ (some (.int (v_X3_key l1)))) 0 0 zno := by
  refine tk_N (by decide) (Nat.le_of_ble_eq_true rfl) ?_
  intro p e s m args below meth c ls hx hb hml hr hlk hown hts hl
  have hl : lv_has ls 2 [(0, .long l1)] := hl
  refine lv_lload_n hx hb dX3_key_0 rfl (lv_at hl 0 rfl) ?_
  refine lv_bipush (v := 32) hx hb dX3_key_1 (by decide) ?_
  refine lv_lushr (v := (l1.toUInt64 >>> ((32 : Int32).toInt64.toUInt64 &&& Int64.toUInt64 63)).toInt64) hx hb dX3_key_3 rfl ?_
  refine lv_ldc2 hx hb hown (hts _ wq490) dX3_key_4 ?_
  refine lv_land hx hb dX3_key_7 ?_
  refine lv_l2i (v := (((l1.toUInt64 >>> ((32 : Int32).toInt64.toUInt64 &&& Int64.toUInt64 63)).toInt64) &&& 255).toInt32) hx hb dX3_key_8 rfl ?_
  exact ze_i hx hb hr hlk rfl (by rfl) dX3_key_9
def v_X3_value (l1 : Int64) : Int32 := l1.toInt32
set_option maxHeartbeats 4000000 in
set_option maxRecDepth 100000 in
theorem k_X3_value (l : Launch) (l1 : Int64)  : Met l yX3_value (ws_ yX3_value cX3_value 2 (some .int)) ({ frames := 0, cells := 0, slots := 0, locals := 0 }) (PN [.long l1]) (zQ (some (.int (v_X3_value l1)))) 0 0 zno := by
  refine tk_N (by decide) (Nat.le_of_ble_eq_true rfl) ?_
  intro p e s m args below meth c ls hx hb hml hr hlk hown hts hl
  have hl : lv_has ls 2 [(0, .long l1)] := hl
  refine lv_lload_n hx hb dX3_value_0 rfl (lv_at hl 0 rfl) ?_
  refine lv_l2i (v := l1.toInt32) hx hb dX3_value_1 rfl ?_
  exact ze_i hx hb hr hlk rfl (by rfl) dX3_value_2
def v_X0_cell (i1 : Int32) (i2 : Int32) : Int64 := (i2.toInt64 <<< ((32 : Int32).toInt64 &&& 63)) ||| (i1.toInt64 &&& 4294967295)
set_option maxHeartbeats 4000000 in
set_option maxRecDepth 100000 in
theorem k_X0_cell (l : Launch) (i1 : Int32) (i2 : Int32)  : Met l yX0_cell (ws_ yX0_cell cX0_cell 2 (some .long)) ({ frames := 0, cells := 0, slots := 0, locals := 0 }) (PN [.int i1, .int i2]) (zQ (some (.long (v_X0_cell i1 i2)))) 0 0 zno := by
  refine tk_N (by decide) (Nat.le_of_ble_eq_true rfl) ?_
  intro p e s m args below meth c ls hx hb hml hr hlk hown hts hl
  have hl : lv_has ls 2 [(0, .int i1), (1, .int i2)] := hl
  refine lv_iload_n hx hb dX0_cell_0 rfl (lv_at hl 1 rfl) ?_
  refine lv_i2l (v := i2.toInt64) hx hb dX0_cell_1 rfl ?_
  refine lv_bipush (v := 32) hx hb dX0_cell_2 (by decide) ?_
  refine lv_lshl (v := i2.toInt64 <<< ((32 : Int32).toInt64 &&& 63)) hx hb dX0_cell_4 rfl ?_
  refine lv_iload_n hx hb dX0_cell_5 rfl (lv_at hl 0 rfl) ?_
  refine lv_i2l (v := i1.toInt64) hx hb dX0_cell_6 rfl ?_
  refine lv_ldc2 hx hb hown (hts _ wq521) dX0_cell_7 ?_
  refine lv_land hx hb dX0_cell_10 ?_
  refine lv_lor hx hb dX0_cell_11 ?_
  exact ze_l hx hb hr hlk (by rfl) dX0_cell_12
def v_X0_value (l1 : Int64) : Int32 := l1.toInt32
set_option maxHeartbeats 4000000 in
set_option maxRecDepth 100000 in
theorem k_X0_value (l : Launch) (l1 : Int64)  : Met l yX0_value (ws_ yX0_value cX0_value 2 (some .int)) ({ frames := 0, cells := 0, slots := 0, locals := 0 }) (PN [.long l1]) (zQ (some (.int (v_X0_value l1)))) 0 0 zno := by
  refine tk_N (by decide) (Nat.le_of_ble_eq_true rfl) ?_
  intro p e s m args below meth c ls hx hb hml hr hlk hown hts hl
  have hl : lv_has ls 2 [(0, .long l1)] := hl
  refine lv_lload_n hx hb dX0_value_0 rfl (lv_at hl 0 rfl) ?_
  refine lv_l2i (v := l1.toInt32) hx hb dX0_value_1 rfl ?_
  exact ze_i hx hb hr hlk rfl (by rfl) dX0_value_2
def v_X0_beside (l1 : Int64) : Int32 := (l1 >>> ((32 : Int32).toInt64 &&& 63)).toInt32
set_option maxHeartbeats 4000000 in
set_option maxRecDepth 100000 in
theorem k_X0_beside (l : Launch) (l1 : Int64)  : Met l yX0_beside (ws_ yX0_beside cX0_beside 2 (some .int)) ({ frames := 0, cells := 0, slots := 0, locals := 0 }) (PN [.long l1]) (zQ (some (.int (v_X0_beside l1)))) 0 0 zno := by
  refine tk_N (by decide) (Nat.le_of_ble_eq_true rfl) ?_
  intro p e s m args below meth c ls hx hb hml hr hlk hown hts hl
  have hl : lv_has ls 2 [(0, .long l1)] := hl
  refine lv_lload_n hx hb dX0_beside_0 rfl (lv_at hl 0 rfl) ?_
  refine lv_bipush (v := 32) hx hb dX0_beside_1 (by decide) ?_
  refine lv_lshr (v := l1 >>> ((32 : Int32).toInt64 &&& 63)) hx hb dX0_beside_3 rfl ?_
  refine lv_l2i (v := (l1 >>> ((32 : Int32).toInt64 &&& 63)).toInt32) hx hb dX0_beside_4 rfl ?_
  exact ze_i hx hb hr hlk rfl (by rfl) dX0_beside_5
def v_X0_ofOne (i1 : Int32) (l1 : Int64) : Int64 := if i1 = 0 then if i1 = 4 then v_X0_cell 1 (v_X3_time l1) else v_X0_cell 1 1 else if i1 = 4 then v_X0_cell (v_X3_value l1) (v_X3_time l1) else v_X0_cell (v_X3_value l1) 1
set_option maxHeartbeats 4000000 in
set_option maxRecDepth 100000 in
theorem k_X0_ofOne (l : Launch) (i1 : Int32) (l1 : Int64)  : Met l yX0_ofOne (ws_ yX0_ofOne cX0_ofOne 4 (some .long)) ({ frames := 1, cells := 0, slots := 0, locals := 21 }) (PN [.int i1, .long l1]) (zQ (some (.long (v_X0_ofOne i1 l1)))) 0 0 zno := by
  refine tk_N (by decide) (Nat.le_of_ble_eq_true rfl) ?_
  intro p e s m args below meth c ls hx hb hml hr hlk hown hts hl
  have hl : lv_has ls 4 [(0, .int i1), (1, .long l1)] := hl
  refine lv_iload_n hx hb dX0_ofOne_0 rfl (lv_at hl 0 rfl) ?_
  refine lv_if_ne (tgt := 8) hx hb dX0_ofOne_1 (by decide) (fun hb1 => ?_) (fun hb1 => ?_)
  · refine lv_lload_n hx hb dX0_ofOne_8 rfl (lv_at hl 1 rfl) ?_
    refine zr_i (va_runS (As := [.long l1]) (rest := []) ⟨hx, hb, hml, hown, hts⟩ (k_X3_value l l1) (va_cwS 1 hts (lw_S wq516 wq485 wq25 wq486) rfl rfl rfl (by decide +kernel) ⟨(Nat.le_of_ble_eq_true rfl), (Nat.le_of_ble_eq_true rfl)⟩) tp_N rfl rfl hl.1 rfl (lv_room (Nat.le_of_ble_eq_true rfl)) dX0_ofOne_9 ⟨(Nat.le_of_ble_eq_true rfl), (Nat.le_of_ble_eq_true rfl)⟩) ?_
    refine lv_istore_n (lv' := [(3, .int (v_X3_value l1)), (0, .int i1), (1, .long l1)]) hx hb dX0_ofOne_12 rfl hl (by decide) rfl (fun ls hl => ?_)
    refine lv_iload_n hx hb dX0_ofOne_13 rfl (lv_at hl 0 rfl) ?_
    refine lv_iload_n hx hb dX0_ofOne_14 rfl (lv_at hl 1 rfl) ?_
    refine lv_iconst (v := 4) hx hb dX0_ofOne_15 (by decide) ?_
    refine lv_icmp_ne (tgt := 26) hx hb dX0_ofOne_16 (by decide) (fun hb3 => ?_) (fun hb3 => ?_)
    · refine lv_iconst (v := 1) hx hb dX0_ofOne_26 (by decide) ?_
      refine zr_l (va_runS (As := [.int (v_X3_value l1), .int 1]) (rest := []) ⟨hx, hb, hml, hown, hts⟩ (k_X0_cell l (v_X3_value l1) 1) (va_cwS 2 hts (lw_S wq518 wq519 wq26 wq520) rfl rfl rfl (by decide +kernel) ⟨(Nat.le_of_ble_eq_true rfl), (Nat.le_of_ble_eq_true rfl)⟩) tp_N rfl rfl hl.1 rfl (lv_room (Nat.le_of_ble_eq_true rfl)) dX0_ofOne_27 ⟨(Nat.le_of_ble_eq_true rfl), (Nat.le_of_ble_eq_true rfl)⟩) ?_
      exact ze_l hx hb hr hlk (by unfold v_X0_ofOne; rw [if_neg hb1, if_neg hb3]) dX0_ofOne_30
    · refine lv_lload_n hx hb dX0_ofOne_19 rfl (lv_at hl 2 rfl) ?_
      refine zr_i (va_runS (As := [.long l1]) (rest := [.int (v_X3_value l1)]) ⟨hx, hb, hml, hown, hts⟩ (k_X3_time l l1) (va_cwS 1 hts (lw_S wq517 wq396 wq25 wq397) rfl rfl rfl (by decide +kernel) ⟨(Nat.le_of_ble_eq_true rfl), (Nat.le_of_ble_eq_true rfl)⟩) tp_N rfl rfl hl.1 rfl (lv_room (Nat.le_of_ble_eq_true rfl)) dX0_ofOne_20 ⟨(Nat.le_of_ble_eq_true rfl), (Nat.le_of_ble_eq_true rfl)⟩) ?_
      refine lv_goto (tgt := 27) hx hb dX0_ofOne_23 (by decide) ?_
      refine zr_l (va_runS (As := [.int (v_X3_value l1), .int (v_X3_time l1)]) (rest := []) ⟨hx, hb, hml, hown, hts⟩ (k_X0_cell l (v_X3_value l1) (v_X3_time l1)) (va_cwS 2 hts (lw_S wq518 wq519 wq26 wq520) rfl rfl rfl (by decide +kernel) ⟨(Nat.le_of_ble_eq_true rfl), (Nat.le_of_ble_eq_true rfl)⟩) tp_N rfl rfl hl.1 rfl (lv_room (Nat.le_of_ble_eq_true rfl)) dX0_ofOne_27 ⟨(Nat.le_of_ble_eq_true rfl), (Nat.le_of_ble_eq_true rfl)⟩) ?_
      exact ze_l hx hb hr hlk (by unfold v_X0_ofOne; rw [if_neg hb1, if_pos hb3]) dX0_ofOne_30
  · refine lv_iconst (v := 1) hx hb dX0_ofOne_4 (by decide) ?_
    refine lv_goto (tgt := 12) hx hb dX0_ofOne_5 (by decide) ?_
    refine lv_istore_n (lv' := [(3, .int 1), (0, .int i1), (1, .long l1)]) hx hb dX0_ofOne_12 rfl hl (by decide) rfl (fun ls hl => ?_)
    refine lv_iload_n hx hb dX0_ofOne_13 rfl (lv_at hl 0 rfl) ?_
    refine lv_iload_n hx hb dX0_ofOne_14 rfl (lv_at hl 1 rfl) ?_
    refine lv_iconst (v := 4) hx hb dX0_ofOne_15 (by decide) ?_
    refine lv_icmp_ne (tgt := 26) hx hb dX0_ofOne_16 (by decide) (fun hb2 => ?_) (fun hb2 => ?_)
    · refine lv_iconst (v := 1) hx hb dX0_ofOne_26 (by decide) ?_
      refine zr_l (va_runS (As := [.int 1, .int 1]) (rest := []) ⟨hx, hb, hml, hown, hts⟩ (k_X0_cell l 1 1) (va_cwS 2 hts (lw_S wq518 wq519 wq26 wq520) rfl rfl rfl (by decide +kernel) ⟨(Nat.le_of_ble_eq_true rfl), (Nat.le_of_ble_eq_true rfl)⟩) tp_N rfl rfl hl.1 rfl (lv_room (Nat.le_of_ble_eq_true rfl)) dX0_ofOne_27 ⟨(Nat.le_of_ble_eq_true rfl), (Nat.le_of_ble_eq_true rfl)⟩) ?_
      exact ze_l hx hb hr hlk (by unfold v_X0_ofOne; rw [if_pos hb1, if_neg hb2]) dX0_ofOne_30
    · refine lv_lload_n hx hb dX0_ofOne_19 rfl (lv_at hl 2 rfl) ?_
      refine zr_i (va_runS (As := [.long l1]) (rest := [.int 1]) ⟨hx, hb, hml, hown, hts⟩ (k_X3_time l l1) (va_cwS 1 hts (lw_S wq517 wq396 wq25 wq397) rfl rfl rfl (by decide +kernel) ⟨(Nat.le_of_ble_eq_true rfl), (Nat.le_of_ble_eq_true rfl)⟩) tp_N rfl rfl hl.1 rfl (lv_room (Nat.le_of_ble_eq_true rfl)) dX0_ofOne_20 ⟨(Nat.le_of_ble_eq_true rfl), (Nat.le_of_ble_eq_true rfl)⟩) ?_
      refine lv_goto (tgt := 27) hx hb dX0_ofOne_23 (by decide) ?_
      refine zr_l (va_runS (As := [.int 1, .int (v_X3_time l1)]) (rest := []) ⟨hx, hb, hml, hown, hts⟩ (k_X0_cell l 1 (v_X3_time l1)) (va_cwS 2 hts (lw_S wq518 wq519 wq26 wq520) rfl rfl rfl (by decide +kernel) ⟨(Nat.le_of_ble_eq_true rfl), (Nat.le_of_ble_eq_true rfl)⟩) tp_N rfl rfl hl.1 rfl (lv_room (Nat.le_of_ble_eq_true rfl)) dX0_ofOne_27 ⟨(Nat.le_of_ble_eq_true rfl), (Nat.le_of_ble_eq_true rfl)⟩) ?_
      exact ze_l hx hb hr hlk (by unfold v_X0_ofOne; rw [if_pos hb1, if_pos hb2]) dX0_ofOne_30
def v_X0_ofBoth (i1 : Int32) (l1 : Int64) (l2 : Int64) : Int64 := if i1 = 2 then v_X0_cell (zmin (v_X0_value l1) (v_X0_value l2)) ((v_X0_beside l1) + (v_X0_beside l2)) else if i1 = 3 then v_X0_cell (zmax (v_X0_value l1) (v_X0_value l2)) ((v_X0_beside l1) + (v_X0_beside l2)) else if i1 = 4 then if (v_X0_beside l2) < (v_X0_beside l1) then l1 else l2 else v_X0_cell ((v_X0_value l1) + (v_X0_value l2)) ((v_X0_beside l1) + (v_X0_beside l2))
set_option maxHeartbeats 4000000 in
set_option maxRecDepth 100000 in
theorem k_X0_ofBoth (l : Launch) (i1 : Int32) (l1 : Int64) (l2 : Int64)  : Met l yX0_ofBoth (ws_ yX0_ofBoth cX0_ofBoth 8 (some .long)) ({ frames := 1, cells := 0, slots := 0, locals := 21 }) (PN [.int i1, .long l1, .long l2]) (zQ (some (.long (v_X0_ofBoth i1 l1 l2)))) 0 0 zno := by
  refine tk_N (by decide) (Nat.le_of_ble_eq_true rfl) ?_
  intro p e s m args below meth c ls hx hb hml hr hlk hown hts hl
  have hl : lv_has ls 8 [(0, .int i1), (1, .long l1), (3, .long l2)] := hl
  refine lv_lload_n hx hb dX0_ofBoth_0 rfl (lv_at hl 1 rfl) ?_
  refine zr_i (va_runS (As := [.long l1]) (rest := []) ⟨hx, hb, hml, hown, hts⟩ (k_X0_value l l1) (va_cwS 1 hts (lw_S wq432 wq433 wq26 wq434) rfl rfl rfl (by decide +kernel) ⟨(Nat.le_of_ble_eq_true rfl), (Nat.le_of_ble_eq_true rfl)⟩) tp_N rfl rfl hl.1 rfl (lv_room (Nat.le_of_ble_eq_true rfl)) dX0_ofBoth_1 ⟨(Nat.le_of_ble_eq_true rfl), (Nat.le_of_ble_eq_true rfl)⟩) ?_
  refine lv_istore (lv' := [(5, .int (v_X0_value l1)), (0, .int i1), (1, .long l1), (3, .long l2)]) hx hb dX0_ofBoth_4 hl (by decide) rfl (fun ls hl => ?_)
  refine lv_lload_n hx hb dX0_ofBoth_6 rfl (lv_at hl 3 rfl) ?_
  refine zr_i (va_runS (As := [.long l2]) (rest := []) ⟨hx, hb, hml, hown, hts⟩ (k_X0_value l l2) (va_cwS 1 hts (lw_S wq432 wq433 wq26 wq434) rfl rfl rfl (by decide +kernel) ⟨(Nat.le_of_ble_eq_true rfl), (Nat.le_of_ble_eq_true rfl)⟩) tp_N rfl rfl hl.1 rfl (lv_room (Nat.le_of_ble_eq_true rfl)) dX0_ofBoth_7 ⟨(Nat.le_of_ble_eq_true rfl), (Nat.le_of_ble_eq_true rfl)⟩) ?_
  refine lv_istore (lv' := [(6, .int (v_X0_value l2)), (5, .int (v_X0_value l1)), (0, .int i1), (1, .long l1), (3, .long l2)]) hx hb dX0_ofBoth_10 hl (by decide) rfl (fun ls hl => ?_)
  refine lv_lload_n hx hb dX0_ofBoth_12 rfl (lv_at hl 3 rfl) ?_
  refine zr_i (va_runS (As := [.long l1]) (rest := []) ⟨hx, hb, hml, hown, hts⟩ (k_X0_beside l l1) (va_cwS 1 hts (lw_S wq429 wq430 wq26 wq431) rfl rfl rfl (by decide +kernel) ⟨(Nat.le_of_ble_eq_true rfl), (Nat.le_of_ble_eq_true rfl)⟩) tp_N rfl rfl hl.1 rfl (lv_room (Nat.le_of_ble_eq_true rfl)) dX0_ofBoth_13 ⟨(Nat.le_of_ble_eq_true rfl), (Nat.le_of_ble_eq_true rfl)⟩) ?_
  refine lv_lload_n hx hb dX0_ofBoth_16 rfl (lv_at hl 4 rfl) ?_
  refine zr_i (va_runS (As := [.long l2]) (rest := [.int (v_X0_beside l1)]) ⟨hx, hb, hml, hown, hts⟩ (k_X0_beside l l2) (va_cwS 1 hts (lw_S wq429 wq430 wq26 wq431) rfl rfl rfl (by decide +kernel) ⟨(Nat.le_of_ble_eq_true rfl), (Nat.le_of_ble_eq_true rfl)⟩) tp_N rfl rfl hl.1 rfl (lv_room (Nat.le_of_ble_eq_true rfl)) dX0_ofBoth_17 ⟨(Nat.le_of_ble_eq_true rfl), (Nat.le_of_ble_eq_true rfl)⟩) ?_
  refine lv_iadd hx hb dX0_ofBoth_20 ?_
  refine lv_istore (lv' := [(7, .int ((v_X0_beside l1) + (v_X0_beside l2))), (6, .int (v_X0_value l2)), (5, .int (v_X0_value l1)), (0, .int i1), (1, .long l1), (3, .long l2)]) hx hb dX0_ofBoth_21 hl (by decide) rfl (fun ls hl => ?_)
  refine lv_iload_n hx hb dX0_ofBoth_23 rfl (lv_at hl 3 rfl) ?_
  by_cases hs1 : i1 = 2
  · refine zk_ti (y := 2) hs1 ?_
    refine lv_tableIn (off := 28) (tgt := 52) hx hb dX0_ofBoth_24 (by decide) (by decide) (by decide) (by decide) ?_
    refine lv_iload hx hb dX0_ofBoth_52 (lv_at hl 2 rfl) ?_
    refine lv_iload hx hb dX0_ofBoth_54 (lv_at hl 1 rfl) ?_
    refine va_mmin hx hb (by rw [hml]; exact hl.1.symm) hown (hts _ wq529) (hts _ wq300) (hts _ wq14) (hts _ wq301) (Nat.le_of_ble_eq_true rfl) (Nat.le_of_ble_eq_true rfl) (Nat.le_of_ble_eq_true rfl) (Nat.le_of_ble_eq_true rfl) dX0_ofBoth_56 ?_
    refine zk_ti (y := zmin (v_X0_value l1) (v_X0_value l2)) rfl ?_
    refine lv_iload hx hb dX0_ofBoth_59 (lv_at hl 0 rfl) ?_
    refine zr_l (va_runS (As := [.int (zmin (v_X0_value l1) (v_X0_value l2)), .int ((v_X0_beside l1) + (v_X0_beside l2))]) (rest := []) ⟨hx, hb, hml, hown, hts⟩ (k_X0_cell l (zmin (v_X0_value l1) (v_X0_value l2)) ((v_X0_beside l1) + (v_X0_beside l2))) (va_cwS 2 hts (lw_S wq518 wq519 wq26 wq520) rfl rfl rfl (by decide +kernel) ⟨(Nat.le_of_ble_eq_true rfl), (Nat.le_of_ble_eq_true rfl)⟩) tp_N rfl rfl hl.1 rfl (lv_room (Nat.le_of_ble_eq_true rfl)) dX0_ofBoth_61 ⟨(Nat.le_of_ble_eq_true rfl), (Nat.le_of_ble_eq_true rfl)⟩) ?_
    exact ze_l hx hb hr hlk (by unfold v_X0_ofBoth; rw [if_pos hs1]) dX0_ofBoth_64
  · by_cases hs2 : i1 = 3
    · refine zk_ti (y := 3) hs2 ?_
      refine lv_tableIn (off := 41) (tgt := 65) hx hb dX0_ofBoth_24 (by decide) (by decide) (by decide) (by decide) ?_
      refine lv_iload hx hb dX0_ofBoth_65 (lv_at hl 2 rfl) ?_
      refine lv_iload hx hb dX0_ofBoth_67 (lv_at hl 1 rfl) ?_
      refine va_mmax hx hb (by rw [hml]; exact hl.1.symm) hown (hts _ wq530) (hts _ wq375) (hts _ wq14) (hts _ wq376) (Nat.le_of_ble_eq_true rfl) (Nat.le_of_ble_eq_true rfl) (Nat.le_of_ble_eq_true rfl) (Nat.le_of_ble_eq_true rfl) dX0_ofBoth_69 ?_
      refine zk_ti (y := zmax (v_X0_value l1) (v_X0_value l2)) rfl ?_
      refine lv_iload hx hb dX0_ofBoth_72 (lv_at hl 0 rfl) ?_
      refine zr_l (va_runS (As := [.int (zmax (v_X0_value l1) (v_X0_value l2)), .int ((v_X0_beside l1) + (v_X0_beside l2))]) (rest := []) ⟨hx, hb, hml, hown, hts⟩ (k_X0_cell l (zmax (v_X0_value l1) (v_X0_value l2)) ((v_X0_beside l1) + (v_X0_beside l2))) (va_cwS 2 hts (lw_S wq518 wq519 wq26 wq520) rfl rfl rfl (by decide +kernel) ⟨(Nat.le_of_ble_eq_true rfl), (Nat.le_of_ble_eq_true rfl)⟩) tp_N rfl rfl hl.1 rfl (lv_room (Nat.le_of_ble_eq_true rfl)) dX0_ofBoth_74 ⟨(Nat.le_of_ble_eq_true rfl), (Nat.le_of_ble_eq_true rfl)⟩) ?_
      exact ze_l hx hb hr hlk (by unfold v_X0_ofBoth; rw [if_neg hs1, if_pos hs2]) dX0_ofBoth_77
    · by_cases hs3 : i1 = 4
      · refine zk_ti (y := 4) hs3 ?_
        refine lv_tableIn (off := 54) (tgt := 78) hx hb dX0_ofBoth_24 (by decide) (by decide) (by decide) (by decide) ?_
        refine lv_lload_n hx hb dX0_ofBoth_78 rfl (lv_at hl 5 rfl) ?_
        refine zr_i (va_runS (As := [.long l2]) (rest := []) ⟨hx, hb, hml, hown, hts⟩ (k_X0_beside l l2) (va_cwS 1 hts (lw_S wq429 wq430 wq26 wq431) rfl rfl rfl (by decide +kernel) ⟨(Nat.le_of_ble_eq_true rfl), (Nat.le_of_ble_eq_true rfl)⟩) tp_N rfl rfl hl.1 rfl (lv_room (Nat.le_of_ble_eq_true rfl)) dX0_ofBoth_79 ⟨(Nat.le_of_ble_eq_true rfl), (Nat.le_of_ble_eq_true rfl)⟩) ?_
        refine lv_lload_n hx hb dX0_ofBoth_82 rfl (lv_at hl 4 rfl) ?_
        refine zr_i (va_runS (As := [.long l1]) (rest := [.int (v_X0_beside l2)]) ⟨hx, hb, hml, hown, hts⟩ (k_X0_beside l l1) (va_cwS 1 hts (lw_S wq429 wq430 wq26 wq431) rfl rfl rfl (by decide +kernel) ⟨(Nat.le_of_ble_eq_true rfl), (Nat.le_of_ble_eq_true rfl)⟩) tp_N rfl rfl hl.1 rfl (lv_room (Nat.le_of_ble_eq_true rfl)) dX0_ofBoth_83 ⟨(Nat.le_of_ble_eq_true rfl), (Nat.le_of_ble_eq_true rfl)⟩) ?_
        refine lv_icmp_lt (tgt := 93) hx hb dX0_ofBoth_86 (by decide) (fun hb4 => ?_) (fun hb4 => ?_)
        · refine lv_lload_n hx hb dX0_ofBoth_93 rfl (lv_at hl 4 rfl) ?_
          exact ze_l hx hb hr hlk (by unfold v_X0_ofBoth; rw [if_neg hs1, if_neg hs2, if_pos hs3, if_pos hb4]) dX0_ofBoth_94
        · refine lv_lload_n hx hb dX0_ofBoth_89 rfl (lv_at hl 5 rfl) ?_
          refine lv_goto (tgt := 94) hx hb dX0_ofBoth_90 (by decide) ?_
          exact ze_l hx hb hr hlk (by unfold v_X0_ofBoth; rw [if_neg hs1, if_neg hs2, if_pos hs3, if_neg hb4]) dX0_ofBoth_94
      · refine lv_tableOut (tgt := 95) hx hb dX0_ofBoth_24 (by have a0 := zk_nt hs1; have e0 : (2 : Int32).toInt = 2 := (by decide); rw [e0] at a0; have a1 := zk_nt hs2; have e1 : (3 : Int32).toInt = 3 := (by decide); rw [e1] at a1; have a2 := zk_nt hs3; have e2 : (4 : Int32).toInt = 4 := (by decide); rw [e2] at a2; omega) (by decide) ?_
        refine lv_iload hx hb dX0_ofBoth_95 (lv_at hl 2 rfl) ?_
        refine lv_iload hx hb dX0_ofBoth_97 (lv_at hl 1 rfl) ?_
        refine lv_iadd hx hb dX0_ofBoth_99 ?_
        refine lv_iload hx hb dX0_ofBoth_100 (lv_at hl 0 rfl) ?_
        refine zr_l (va_runS (As := [.int ((v_X0_value l1) + (v_X0_value l2)), .int ((v_X0_beside l1) + (v_X0_beside l2))]) (rest := []) ⟨hx, hb, hml, hown, hts⟩ (k_X0_cell l ((v_X0_value l1) + (v_X0_value l2)) ((v_X0_beside l1) + (v_X0_beside l2))) (va_cwS 2 hts (lw_S wq518 wq519 wq26 wq520) rfl rfl rfl (by decide +kernel) ⟨(Nat.le_of_ble_eq_true rfl), (Nat.le_of_ble_eq_true rfl)⟩) tp_N rfl rfl hl.1 rfl (lv_room (Nat.le_of_ble_eq_true rfl)) dX0_ofBoth_102 ⟨(Nat.le_of_ble_eq_true rfl), (Nat.le_of_ble_eq_true rfl)⟩) ?_
        exact ze_l hx hb hr hlk (by unfold v_X0_ofBoth; rw [if_neg hs1, if_neg hs2, if_neg hs3]) dX0_ofBoth_105
def v_X0_answer (i1 : Int32) (l1 : Int64) : Int32 := if i1 = 5 then if (v_X0_beside l1) = 0 then v_X0_value l1 else (v_X0_value l1) / (v_X0_beside l1) else v_X0_value l1
set_option maxHeartbeats 4000000 in
set_option maxRecDepth 100000 in
theorem k_X0_answer (l : Launch) (i1 : Int32) (l1 : Int64)  : Met l yX0_answer (ws_ yX0_answer cX0_answer 4 (some .int)) ({ frames := 1, cells := 0, slots := 0, locals := 21 }) (PN [.int i1, .long l1]) (zQ (some (.int (v_X0_answer i1 l1)))) 0 0 zno := by
  refine tk_N (by decide) (Nat.le_of_ble_eq_true rfl) ?_
  intro p e s m args below meth c ls hx hb hml hr hlk hown hts hl
  have hl : lv_has ls 4 [(0, .int i1), (1, .long l1)] := hl
  refine lv_lload_n hx hb dX0_answer_0 rfl (lv_at hl 1 rfl) ?_
  refine zr_i (va_runS (As := [.long l1]) (rest := []) ⟨hx, hb, hml, hown, hts⟩ (k_X0_beside l l1) (va_cwS 1 hts (lw_S wq429 wq430 wq26 wq431) rfl rfl rfl (by decide +kernel) ⟨(Nat.le_of_ble_eq_true rfl), (Nat.le_of_ble_eq_true rfl)⟩) tp_N rfl rfl hl.1 rfl (lv_room (Nat.le_of_ble_eq_true rfl)) dX0_answer_1 ⟨(Nat.le_of_ble_eq_true rfl), (Nat.le_of_ble_eq_true rfl)⟩) ?_
  refine lv_istore_n (lv' := [(3, .int (v_X0_beside l1)), (0, .int i1), (1, .long l1)]) hx hb dX0_answer_4 rfl hl (by decide) rfl (fun ls hl => ?_)
  refine lv_iload_n hx hb dX0_answer_5 rfl (lv_at hl 1 rfl) ?_
  refine lv_iconst (v := 5) hx hb dX0_answer_6 (by decide) ?_
  refine lv_icmp_ne (tgt := 23) hx hb dX0_answer_7 (by decide) (fun hb1 => ?_) (fun hb1 => ?_)
  · refine lv_lload_n hx hb dX0_answer_23 rfl (lv_at hl 2 rfl) ?_
    refine zr_i (va_runS (As := [.long l1]) (rest := []) ⟨hx, hb, hml, hown, hts⟩ (k_X0_value l l1) (va_cwS 1 hts (lw_S wq432 wq433 wq26 wq434) rfl rfl rfl (by decide +kernel) ⟨(Nat.le_of_ble_eq_true rfl), (Nat.le_of_ble_eq_true rfl)⟩) tp_N rfl rfl hl.1 rfl (lv_room (Nat.le_of_ble_eq_true rfl)) dX0_answer_24 ⟨(Nat.le_of_ble_eq_true rfl), (Nat.le_of_ble_eq_true rfl)⟩) ?_
    exact ze_i hx hb hr hlk rfl (by unfold v_X0_answer; rw [if_neg hb1]) dX0_answer_27
  · refine lv_iload_n hx hb dX0_answer_10 rfl (lv_at hl 0 rfl) ?_
    refine lv_if_eq (tgt := 23) hx hb dX0_answer_11 (by decide) (fun hb2 => ?_) (fun hb2 => ?_)
    · refine lv_lload_n hx hb dX0_answer_23 rfl (lv_at hl 2 rfl) ?_
      refine zr_i (va_runS (As := [.long l1]) (rest := []) ⟨hx, hb, hml, hown, hts⟩ (k_X0_value l l1) (va_cwS 1 hts (lw_S wq432 wq433 wq26 wq434) rfl rfl rfl (by decide +kernel) ⟨(Nat.le_of_ble_eq_true rfl), (Nat.le_of_ble_eq_true rfl)⟩) tp_N rfl rfl hl.1 rfl (lv_room (Nat.le_of_ble_eq_true rfl)) dX0_answer_24 ⟨(Nat.le_of_ble_eq_true rfl), (Nat.le_of_ble_eq_true rfl)⟩) ?_
      exact ze_i hx hb hr hlk rfl (by unfold v_X0_answer; rw [if_pos hb1, if_pos hb2]) dX0_answer_27
    · refine lv_lload_n hx hb dX0_answer_14 rfl (lv_at hl 2 rfl) ?_
      refine zr_i (va_runS (As := [.long l1]) (rest := []) ⟨hx, hb, hml, hown, hts⟩ (k_X0_value l l1) (va_cwS 1 hts (lw_S wq432 wq433 wq26 wq434) rfl rfl rfl (by decide +kernel) ⟨(Nat.le_of_ble_eq_true rfl), (Nat.le_of_ble_eq_true rfl)⟩) tp_N rfl rfl hl.1 rfl (lv_room (Nat.le_of_ble_eq_true rfl)) dX0_answer_15 ⟨(Nat.le_of_ble_eq_true rfl), (Nat.le_of_ble_eq_true rfl)⟩) ?_
      refine lv_iload_n hx hb dX0_answer_18 rfl (lv_at hl 0 rfl) ?_
      refine lv_idiv hx hb dX0_answer_19 (by assumption) ?_
      refine lv_goto (tgt := 27) hx hb dX0_answer_20 (by decide) ?_
      exact ze_i hx hb hr hlk rfl (by unfold v_X0_answer; rw [if_pos hb1, if_neg hb2]) dX0_answer_27
def v_X7_name (i1 : Int32) (i2 : Int32) (i3 : Int32) : Int64 := ((i1.toInt64 <<< ((29 : Int32).toInt64 &&& 63)) ||| (i2.toInt64 <<< ((21 : Int32).toInt64 &&& 63))) ||| ((i3 + 1000).toInt64)
set_option maxHeartbeats 4000000 in
set_option maxRecDepth 100000 in
theorem k_X7_name (l : Launch) (i1 : Int32) (i2 : Int32) (i3 : Int32)  : Met l yX7_name (ws_ yX7_name cX7_name 3 (some .long)) ({ frames := 0, cells := 0, slots := 0, locals := 0 }) (PN [.int i1, .int i2, .int i3]) (zQ (some (.long (v_X7_name i1 i2 i3)))) 0 0 zno := by
  refine tk_N (by decide) (Nat.le_of_ble_eq_true rfl) ?_
  intro p e s m args below meth c ls hx hb hml hr hlk hown hts hl
  have hl : lv_has ls 3 [(0, .int i1), (1, .int i2), (2, .int i3)] := hl
  refine lv_iload_n hx hb dX7_name_0 rfl (lv_at hl 0 rfl) ?_
  refine lv_i2l (v := i1.toInt64) hx hb dX7_name_1 rfl ?_
  refine lv_bipush (v := 29) hx hb dX7_name_2 (by decide) ?_
  refine lv_lshl (v := i1.toInt64 <<< ((29 : Int32).toInt64 &&& 63)) hx hb dX7_name_4 rfl ?_
  refine lv_iload_n hx hb dX7_name_5 rfl (lv_at hl 1 rfl) ?_
  refine lv_i2l (v := i2.toInt64) hx hb dX7_name_6 rfl ?_
  refine lv_bipush (v := 21) hx hb dX7_name_7 (by decide) ?_
  refine lv_lshl (v := i2.toInt64 <<< ((21 : Int32).toInt64 &&& 63)) hx hb dX7_name_9 rfl ?_
  refine lv_lor hx hb dX7_name_10 ?_
  refine lv_iload_n hx hb dX7_name_11 rfl (lv_at hl 2 rfl) ?_
  refine lv_sipush (v := 1000) hx hb dX7_name_12 (by decide) ?_
  refine lv_iadd hx hb dX7_name_15 ?_
  refine lv_i2l (v := (i3 + 1000).toInt64) hx hb dX7_name_16 rfl ?_
  refine lv_lor hx hb dX7_name_17 ?_
  exact ze_l hx hb hr hlk (by rfl) dX7_name_18
end
