section
-- ===== PART A: goes FIRST, ahead of the names: the tables' words, and 'selects' of the private methods out of them =====
/-- a private method of a class that the tables say can be made, by its rows of tables_1 -/
def lw_okq (q : MethodName × Nat) : Prop := (q.1.cls ≠ "java/lang/invoke/MethodHandle" ∧ q.1.cls ≠ "java/lang/invoke/VarHandle") ∧ Cond.instantiable q.1.cls q.2 ∈ tables_1 ∧ Cond.privateMethod q.1 ∈ tables_1 ∧ Cond.instanceMethod q.1 ∈ tables_1
theorem lw_p0 : lw_okq (⟨"java/lang/Throwable", "fillInStackTrace", "(I)Ljava/lang/Throwable;"⟩, 6) := ⟨⟨by decide +kernel, by decide +kernel⟩, List.mem_of_getElem? (i := 162) (by decide +kernel), List.mem_of_getElem? (i := 160) (by decide +kernel), List.mem_of_getElem? (i := 161) (by decide +kernel)⟩
theorem lw_p1 : lw_okq (⟨"WeirStream", "sourceOf", "(I)LWeirStream$Stage;"⟩, 5) := ⟨⟨by decide +kernel, by decide +kernel⟩, List.mem_of_getElem? (i := 28) (by decide +kernel), List.mem_of_getElem? (i := 216) (by decide +kernel), List.mem_of_getElem? (i := 217) (by decide +kernel)⟩
theorem lw_p2 : lw_okq (⟨"WeirStream", "stageOf", "(I)LWeirStream$Stage;"⟩, 5) := ⟨⟨by decide +kernel, by decide +kernel⟩, List.mem_of_getElem? (i := 28) (by decide +kernel), List.mem_of_getElem? (i := 220) (by decide +kernel), List.mem_of_getElem? (i := 221) (by decide +kernel)⟩
theorem lw_p3 : lw_okq (⟨"WeirStream", "refuseUnlessOpen", "(LWeirStream$Stage;)V"⟩, 5) := ⟨⟨by decide +kernel, by decide +kernel⟩, List.mem_of_getElem? (i := 28) (by decide +kernel), List.mem_of_getElem? (i := 258) (by decide +kernel), List.mem_of_getElem? (i := 259) (by decide +kernel)⟩
theorem lw_p4 : lw_okq (⟨"WeirStream", "refuseUnlessStarted", "()V"⟩, 5) := ⟨⟨by decide +kernel, by decide +kernel⟩, List.mem_of_getElem? (i := 28) (by decide +kernel), List.mem_of_getElem? (i := 274) (by decide +kernel), List.mem_of_getElem? (i := 275) (by decide +kernel)⟩
theorem lw_p5 : lw_okq (⟨"WeirStream$Outlet", "leastGiven", "()I"⟩, 2) := ⟨⟨by decide +kernel, by decide +kernel⟩, List.mem_of_getElem? (i := 294) (by decide +kernel), List.mem_of_getElem? (i := 292) (by decide +kernel), List.mem_of_getElem? (i := 293) (by decide +kernel)⟩
theorem lw_p6 : lw_okq (⟨"WeirStream$Flow", "passBarrier", "(LWeirStream$Stage;)V"⟩, 8) := ⟨⟨by decide +kernel, by decide +kernel⟩, List.mem_of_getElem? (i := 36) (by decide +kernel), List.mem_of_getElem? (i := 329) (by decide +kernel), List.mem_of_getElem? (i := 330) (by decide +kernel)⟩
theorem lw_p7 : lw_okq (⟨"WeirStream$Flow", "completeCheckpoint", "()V"⟩, 8) := ⟨⟨by decide +kernel, by decide +kernel⟩, List.mem_of_getElem? (i := 36) (by decide +kernel), List.mem_of_getElem? (i := 379) (by decide +kernel), List.mem_of_getElem? (i := 380) (by decide +kernel)⟩
theorem lw_p8 : lw_okq (⟨"WeirStream$Stage", "fireFrom", "(I)V"⟩, 12) := ⟨⟨by decide +kernel, by decide +kernel⟩, List.mem_of_getElem? (i := 406) (by decide +kernel), List.mem_of_getElem? (i := 404) (by decide +kernel), List.mem_of_getElem? (i := 405) (by decide +kernel)⟩
theorem lw_p9 : lw_okq (⟨"WeirStream$Stage", "fire", "(I)V"⟩, 12) := ⟨⟨by decide +kernel, by decide +kernel⟩, List.mem_of_getElem? (i := 406) (by decide +kernel), List.mem_of_getElem? (i := 419) (by decide +kernel), List.mem_of_getElem? (i := 420) (by decide +kernel)⟩
theorem lw_p10 : lw_okq (⟨"WeirStream$Stage", "passes", "(J)Z"⟩, 12) := ⟨⟨by decide +kernel, by decide +kernel⟩, List.mem_of_getElem? (i := 406) (by decide +kernel), List.mem_of_getElem? (i := 481) (by decide +kernel), List.mem_of_getElem? (i := 482) (by decide +kernel)⟩
theorem lw_p11 : lw_okq (⟨"WeirStream$Stage", "mapped", "(J)J"⟩, 12) := ⟨⟨by decide +kernel, by decide +kernel⟩, List.mem_of_getElem? (i := 406) (by decide +kernel), List.mem_of_getElem? (i := 495) (by decide +kernel), List.mem_of_getElem? (i := 496) (by decide +kernel)⟩
theorem lw_p12 : lw_okq (⟨"WeirStream$Stage", "takeIntoWindows", "(J)V"⟩, 12) := ⟨⟨by decide +kernel, by decide +kernel⟩, List.mem_of_getElem? (i := 406) (by decide +kernel), List.mem_of_getElem? (i := 499) (by decide +kernel), List.mem_of_getElem? (i := 500) (by decide +kernel)⟩
theorem lw_p13 : lw_okq (⟨"WeirStream$Stage", "takeIntoWindow", "(JII)I"⟩, 12) := ⟨⟨by decide +kernel, by decide +kernel⟩, List.mem_of_getElem? (i := 406) (by decide +kernel), List.mem_of_getElem? (i := 506) (by decide +kernel), List.mem_of_getElem? (i := 507) (by decide +kernel)⟩
theorem lw_p14 : lw_okq (⟨"WeirStream$Stage", "takeIntoSession", "(J)V"⟩, 12) := ⟨⟨by decide +kernel, by decide +kernel⟩, List.mem_of_getElem? (i := 406) (by decide +kernel), List.mem_of_getElem? (i := 548) (by decide +kernel), List.mem_of_getElem? (i := 549) (by decide +kernel)⟩
theorem lw_p15 : lw_okq (⟨"WeirStream$Stage", "takeIntoJoin", "(JZ)V"⟩, 12) := ⟨⟨by decide +kernel, by decide +kernel⟩, List.mem_of_getElem? (i := 406) (by decide +kernel), List.mem_of_getElem? (i := 563) (by decide +kernel), List.mem_of_getElem? (i := 564) (by decide +kernel)⟩
def lw_privs_1 : List (MethodName × Nat) := [(⟨"java/lang/Throwable", "fillInStackTrace", "(I)Ljava/lang/Throwable;"⟩, 6), (⟨"WeirStream", "sourceOf", "(I)LWeirStream$Stage;"⟩, 5), (⟨"WeirStream", "stageOf", "(I)LWeirStream$Stage;"⟩, 5), (⟨"WeirStream", "refuseUnlessOpen", "(LWeirStream$Stage;)V"⟩, 5), (⟨"WeirStream", "refuseUnlessStarted", "()V"⟩, 5), (⟨"WeirStream$Outlet", "leastGiven", "()I"⟩, 2), (⟨"WeirStream$Flow", "passBarrier", "(LWeirStream$Stage;)V"⟩, 8), (⟨"WeirStream$Flow", "completeCheckpoint", "()V"⟩, 8), (⟨"WeirStream$Stage", "fireFrom", "(I)V"⟩, 12), (⟨"WeirStream$Stage", "fire", "(I)V"⟩, 12), (⟨"WeirStream$Stage", "passes", "(J)Z"⟩, 12), (⟨"WeirStream$Stage", "mapped", "(J)J"⟩, 12), (⟨"WeirStream$Stage", "takeIntoWindows", "(J)V"⟩, 12), (⟨"WeirStream$Stage", "takeIntoWindow", "(JII)I"⟩, 12), (⟨"WeirStream$Stage", "takeIntoSession", "(J)V"⟩, 12), (⟨"WeirStream$Stage", "takeIntoJoin", "(JZ)V"⟩, 12)]
theorem lw_r1 : ∀ q ∈ lw_privs_1, lw_okq q := List.forall_mem_cons.mpr ⟨lw_p0, List.forall_mem_cons.mpr ⟨lw_p1, List.forall_mem_cons.mpr ⟨lw_p2, List.forall_mem_cons.mpr ⟨lw_p3, List.forall_mem_cons.mpr ⟨lw_p4, List.forall_mem_cons.mpr ⟨lw_p5, List.forall_mem_cons.mpr ⟨lw_p6, List.forall_mem_cons.mpr ⟨lw_p7, List.forall_mem_cons.mpr ⟨lw_p8, List.forall_mem_cons.mpr ⟨lw_p9, List.forall_mem_cons.mpr ⟨lw_p10, List.forall_mem_cons.mpr ⟨lw_p11, List.forall_mem_cons.mpr ⟨lw_p12, List.forall_mem_cons.mpr ⟨lw_p13, List.forall_mem_cons.mpr ⟨lw_p14, List.forall_mem_cons.mpr ⟨lw_p15, fun _ h => absurd h List.not_mem_nil⟩⟩⟩⟩⟩⟩⟩⟩⟩⟩⟩⟩⟩⟩⟩⟩
theorem lw_p16 : lw_okq (⟨"WeirStream$Stage", "meets", "(JJ)Z"⟩, 12) := ⟨⟨by decide +kernel, by decide +kernel⟩, List.mem_of_getElem? (i := 406) (by decide +kernel), List.mem_of_getElem? (i := 567) (by decide +kernel), List.mem_of_getElem? (i := 568) (by decide +kernel)⟩
theorem lw_p17 : lw_okq (⟨"WeirStream$Stage", "joined", "(II)I"⟩, 12) := ⟨⟨by decide +kernel, by decide +kernel⟩, List.mem_of_getElem? (i := 406) (by decide +kernel), List.mem_of_getElem? (i := 571) (by decide +kernel), List.mem_of_getElem? (i := 572) (by decide +kernel)⟩
theorem lw_p18 : lw_okq (⟨"WeirStream$Stage", "putOut", "(J)V"⟩, 12) := ⟨⟨by decide +kernel, by decide +kernel⟩, List.mem_of_getElem? (i := 406) (by decide +kernel), List.mem_of_getElem? (i := 575) (by decide +kernel), List.mem_of_getElem? (i := 576) (by decide +kernel)⟩
theorem lw_p19 : lw_okq (⟨"WeirStream$Flow", "takeBarrier", "(LWeirStream$Stage;LWeirStream$Channel;LWeirStream$Channel;)V"⟩, 8) := ⟨⟨by decide +kernel, by decide +kernel⟩, List.mem_of_getElem? (i := 36) (by decide +kernel), List.mem_of_getElem? (i := 584) (by decide +kernel), List.mem_of_getElem? (i := 585) (by decide +kernel)⟩
theorem lw_p20 : lw_okq (⟨"WeirStream", "sinkOf", "(I)LWeirStream$Stage;"⟩, 5) := ⟨⟨by decide +kernel, by decide +kernel⟩, List.mem_of_getElem? (i := 28) (by decide +kernel), List.mem_of_getElem? (i := 663) (by decide +kernel), List.mem_of_getElem? (i := 664) (by decide +kernel)⟩
theorem lw_p21 : lw_okq (⟨"WeirStream", "digestOfStage", "(JI)J"⟩, 5) := ⟨⟨by decide +kernel, by decide +kernel⟩, List.mem_of_getElem? (i := 28) (by decide +kernel), List.mem_of_getElem? (i := 738) (by decide +kernel), List.mem_of_getElem? (i := 739) (by decide +kernel)⟩
theorem lw_p22 : lw_okq (⟨"WeirStream", "spanStageOf", "(I)LWeirStream$Stage;"⟩, 5) := ⟨⟨by decide +kernel, by decide +kernel⟩, List.mem_of_getElem? (i := 28) (by decide +kernel), List.mem_of_getElem? (i := 774) (by decide +kernel), List.mem_of_getElem? (i := 775) (by decide +kernel)⟩
theorem lw_p23 : lw_okq (⟨"WeirStream", "digestOfOutput", "(JI)J"⟩, 5) := ⟨⟨by decide +kernel, by decide +kernel⟩, List.mem_of_getElem? (i := 28) (by decide +kernel), List.mem_of_getElem? (i := 781) (by decide +kernel), List.mem_of_getElem? (i := 782) (by decide +kernel)⟩
theorem lw_p24 : lw_okq (⟨"WeirStream", "outputAt", "(II)J"⟩, 5) := ⟨⟨by decide +kernel, by decide +kernel⟩, List.mem_of_getElem? (i := 28) (by decide +kernel), List.mem_of_getElem? (i := 787) (by decide +kernel), List.mem_of_getElem? (i := 788) (by decide +kernel)⟩
theorem lw_p25 : lw_okq (⟨"WeirStream", "refuseMoreStages", "()V"⟩, 5) := ⟨⟨by decide +kernel, by decide +kernel⟩, List.mem_of_getElem? (i := 28) (by decide +kernel), List.mem_of_getElem? (i := 821) (by decide +kernel), List.mem_of_getElem? (i := 822) (by decide +kernel)⟩
theorem lw_p26 : lw_okq (⟨"WeirStream", "wire", "(LWeirStream$Plan;)I"⟩, 5) := ⟨⟨by decide +kernel, by decide +kernel⟩, List.mem_of_getElem? (i := 28) (by decide +kernel), List.mem_of_getElem? (i := 895) (by decide +kernel), List.mem_of_getElem? (i := 896) (by decide +kernel)⟩
theorem lw_p27 : lw_okq (⟨"WeirStream", "planOf", "(I)LWeirStream$Plan;"⟩, 5) := ⟨⟨by decide +kernel, by decide +kernel⟩, List.mem_of_getElem? (i := 28) (by decide +kernel), List.mem_of_getElem? (i := 899) (by decide +kernel), List.mem_of_getElem? (i := 900) (by decide +kernel)⟩
theorem lw_p28 : lw_okq (⟨"WeirStream$Flow", "channelFrom", "(I)LWeirStream$Channel;"⟩, 8) := ⟨⟨by decide +kernel, by decide +kernel⟩, List.mem_of_getElem? (i := 36) (by decide +kernel), List.mem_of_getElem? (i := 925) (by decide +kernel), List.mem_of_getElem? (i := 926) (by decide +kernel)⟩
theorem lw_p29 : lw_okq (⟨"java/util/ArrayList", "add", "(Ljava/lang/Object;[Ljava/lang/Object;I)V"⟩, 3) := ⟨⟨by decide +kernel, by decide +kernel⟩, List.mem_of_getElem? (i := 42) (by decide +kernel), List.mem_of_getElem? (i := 956) (by decide +kernel), List.mem_of_getElem? (i := 957) (by decide +kernel)⟩
theorem lw_p30 : lw_okq (⟨"java/util/ArrayList", "grow", "()[Ljava/lang/Object;"⟩, 3) := ⟨⟨by decide +kernel, by decide +kernel⟩, List.mem_of_getElem? (i := 42) (by decide +kernel), List.mem_of_getElem? (i := 960) (by decide +kernel), List.mem_of_getElem? (i := 961) (by decide +kernel)⟩
theorem lw_p31 : lw_okq (⟨"java/util/ArrayList", "grow", "(I)[Ljava/lang/Object;"⟩, 3) := ⟨⟨by decide +kernel, by decide +kernel⟩, List.mem_of_getElem? (i := 42) (by decide +kernel), List.mem_of_getElem? (i := 964) (by decide +kernel), List.mem_of_getElem? (i := 965) (by decide +kernel)⟩
def lw_privs_2 : List (MethodName × Nat) := [(⟨"WeirStream$Stage", "meets", "(JJ)Z"⟩, 12), (⟨"WeirStream$Stage", "joined", "(II)I"⟩, 12), (⟨"WeirStream$Stage", "putOut", "(J)V"⟩, 12), (⟨"WeirStream$Flow", "takeBarrier", "(LWeirStream$Stage;LWeirStream$Channel;LWeirStream$Channel;)V"⟩, 8), (⟨"WeirStream", "sinkOf", "(I)LWeirStream$Stage;"⟩, 5), (⟨"WeirStream", "digestOfStage", "(JI)J"⟩, 5), (⟨"WeirStream", "spanStageOf", "(I)LWeirStream$Stage;"⟩, 5), (⟨"WeirStream", "digestOfOutput", "(JI)J"⟩, 5), (⟨"WeirStream", "outputAt", "(II)J"⟩, 5), (⟨"WeirStream", "refuseMoreStages", "()V"⟩, 5), (⟨"WeirStream", "wire", "(LWeirStream$Plan;)I"⟩, 5), (⟨"WeirStream", "planOf", "(I)LWeirStream$Plan;"⟩, 5), (⟨"WeirStream$Flow", "channelFrom", "(I)LWeirStream$Channel;"⟩, 8), (⟨"java/util/ArrayList", "add", "(Ljava/lang/Object;[Ljava/lang/Object;I)V"⟩, 3), (⟨"java/util/ArrayList", "grow", "()[Ljava/lang/Object;"⟩, 3), (⟨"java/util/ArrayList", "grow", "(I)[Ljava/lang/Object;"⟩, 3)]
theorem lw_r2 : ∀ q ∈ lw_privs_2, lw_okq q := List.forall_mem_cons.mpr ⟨lw_p16, List.forall_mem_cons.mpr ⟨lw_p17, List.forall_mem_cons.mpr ⟨lw_p18, List.forall_mem_cons.mpr ⟨lw_p19, List.forall_mem_cons.mpr ⟨lw_p20, List.forall_mem_cons.mpr ⟨lw_p21, List.forall_mem_cons.mpr ⟨lw_p22, List.forall_mem_cons.mpr ⟨lw_p23, List.forall_mem_cons.mpr ⟨lw_p24, List.forall_mem_cons.mpr ⟨lw_p25, List.forall_mem_cons.mpr ⟨lw_p26, List.forall_mem_cons.mpr ⟨lw_p27, List.forall_mem_cons.mpr ⟨lw_p28, List.forall_mem_cons.mpr ⟨lw_p29, List.forall_mem_cons.mpr ⟨lw_p30, List.forall_mem_cons.mpr ⟨lw_p31, fun _ h => absurd h List.not_mem_nil⟩⟩⟩⟩⟩⟩⟩⟩⟩⟩⟩⟩⟩⟩⟩⟩
def lw_privs : List (MethodName × Nat) := lw_privs_1 ++ (lw_privs_2)
def lw_tbl : List Cond := k2_sels lw_privs ++ tables_1
theorem lw_privs_ok : ∀ q ∈ lw_privs, lw_okq q := by
  show ∀ q ∈ lw_privs_1 ++ (lw_privs_2), lw_okq q
  exact List.forall_mem_append.mpr ⟨lw_r1, lw_r2⟩
/-- the streams that the claim lets the run draw from -/
abbrev lw_cs : List Choice := [Jvm.Choice.named "NaN.bits"]
theorem lw_bits : nanBits ∈ lw_cs := by first | decide | exact List.mem_cons_self | simp [lw_cs, nanBits]
end
section
def RX0 : String := "WeirStream$Account"
def TX0 : u_T := fun k => match k with
  | _ => ("", "", "", false)
def tyX0 : Nat → FieldType := fun k => match k with
  | _ => .int
abbrev wsX00 : List Cond := u_ws RX0 TX0 0
theorem nmX0 : ∀ a, a < 0 → ∀ b, b < 0 → a ≠ b → (TX0 a).2.1 ≠ (TX0 b).2.1 := by decide +kernel
theorem tyX0_ok : ∀ k, k < 0 → parseFieldDescriptor (TX0 k).2.2.1 = some (tyX0 k) := by decide +kernel
abbrev cX0_cell : ByteArray := prog_2_method_2_code
def yX0_cell : MethodName := ⟨RX0, "cell", "(II)J"⟩
abbrev cX0_value : ByteArray := prog_2_method_3_code
def yX0_value : MethodName := ⟨RX0, "value", "(J)I"⟩
abbrev cX0_beside : ByteArray := prog_2_method_4_code
def yX0_beside : MethodName := ⟨RX0, "beside", "(J)I"⟩
abbrev cX0_ofOne : ByteArray := prog_2_method_5_code
def yX0_ofOne : MethodName := ⟨RX0, "ofOne", "(IJ)J"⟩
abbrev cX0_ofBoth : ByteArray := prog_2_method_6_code
def yX0_ofBoth : MethodName := ⟨RX0, "ofBoth", "(IJJ)J"⟩
abbrev cX0_answer : ByteArray := prog_2_method_7_code
def yX0_answer : MethodName := ⟨RX0, "answer", "(IJ)I"⟩
def RX1 : String := "WeirStream$Channel"
def TX1 : u_T := fun k => match k with
  | 0 => ("WeirStream$Channel", "items", "LWeirStream$Row;", true)
  | 1 => ("WeirStream$Channel", "given", "I", false)
  | _ => ("WeirStream$Channel", "isShut", "Z", false)
def tyX1 : Nat → FieldType := fun k => match k with
  | 0 => .object "WeirStream$Row"
  | 1 => .int
  | _ => .boolean
abbrev wsX10 : List Cond := u_ws RX1 TX1 3
theorem nmX1 : ∀ a, a < 3 → ∀ b, b < 3 → a ≠ b → (TX1 a).2.1 ≠ (TX1 b).2.1 := by decide +kernel
theorem tyX1_ok : ∀ k, k < 3 → parseFieldDescriptor (TX1 k).2.2.1 = some (tyX1 k) := by decide +kernel
abbrev cX1_init : ByteArray := prog_3_method_1_code
def yX1_init : MethodName := ⟨RX1, "<init>", "(LWeirStream$Row;)V"⟩
abbrev cX1_length : ByteArray := prog_3_method_2_code
def yX1_length : MethodName := ⟨RX1, "length", "()I"⟩
abbrev cX1_canGive : ByteArray := prog_3_method_3_code
def yX1_canGive : MethodName := ⟨RX1, "canGive", "()Z"⟩
abbrev cX1_give : ByteArray := prog_3_method_4_code
def yX1_give : MethodName := ⟨RX1, "give", "()J"⟩
def RX2 : String := "WeirStream$Flow"
def TX2 : u_T := fun k => match k with
  | 0 => ("WeirStream$Flow", "isTrial", "Z", true)
  | 1 => ("WeirStream$Flow", "stages", "Ljava/util/ArrayList;", true)
  | 2 => ("WeirStream$Flow", "capacity", "I", false)
  | 3 => ("WeirStream$Flow", "lastWorked", "I", false)
  | 4 => ("WeirStream$Flow", "begunCount", "I", false)
  | 5 => ("WeirStream$Flow", "begunNumber", "I", false)
  | 6 => ("WeirStream$Flow", "completeNumber", "I", false)
  | _ => ("WeirStream$Flow", "unsaved", "I", false)
def tyX2 : Nat → FieldType := fun k => match k with
  | 0 => .boolean
  | 1 => .object "java/util/ArrayList"
  | 2 => .int
  | 3 => .int
  | 4 => .int
  | 5 => .int
  | 6 => .int
  | _ => .int
abbrev wsX20 : List Cond := u_ws RX2 TX2 8
theorem nmX2 : ∀ a, a < 8 → ∀ b, b < 8 → a ≠ b → (TX2 a).2.1 ≠ (TX2 b).2.1 := by decide +kernel
theorem tyX2_ok : ∀ k, k < 8 → parseFieldDescriptor (TX2 k).2.2.1 = some (tyX2 k) := by decide +kernel
abbrev cX2_init : ByteArray := prog_4_method_1_code
def yX2_init : MethodName := ⟨RX2, "<init>", "(Z)V"⟩
abbrev cX2_size : ByteArray := prog_4_method_2_code
def yX2_size : MethodName := ⟨RX2, "size", "()I"⟩
abbrev cX2_at : ByteArray := prog_4_method_3_code
def yX2_at : MethodName := ⟨RX2, "at", "(I)LWeirStream$Stage;"⟩
abbrev cX2_add : ByteArray := prog_4_method_4_code
def yX2_add : MethodName := ⟨RX2, "add", "(LWeirStream$Plan;LWeirStream$Row;)V"⟩
abbrev cX2_channelFrom : ByteArray := prog_4_method_5_code
def yX2_channelFrom : MethodName := ⟨RX2, "channelFrom", "(I)LWeirStream$Channel;"⟩
abbrev cX2_channels : ByteArray := prog_4_method_6_code
def yX2_channels : MethodName := ⟨RX2, "channels", "()I"⟩
abbrev cX2_waiting : ByteArray := prog_4_method_7_code
def yX2_waiting : MethodName := ⟨RX2, "waiting", "()I"⟩
abbrev cX2_nextToWork : ByteArray := prog_4_method_8_code
def yX2_nextToWork : MethodName := ⟨RX2, "nextToWork", "()I"⟩
abbrev cX2_step : ByteArray := prog_4_method_9_code
def yX2_step : MethodName := ⟨RX2, "step", "(I)Z"⟩
abbrev cX2_takeBarrier : ByteArray := prog_4_method_10_code
def yX2_takeBarrier : MethodName := ⟨RX2, "takeBarrier", "(LWeirStream$Stage;LWeirStream$Channel;LWeirStream$Channel;)V"⟩
abbrev cX2_passBarrier : ByteArray := prog_4_method_11_code
def yX2_passBarrier : MethodName := ⟨RX2, "passBarrier", "(LWeirStream$Stage;)V"⟩
abbrev cX2_completeCheckpoint : ByteArray := prog_4_method_12_code
def yX2_completeCheckpoint : MethodName := ⟨RX2, "completeCheckpoint", "()V"⟩
abbrev cX2_beginCheckpoint : ByteArray := prog_4_method_13_code
def yX2_beginCheckpoint : MethodName := ⟨RX2, "beginCheckpoint", "()I"⟩
abbrev cX2_goBack : ByteArray := prog_4_method_14_code
def yX2_goBack : MethodName := ⟨RX2, "goBack", "()I"⟩
abbrev cX2_become : ByteArray := prog_4_method_15_code
def yX2_become : MethodName := ⟨RX2, "become", "(LWeirStream$Flow;)V"⟩
def RX3 : String := "WeirStream$Item"
def TX3 : u_T := fun k => match k with
  | _ => ("", "", "", false)
def tyX3 : Nat → FieldType := fun k => match k with
  | _ => .int
abbrev wsX30 : List Cond := u_ws RX3 TX3 0
theorem nmX3 : ∀ a, a < 0 → ∀ b, b < 0 → a ≠ b → (TX3 a).2.1 ≠ (TX3 b).2.1 := by decide +kernel
theorem tyX3_ok : ∀ k, k < 0 → parseFieldDescriptor (TX3 k).2.2.1 = some (tyX3 k) := by decide +kernel
abbrev cX3_event : ByteArray := prog_5_method_2_code
def yX3_event : MethodName := ⟨RX3, "event", "(III)J"⟩
abbrev cX3_mark : ByteArray := prog_5_method_3_code
def yX3_mark : MethodName := ⟨RX3, "mark", "(I)J"⟩
abbrev cX3_barrier : ByteArray := prog_5_method_4_code
def yX3_barrier : MethodName := ⟨RX3, "barrier", "()J"⟩
abbrev cX3_kind : ByteArray := prog_5_method_5_code
def yX3_kind : MethodName := ⟨RX3, "kind", "(J)I"⟩
abbrev cX3_time : ByteArray := prog_5_method_6_code
def yX3_time : MethodName := ⟨RX3, "time", "(J)I"⟩
abbrev cX3_key : ByteArray := prog_5_method_7_code
def yX3_key : MethodName := ⟨RX3, "key", "(J)I"⟩
abbrev cX3_value : ByteArray := prog_5_method_8_code
def yX3_value : MethodName := ⟨RX3, "value", "(J)I"⟩
def RX4 : String := "WeirStream$Outlet"
def TX4 : u_T := fun k => match k with
  | 0 => ("WeirStream$Outlet", "items", "LWeirStream$Row;", true)
  | _ => ("WeirStream$Outlet", "channels", "Ljava/util/ArrayList;", true)
def tyX4 : Nat → FieldType := fun k => match k with
  | 0 => .object "WeirStream$Row"
  | _ => .object "java/util/ArrayList"
abbrev wsX40 : List Cond := u_ws RX4 TX4 2
theorem nmX4 : ∀ a, a < 2 → ∀ b, b < 2 → a ≠ b → (TX4 a).2.1 ≠ (TX4 b).2.1 := by decide +kernel
theorem tyX4_ok : ∀ k, k < 2 → parseFieldDescriptor (TX4 k).2.2.1 = some (tyX4 k) := by decide +kernel
abbrev cX4_init : ByteArray := prog_6_method_1_code
def yX4_init : MethodName := ⟨RX4, "<init>", "()V"⟩
abbrev cX4_open : ByteArray := prog_6_method_2_code
def yX4_open : MethodName := ⟨RX4, "open", "()LWeirStream$Channel;"⟩
abbrev cX4_isBelow : ByteArray := prog_6_method_3_code
def yX4_isBelow : MethodName := ⟨RX4, "isBelow", "(I)Z"⟩
abbrev cX4_leastGiven : ByteArray := prog_6_method_4_code
def yX4_leastGiven : MethodName := ⟨RX4, "leastGiven", "()I"⟩
abbrev cX4_forgetGiven : ByteArray := prog_6_method_5_code
def yX4_forgetGiven : MethodName := ⟨RX4, "forgetGiven", "()V"⟩
abbrev cX4_empty : ByteArray := prog_6_method_6_code
def yX4_empty : MethodName := ⟨RX4, "empty", "()V"⟩
abbrev cX4_become : ByteArray := prog_6_method_7_code
def yX4_become : MethodName := ⟨RX4, "become", "(LWeirStream$Outlet;)V"⟩
def RX5 : String := "WeirStream$Plan"
def TX5 : u_T := fun k => match k with
  | 0 => ("WeirStream$Plan", "sort", "I", true)
  | 1 => ("WeirStream$Plan", "first", "I", true)
  | 2 => ("WeirStream$Plan", "second", "I", true)
  | 3 => ("WeirStream$Plan", "slack", "I", false)
  | 4 => ("WeirStream$Plan", "rule", "I", false)
  | 5 => ("WeirStream$Plan", "n", "I", false)
  | 6 => ("WeirStream$Plan", "size", "I", false)
  | 7 => ("WeirStream$Plan", "step", "I", false)
  | 8 => ("WeirStream$Plan", "lateness", "I", false)
  | 9 => ("WeirStream$Plan", "gap", "I", false)
  | 10 => ("WeirStream$Plan", "before", "I", false)
  | 11 => ("WeirStream$Plan", "after", "I", false)
  | 12 => ("WeirStream$Plan", "account", "I", false)
  | 13 => ("WeirStream$Plan", "depth", "I", false)
  | _ => ("WeirStream$Plan", "upstream", "I", false)
def tyX5 : Nat → FieldType := fun k => match k with
  | 0 => .int
  | 1 => .int
  | 2 => .int
  | 3 => .int
  | 4 => .int
  | 5 => .int
  | 6 => .int
  | 7 => .int
  | 8 => .int
  | 9 => .int
  | 10 => .int
  | 11 => .int
  | 12 => .int
  | 13 => .int
  | _ => .int
abbrev wsX50 : List Cond := u_ws RX5 TX5 15
theorem nmX5 : ∀ a, a < 15 → ∀ b, b < 15 → a ≠ b → (TX5 a).2.1 ≠ (TX5 b).2.1 := by decide +kernel
theorem tyX5_ok : ∀ k, k < 15 → parseFieldDescriptor (TX5 k).2.2.1 = some (tyX5 k) := by decide +kernel
abbrev cX5_init : ByteArray := prog_7_method_1_code
def yX5_init : MethodName := ⟨RX5, "<init>", "(III)V"⟩
abbrev cX5_standBehind : ByteArray := prog_7_method_2_code
def yX5_standBehind : MethodName := ⟨RX5, "standBehind", "(LWeirStream$Plan;I)V"⟩
def RX6 : String := "WeirStream$Row"
def TX6 : u_T := fun k => match k with
  | 0 => ("WeirStream$Row", "cells", "[J", false)
  | _ => ("WeirStream$Row", "length", "I", false)
def tyX6 : Nat → FieldType := fun k => match k with
  | 0 => .array .long
  | _ => .int
abbrev wsX60 : List Cond := u_ws RX6 TX6 2
theorem nmX6 : ∀ a, a < 2 → ∀ b, b < 2 → a ≠ b → (TX6 a).2.1 ≠ (TX6 b).2.1 := by decide +kernel
theorem tyX6_ok : ∀ k, k < 2 → parseFieldDescriptor (TX6 k).2.2.1 = some (tyX6 k) := by decide +kernel
abbrev cX6_init : ByteArray := prog_8_method_1_code
def yX6_init : MethodName := ⟨RX6, "<init>", "()V"⟩
abbrev cX6_length : ByteArray := prog_8_method_2_code
def yX6_length : MethodName := ⟨RX6, "length", "()I"⟩
abbrev cX6_at : ByteArray := prog_8_method_3_code
def yX6_at : MethodName := ⟨RX6, "at", "(I)J"⟩
abbrev cX6_put : ByteArray := prog_8_method_4_code
def yX6_put : MethodName := ⟨RX6, "put", "(IJ)V"⟩
abbrev cX6_add : ByteArray := prog_8_method_5_code
def yX6_add : MethodName := ⟨RX6, "add", "(J)V"⟩
abbrev cX6_insert : ByteArray := prog_8_method_6_code
def yX6_insert : MethodName := ⟨RX6, "insert", "(IJ)V"⟩
abbrev cX6_remove : ByteArray := prog_8_method_7_code
def yX6_remove : MethodName := ⟨RX6, "remove", "(II)V"⟩
abbrev cX6_shorten : ByteArray := prog_8_method_8_code
def yX6_shorten : MethodName := ⟨RX6, "shorten", "(I)V"⟩
abbrev cX6_become : ByteArray := prog_8_method_9_code
def yX6_become : MethodName := ⟨RX6, "become", "(LWeirStream$Row;I)V"⟩
def RX7 : String := "WeirStream$Spans"
def TX7 : u_T := fun k => match k with
  | 0 => ("WeirStream$Spans", "names", "LWeirStream$Row;", true)
  | _ => ("WeirStream$Spans", "accounts", "LWeirStream$Row;", true)
def tyX7 : Nat → FieldType := fun k => match k with
  | 0 => .object "WeirStream$Row"
  | _ => .object "WeirStream$Row"
abbrev wsX70 : List Cond := u_ws RX7 TX7 2
theorem nmX7 : ∀ a, a < 2 → ∀ b, b < 2 → a ≠ b → (TX7 a).2.1 ≠ (TX7 b).2.1 := by decide +kernel
theorem tyX7_ok : ∀ k, k < 2 → parseFieldDescriptor (TX7 k).2.2.1 = some (tyX7 k) := by decide +kernel
abbrev cX7_init : ByteArray := prog_9_method_1_code
def yX7_init : MethodName := ⟨RX7, "<init>", "()V"⟩
abbrev cX7_name : ByteArray := prog_9_method_2_code
def yX7_name : MethodName := ⟨RX7, "name", "(III)J"⟩
abbrev cX7_length : ByteArray := prog_9_method_3_code
def yX7_length : MethodName := ⟨RX7, "length", "()I"⟩
abbrev cX7_endAt : ByteArray := prog_9_method_4_code
def yX7_endAt : MethodName := ⟨RX7, "endAt", "(I)I"⟩
abbrev cX7_keyAtPlace : ByteArray := prog_9_method_5_code
def yX7_keyAtPlace : MethodName := ⟨RX7, "keyAtPlace", "(I)I"⟩
abbrev cX7_beginAt : ByteArray := prog_9_method_6_code
def yX7_beginAt : MethodName := ⟨RX7, "beginAt", "(I)I"⟩
abbrev cX7_accountAtPlace : ByteArray := prog_9_method_7_code
def yX7_accountAtPlace : MethodName := ⟨RX7, "accountAtPlace", "(I)J"⟩
abbrev cX7_placeFor : ByteArray := prog_9_method_8_code
def yX7_placeFor : MethodName := ⟨RX7, "placeFor", "(J)I"⟩
abbrev cX7_firstEndingAbove : ByteArray := prog_9_method_9_code
def yX7_firstEndingAbove : MethodName := ⟨RX7, "firstEndingAbove", "(I)I"⟩
abbrev cX7_isAt : ByteArray := prog_9_method_11_code
def yX7_isAt : MethodName := ⟨RX7, "isAt", "(IJ)Z"⟩
abbrev cX7_insert : ByteArray := prog_9_method_12_code
def yX7_insert : MethodName := ⟨RX7, "insert", "(IJJ)V"⟩
abbrev cX7_setAccount : ByteArray := prog_9_method_13_code
def yX7_setAccount : MethodName := ⟨RX7, "setAccount", "(IJ)V"⟩
abbrev cX7_remove : ByteArray := prog_9_method_14_code
def yX7_remove : MethodName := ⟨RX7, "remove", "(II)V"⟩
abbrev cX7_become : ByteArray := prog_9_method_15_code
def yX7_become : MethodName := ⟨RX7, "become", "(LWeirStream$Spans;)V"⟩
def RX8 : String := "WeirStream$Stage"
def TX8 : u_T := fun k => match k with
  | 0 => ("WeirStream$Stage", "plan", "LWeirStream$Plan;", true)
  | 1 => ("WeirStream$Stage", "log", "LWeirStream$Row;", true)
  | 2 => ("WeirStream$Stage", "first", "LWeirStream$Channel;", true)
  | 3 => ("WeirStream$Stage", "second", "LWeirStream$Channel;", true)
  | 4 => ("WeirStream$Stage", "isTrial", "Z", true)
  | 5 => ("WeirStream$Stage", "outlet", "LWeirStream$Outlet;", true)
  | 6 => ("WeirStream$Stage", "output", "LWeirStream$Row;", true)
  | 7 => ("WeirStream$Stage", "now", "LWeirStream$State;", true)
  | 8 => ("WeirStream$Stage", "latest", "LWeirStream$State;", false)
  | 9 => ("WeirStream$Stage", "coming", "LWeirStream$State;", false)
  | 10 => ("WeirStream$Stage", "isClosed", "Z", false)
  | _ => ("WeirStream$Stage", "owesBarrier", "Z", false)
def tyX8 : Nat → FieldType := fun k => match k with
  | 0 => .object "WeirStream$Plan"
  | 1 => .object "WeirStream$Row"
  | 2 => .object "WeirStream$Channel"
  | 3 => .object "WeirStream$Channel"
  | 4 => .boolean
  | 5 => .object "WeirStream$Outlet"
  | 6 => .object "WeirStream$Row"
  | 7 => .object "WeirStream$State"
  | 8 => .object "WeirStream$State"
  | 9 => .object "WeirStream$State"
  | 10 => .boolean
  | _ => .boolean
abbrev wsX80 : List Cond := u_ws RX8 TX8 12
theorem nmX8 : ∀ a, a < 12 → ∀ b, b < 12 → a ≠ b → (TX8 a).2.1 ≠ (TX8 b).2.1 := by decide +kernel
theorem tyX8_ok : ∀ k, k < 12 → parseFieldDescriptor (TX8 k).2.2.1 = some (tyX8 k) := by decide +kernel
abbrev cX8_init : ByteArray := prog_10_method_1_code
def yX8_init : MethodName := ⟨RX8, "<init>", "(LWeirStream$Plan;LWeirStream$Row;LWeirStream$Channel;LWeirStream$Channel;Z)V"⟩
abbrev cX8_channel : ByteArray := prog_10_method_2_code
def yX8_channel : MethodName := ⟨RX8, "channel", "(Z)LWeirStream$Channel;"⟩
abbrev cX8_unread : ByteArray := prog_10_method_3_code
def yX8_unread : MethodName := ⟨RX8, "unread", "()I"⟩
abbrev cX8_canWork : ByteArray := prog_10_method_4_code
def yX8_canWork : MethodName := ⟨RX8, "canWork", "(I)Z"⟩
abbrev cX8_turnsToSecond : ByteArray := prog_10_method_5_code
def yX8_turnsToSecond : MethodName := ⟨RX8, "turnsToSecond", "()Z"⟩
abbrev cX8_emit : ByteArray := prog_10_method_6_code
def yX8_emit : MethodName := ⟨RX8, "emit", "(J)V"⟩
abbrev cX8_read : ByteArray := prog_10_method_7_code
def yX8_read : MethodName := ⟨RX8, "read", "()I"⟩
abbrev cX8_takeEvent : ByteArray := prog_10_method_8_code
def yX8_takeEvent : MethodName := ⟨RX8, "takeEvent", "(JZ)V"⟩
abbrev cX8_passes : ByteArray := prog_10_method_9_code
def yX8_passes : MethodName := ⟨RX8, "passes", "(J)Z"⟩
abbrev cX8_mapped : ByteArray := prog_10_method_10_code
def yX8_mapped : MethodName := ⟨RX8, "mapped", "(J)J"⟩
abbrev cX8_putOut : ByteArray := prog_10_method_11_code
def yX8_putOut : MethodName := ⟨RX8, "putOut", "(J)V"⟩
abbrev cX8_takeIntoWindows : ByteArray := prog_10_method_12_code
def yX8_takeIntoWindows : MethodName := ⟨RX8, "takeIntoWindows", "(J)V"⟩
abbrev cX8_takeIntoWindow : ByteArray := prog_10_method_13_code
def yX8_takeIntoWindow : MethodName := ⟨RX8, "takeIntoWindow", "(JII)I"⟩
abbrev cX8_takeIntoSession : ByteArray := prog_10_method_14_code
def yX8_takeIntoSession : MethodName := ⟨RX8, "takeIntoSession", "(J)V"⟩
abbrev cX8_fire : ByteArray := prog_10_method_15_code
def yX8_fire : MethodName := ⟨RX8, "fire", "(I)V"⟩
abbrev cX8_takeIntoJoin : ByteArray := prog_10_method_16_code
def yX8_takeIntoJoin : MethodName := ⟨RX8, "takeIntoJoin", "(JZ)V"⟩
abbrev cX8_meets : ByteArray := prog_10_method_17_code
def yX8_meets : MethodName := ⟨RX8, "meets", "(JJ)Z"⟩
abbrev cX8_joined : ByteArray := prog_10_method_18_code
def yX8_joined : MethodName := ⟨RX8, "joined", "(II)I"⟩
abbrev cX8_leastMark : ByteArray := prog_10_method_19_code
def yX8_leastMark : MethodName := ⟨RX8, "leastMark", "(IZ)I"⟩
abbrev cX8_raiseMark : ByteArray := prog_10_method_20_code
def yX8_raiseMark : MethodName := ⟨RX8, "raiseMark", "(I)V"⟩
abbrev cX8_fireFrom : ByteArray := prog_10_method_21_code
def yX8_fireFrom : MethodName := ⟨RX8, "fireFrom", "(I)V"⟩
abbrev cX8_forgetBelow : ByteArray := prog_10_method_22_code
def yX8_forgetBelow : MethodName := ⟨RX8, "forgetBelow", "(LWeirStream$Row;I)V"⟩
abbrev cX8_adoptSaved : ByteArray := prog_10_method_23_code
def yX8_adoptSaved : MethodName := ⟨RX8, "adoptSaved", "()V"⟩
abbrev cX8_goBack : ByteArray := prog_10_method_24_code
def yX8_goBack : MethodName := ⟨RX8, "goBack", "()V"⟩
abbrev cX8_become : ByteArray := prog_10_method_25_code
def yX8_become : MethodName := ⟨RX8, "become", "(LWeirStream$Stage;)V"⟩
def RX9 : String := "WeirStream$State"
def TX9 : u_T := fun k => match k with
  | 0 => ("WeirStream$State", "mark", "I", false)
  | 1 => ("WeirStream$State", "firstMark", "I", false)
  | 2 => ("WeirStream$State", "secondMark", "I", false)
  | 3 => ("WeirStream$State", "tookSecond", "Z", false)
  | 4 => ("WeirStream$State", "taken", "I", false)
  | 5 => ("WeirStream$State", "emitted", "I", false)
  | 6 => ("WeirStream$State", "late", "I", false)
  | 7 => ("WeirStream$State", "outputCount", "I", false)
  | 8 => ("WeirStream$State", "spans", "LWeirStream$Spans;", true)
  | 9 => ("WeirStream$State", "left", "LWeirStream$Row;", true)
  | _ => ("WeirStream$State", "right", "LWeirStream$Row;", true)
def tyX9 : Nat → FieldType := fun k => match k with
  | 0 => .int
  | 1 => .int
  | 2 => .int
  | 3 => .boolean
  | 4 => .int
  | 5 => .int
  | 6 => .int
  | 7 => .int
  | 8 => .object "WeirStream$Spans"
  | 9 => .object "WeirStream$Row"
  | _ => .object "WeirStream$Row"
abbrev wsX90 : List Cond := u_ws RX9 TX9 11
theorem nmX9 : ∀ a, a < 11 → ∀ b, b < 11 → a ≠ b → (TX9 a).2.1 ≠ (TX9 b).2.1 := by decide +kernel
theorem tyX9_ok : ∀ k, k < 11 → parseFieldDescriptor (TX9 k).2.2.1 = some (tyX9 k) := by decide +kernel
abbrev cX9_init : ByteArray := prog_11_method_1_code
def yX9_init : MethodName := ⟨RX9, "<init>", "()V"⟩
abbrev cX9_keptCount : ByteArray := prog_11_method_2_code
def yX9_keptCount : MethodName := ⟨RX9, "keptCount", "()I"⟩
abbrev cX9_become : ByteArray := prog_11_method_3_code
def yX9_become : MethodName := ⟨RX9, "become", "(LWeirStream$State;)V"⟩
def RX10 : String := "WeirStream"
def TX10 : u_T := fun k => match k with
  | 0 => ("WeirStream", "live", "LWeirStream$Flow;", true)
  | 1 => ("WeirStream", "trial", "LWeirStream$Flow;", true)
  | 2 => ("WeirStream", "hasStarted", "Z", false)
  | 3 => ("WeirStream", "crashCount", "I", false)
  | _ => ("WeirStream", "workedCount", "I", false)
def tyX10 : Nat → FieldType := fun k => match k with
  | 0 => .object "WeirStream$Flow"
  | 1 => .object "WeirStream$Flow"
  | 2 => .boolean
  | 3 => .int
  | _ => .int
abbrev wsX100 : List Cond := u_ws RX10 TX10 5
theorem nmX10 : ∀ a, a < 5 → ∀ b, b < 5 → a ≠ b → (TX10 a).2.1 ≠ (TX10 b).2.1 := by decide +kernel
theorem tyX10_ok : ∀ k, k < 5 → parseFieldDescriptor (TX10 k).2.2.1 = some (tyX10 k) := by decide +kernel
abbrev cX10_init : ByteArray := prog_1_method_1_code
def yX10_init : MethodName := ⟨RX10, "<init>", "()V"⟩
abbrev cX10_addSource : ByteArray := prog_1_method_2_code
def yX10_addSource : MethodName := ⟨RX10, "addSource", "(I)I"⟩
abbrev cX10_addFilter : ByteArray := prog_1_method_3_code
def yX10_addFilter : MethodName := ⟨RX10, "addFilter", "(III)I"⟩
abbrev cX10_addMap : ByteArray := prog_1_method_4_code
def yX10_addMap : MethodName := ⟨RX10, "addMap", "(III)I"⟩
abbrev cX10_addWindow : ByteArray := prog_1_method_5_code
def yX10_addWindow : MethodName := ⟨RX10, "addWindow", "(IIIII)I"⟩
abbrev cX10_addSession : ByteArray := prog_1_method_6_code
def yX10_addSession : MethodName := ⟨RX10, "addSession", "(III)I"⟩
abbrev cX10_addJoin : ByteArray := prog_1_method_7_code
def yX10_addJoin : MethodName := ⟨RX10, "addJoin", "(IIIII)I"⟩
abbrev cX10_addMerge : ByteArray := prog_1_method_8_code
def yX10_addMerge : MethodName := ⟨RX10, "addMerge", "(II)I"⟩
abbrev cX10_addSink : ByteArray := prog_1_method_9_code
def yX10_addSink : MethodName := ⟨RX10, "addSink", "(I)I"⟩
abbrev cX10_start : ByteArray := prog_1_method_10_code
def yX10_start : MethodName := ⟨RX10, "start", "()I"⟩
abbrev cX10_setCapacity : ByteArray := prog_1_method_11_code
def yX10_setCapacity : MethodName := ⟨RX10, "setCapacity", "(I)I"⟩
abbrev cX10_offer : ByteArray := prog_1_method_12_code
def yX10_offer : MethodName := ⟨RX10, "offer", "(IIII)I"⟩
abbrev cX10_close : ByteArray := prog_1_method_13_code
def yX10_close : MethodName := ⟨RX10, "close", "(I)I"⟩
abbrev cX10_work : ByteArray := prog_1_method_14_code
def yX10_work : MethodName := ⟨RX10, "work", "(I)I"⟩
abbrev cX10_workAt : ByteArray := prog_1_method_15_code
def yX10_workAt : MethodName := ⟨RX10, "workAt", "(I)Z"⟩
abbrev cX10_checkpoint : ByteArray := prog_1_method_16_code
def yX10_checkpoint : MethodName := ⟨RX10, "checkpoint", "()I"⟩
abbrev cX10_crash : ByteArray := prog_1_method_17_code
def yX10_crash : MethodName := ⟨RX10, "crash", "()I"⟩
abbrev cX10_stages : ByteArray := prog_1_method_18_code
def yX10_stages : MethodName := ⟨RX10, "stages", "()I"⟩
abbrev cX10_isStarted : ByteArray := prog_1_method_19_code
def yX10_isStarted : MethodName := ⟨RX10, "isStarted", "()Z"⟩
abbrev cX10_sortOf : ByteArray := prog_1_method_20_code
def yX10_sortOf : MethodName := ⟨RX10, "sortOf", "(I)I"⟩
abbrev cX10_markOf : ByteArray := prog_1_method_21_code
def yX10_markOf : MethodName := ⟨RX10, "markOf", "(I)I"⟩
abbrev cX10_taken : ByteArray := prog_1_method_22_code
def yX10_taken : MethodName := ⟨RX10, "taken", "(I)I"⟩
abbrev cX10_emitted : ByteArray := prog_1_method_23_code
def yX10_emitted : MethodName := ⟨RX10, "emitted", "(I)I"⟩
abbrev cX10_late : ByteArray := prog_1_method_24_code
def yX10_late : MethodName := ⟨RX10, "late", "(I)I"⟩
abbrev cX10_kept : ByteArray := prog_1_method_25_code
def yX10_kept : MethodName := ⟨RX10, "kept", "(I)I"⟩
abbrev cX10_isReady : ByteArray := prog_1_method_26_code
def yX10_isReady : MethodName := ⟨RX10, "isReady", "(I)Z"⟩
abbrev cX10_hasRoom : ByteArray := prog_1_method_27_code
def yX10_hasRoom : MethodName := ⟨RX10, "hasRoom", "(I)Z"⟩
abbrev cX10_queued : ByteArray := prog_1_method_28_code
def yX10_queued : MethodName := ⟨RX10, "queued", "(IZ)I"⟩
abbrev cX10_isBlocked : ByteArray := prog_1_method_29_code
def yX10_isBlocked : MethodName := ⟨RX10, "isBlocked", "(IZ)Z"⟩
abbrev cX10_depthOf : ByteArray := prog_1_method_31_code
def yX10_depthOf : MethodName := ⟨RX10, "depthOf", "(I)I"⟩
abbrev cX10_nextEnd : ByteArray := prog_1_method_33_code
def yX10_nextEnd : MethodName := ⟨RX10, "nextEnd", "(I)I"⟩
abbrev cX10_outputs : ByteArray := prog_1_method_34_code
def yX10_outputs : MethodName := ⟨RX10, "outputs", "(I)I"⟩
abbrev cX10_committed : ByteArray := prog_1_method_35_code
def yX10_committed : MethodName := ⟨RX10, "committed", "(I)I"⟩
abbrev cX10_complete : ByteArray := prog_1_method_39_code
def yX10_complete : MethodName := ⟨RX10, "complete", "()I"⟩
abbrev cX10_begun : ByteArray := prog_1_method_40_code
def yX10_begun : MethodName := ⟨RX10, "begun", "()I"⟩
abbrev cX10_crashes : ByteArray := prog_1_method_41_code
def yX10_crashes : MethodName := ⟨RX10, "crashes", "()I"⟩
abbrev cX10_worked : ByteArray := prog_1_method_42_code
def yX10_worked : MethodName := ⟨RX10, "worked", "()I"⟩
abbrev cX10_inFlight : ByteArray := prog_1_method_43_code
def yX10_inFlight : MethodName := ⟨RX10, "inFlight", "()I"⟩
abbrev cX10_next : ByteArray := prog_1_method_44_code
def yX10_next : MethodName := ⟨RX10, "next", "()I"⟩
abbrev cX10_meanQueue : ByteArray := prog_1_method_45_code
def yX10_meanQueue : MethodName := ⟨RX10, "meanQueue", "()D"⟩
abbrev cX10_itemsToRest : ByteArray := prog_1_method_46_code
def yX10_itemsToRest : MethodName := ⟨RX10, "itemsToRest", "(I)I"⟩
abbrev cX10_wouldLose : ByteArray := prog_1_method_48_code
def yX10_wouldLose : MethodName := ⟨RX10, "wouldLose", "(I)I"⟩
abbrev cX10_wouldReplay : ByteArray := prog_1_method_49_code
def yX10_wouldReplay : MethodName := ⟨RX10, "wouldReplay", "(I)I"⟩
abbrev cX10_digest : ByteArray := prog_1_method_50_code
def yX10_digest : MethodName := ⟨RX10, "digest", "()J"⟩
abbrev cX10_digestOfStage : ByteArray := prog_1_method_51_code
def yX10_digestOfStage : MethodName := ⟨RX10, "digestOfStage", "(JI)J"⟩
abbrev cX10_digestOfOutput : ByteArray := prog_1_method_52_code
def yX10_digestOfOutput : MethodName := ⟨RX10, "digestOfOutput", "(JI)J"⟩
abbrev cX10_bit : ByteArray := prog_1_method_53_code
def yX10_bit : MethodName := ⟨RX10, "bit", "(Z)I"⟩
abbrev cX10_isWithin : ByteArray := prog_1_method_54_code
def yX10_isWithin : MethodName := ⟨RX10, "isWithin", "(III)Z"⟩
abbrev cX10_refuseUnless : ByteArray := prog_1_method_55_code
def yX10_refuseUnless : MethodName := ⟨RX10, "refuseUnless", "(Z)V"⟩
abbrev cX10_refuseMoreStages : ByteArray := prog_1_method_56_code
def yX10_refuseMoreStages : MethodName := ⟨RX10, "refuseMoreStages", "()V"⟩
abbrev cX10_refuseUnlessStarted : ByteArray := prog_1_method_57_code
def yX10_refuseUnlessStarted : MethodName := ⟨RX10, "refuseUnlessStarted", "()V"⟩
abbrev cX10_refuseUnlessOpen : ByteArray := prog_1_method_58_code
def yX10_refuseUnlessOpen : MethodName := ⟨RX10, "refuseUnlessOpen", "(LWeirStream$Stage;)V"⟩
abbrev cX10_stageOf : ByteArray := prog_1_method_59_code
def yX10_stageOf : MethodName := ⟨RX10, "stageOf", "(I)LWeirStream$Stage;"⟩
abbrev cX10_sourceOf : ByteArray := prog_1_method_60_code
def yX10_sourceOf : MethodName := ⟨RX10, "sourceOf", "(I)LWeirStream$Stage;"⟩
abbrev cX10_spanStageOf : ByteArray := prog_1_method_61_code
def yX10_spanStageOf : MethodName := ⟨RX10, "spanStageOf", "(I)LWeirStream$Stage;"⟩
abbrev cX10_sinkOf : ByteArray := prog_1_method_62_code
def yX10_sinkOf : MethodName := ⟨RX10, "sinkOf", "(I)LWeirStream$Stage;"⟩
abbrev cX10_outputAt : ByteArray := prog_1_method_63_code
def yX10_outputAt : MethodName := ⟨RX10, "outputAt", "(II)J"⟩
abbrev cX10_wire : ByteArray := prog_1_method_64_code
def yX10_wire : MethodName := ⟨RX10, "wire", "(LWeirStream$Plan;)I"⟩
abbrev cX10_planOf : ByteArray := prog_1_method_65_code
def yX10_planOf : MethodName := ⟨RX10, "planOf", "(I)LWeirStream$Plan;"⟩
def RX11 : String := "WeirStreamModel$Kept"
def TX11 : u_T := fun k => match k with
  | _ => ("", "", "", false)
def tyX11 : Nat → FieldType := fun k => match k with
  | _ => .int
abbrev wsX110 : List Cond := u_ws RX11 TX11 0
theorem nmX11 : ∀ a, a < 0 → ∀ b, b < 0 → a ≠ b → (TX11 a).2.1 ≠ (TX11 b).2.1 := by decide +kernel
theorem tyX11_ok : ∀ k, k < 0 → parseFieldDescriptor (TX11 k).2.2.1 = some (tyX11 k) := by decide +kernel
def RX12 : String := "WeirStreamModel$Rows"
def TX12 : u_T := fun k => match k with
  | _ => ("", "", "", false)
def tyX12 : Nat → FieldType := fun k => match k with
  | _ => .int
abbrev wsX120 : List Cond := u_ws RX12 TX12 0
theorem nmX12 : ∀ a, a < 0 → ∀ b, b < 0 → a ≠ b → (TX12 a).2.1 ≠ (TX12 b).2.1 := by decide +kernel
theorem tyX12_ok : ∀ k, k < 0 → parseFieldDescriptor (TX12 k).2.2.1 = some (tyX12 k) := by decide +kernel
def RX13 : String := "WeirStreamModel$State"
def TX13 : u_T := fun k => match k with
  | _ => ("", "", "", false)
def tyX13 : Nat → FieldType := fun k => match k with
  | _ => .int
abbrev wsX130 : List Cond := u_ws RX13 TX13 0
theorem nmX13 : ∀ a, a < 0 → ∀ b, b < 0 → a ≠ b → (TX13 a).2.1 ≠ (TX13 b).2.1 := by decide +kernel
theorem tyX13_ok : ∀ k, k < 0 → parseFieldDescriptor (TX13 k).2.2.1 = some (tyX13 k) := by decide +kernel
def RX14 : String := "WeirStreamModel"
def TX14 : u_T := fun k => match k with
  | _ => ("", "", "", false)
def tyX14 : Nat → FieldType := fun k => match k with
  | _ => .int
abbrev wsX140 : List Cond := u_ws RX14 TX14 0
theorem nmX14 : ∀ a, a < 0 → ∀ b, b < 0 → a ≠ b → (TX14 a).2.1 ≠ (TX14 b).2.1 := by decide +kernel
theorem tyX14_ok : ∀ k, k < 0 → parseFieldDescriptor (TX14 k).2.2.1 = some (tyX14 k) := by decide +kernel
def RJx145de : String := "java/io/Serializable"
def TJx145de : u_T := fun k => match k with
  | _ => ("", "", "", false)
def tyJx145de : Nat → FieldType := fun k => match k with
  | _ => .int
abbrev wsJx145de0 : List Cond := u_ws RJx145de TJx145de 0
theorem nmJx145de : ∀ a, a < 0 → ∀ b, b < 0 → a ≠ b → (TJx145de a).2.1 ≠ (TJx145de b).2.1 := by decide +kernel
theorem tyJx145de_ok : ∀ k, k < 0 → parseFieldDescriptor (TJx145de k).2.2.1 = some (tyJx145de k) := by decide +kernel
def RJx8e188 : String := "java/lang/Cloneable"
def TJx8e188 : u_T := fun k => match k with
  | _ => ("", "", "", false)
def tyJx8e188 : Nat → FieldType := fun k => match k with
  | _ => .int
abbrev wsJx8e1880 : List Cond := u_ws RJx8e188 TJx8e188 0
theorem nmJx8e188 : ∀ a, a < 0 → ∀ b, b < 0 → a ≠ b → (TJx8e188 a).2.1 ≠ (TJx8e188 b).2.1 := by decide +kernel
theorem tyJx8e188_ok : ∀ k, k < 0 → parseFieldDescriptor (TJx8e188 k).2.2.1 = some (tyJx8e188 k) := by decide +kernel
def RJxab1ab : String := "java/lang/Iterable"
def TJxab1ab : u_T := fun k => match k with
  | _ => ("", "", "", false)
def tyJxab1ab : Nat → FieldType := fun k => match k with
  | _ => .int
abbrev wsJxab1ab0 : List Cond := u_ws RJxab1ab TJxab1ab 0
theorem nmJxab1ab : ∀ a, a < 0 → ∀ b, b < 0 → a ≠ b → (TJxab1ab a).2.1 ≠ (TJxab1ab b).2.1 := by decide +kernel
theorem tyJxab1ab_ok : ∀ k, k < 0 → parseFieldDescriptor (TJxab1ab k).2.2.1 = some (tyJxab1ab k) := by decide +kernel
def RJ9 : String := "java/lang/Math"
def TJ9 : u_T := fun k => match k with
  | _ => ("", "", "", false)
def tyJ9 : Nat → FieldType := fun k => match k with
  | _ => .int
abbrev wsJ90 : List Cond := u_ws RJ9 TJ9 0
theorem nmJ9 : ∀ a, a < 0 → ∀ b, b < 0 → a ≠ b → (TJ9 a).2.1 ≠ (TJ9 b).2.1 := by decide +kernel
theorem tyJ9_ok : ∀ k, k < 0 → parseFieldDescriptor (TJ9 k).2.2.1 = some (tyJ9 k) := by decide +kernel
abbrev cJ9_floorDiv_7cf53 : ByteArray := prog_24_method_47_code
def yJ9_floorDiv_7cf53 : MethodName := ⟨RJ9, "floorDiv", "(II)I"⟩
abbrev cJ9_floorMod_7cf53 : ByteArray := prog_24_method_50_code
def yJ9_floorMod_7cf53 : MethodName := ⟨RJ9, "floorMod", "(II)I"⟩
abbrev cJ9_max_7cf53 : ByteArray := prog_24_method_65_code
def yJ9_max_7cf53 : MethodName := ⟨RJ9, "max", "(II)I"⟩
abbrev cJ9_min_7cf53 : ByteArray := prog_24_method_69_code
def yJ9_min_7cf53 : MethodName := ⟨RJ9, "min", "(II)I"⟩
def RJ10 : String := "java/lang/System"
def TJ10 : u_T := fun k => match k with
  | _ => ("", "", "", false)
def tyJ10 : Nat → FieldType := fun k => match k with
  | _ => .int
abbrev wsJ100 : List Cond := u_ws RJ10 TJ10 0
theorem nmJ10 : ∀ a, a < 0 → ∀ b, b < 0 → a ≠ b → (TJ10 a).2.1 ≠ (TJ10 b).2.1 := by decide +kernel
theorem tyJ10_ok : ∀ k, k < 0 → parseFieldDescriptor (TJ10 k).2.2.1 = some (tyJ10 k) := by decide +kernel
def RJxa1e45 : String := "java/util/AbstractCollection"
def TJxa1e45 : u_T := fun k => match k with
  | _ => ("", "", "", false)
def tyJxa1e45 : Nat → FieldType := fun k => match k with
  | _ => .int
abbrev wsJxa1e450 : List Cond := u_ws RJxa1e45 TJxa1e45 0
theorem nmJxa1e45 : ∀ a, a < 0 → ∀ b, b < 0 → a ≠ b → (TJxa1e45 a).2.1 ≠ (TJxa1e45 b).2.1 := by decide +kernel
theorem tyJxa1e45_ok : ∀ k, k < 0 → parseFieldDescriptor (TJxa1e45 k).2.2.1 = some (tyJxa1e45 k) := by decide +kernel
abbrev cJxa1e45_init_da8c8 : ByteArray := prog_28_method_1_code
def yJxa1e45_init_da8c8 : MethodName := ⟨RJxa1e45, "<init>", "()V"⟩
def RJxc12de : String := "java/util/AbstractList"
def TJxc12de : u_T := fun k => match k with
  | _ => ("", "", "", false)
def tyJxc12de : Nat → FieldType := fun k => match k with
  | _ => .int
abbrev wsJxc12de0 : List Cond := u_ws RJxc12de TJxc12de 0
theorem nmJxc12de : ∀ a, a < 0 → ∀ b, b < 0 → a ≠ b → (TJxc12de a).2.1 ≠ (TJxc12de b).2.1 := by decide +kernel
theorem tyJxc12de_ok : ∀ k, k < 0 → parseFieldDescriptor (TJxc12de k).2.2.1 = some (tyJxc12de k) := by decide +kernel
abbrev cJxc12de_init_da8c8 : ByteArray := prog_29_method_1_code
def yJxc12de_init_da8c8 : MethodName := ⟨RJxc12de, "<init>", "()V"⟩
def RJx4a65c : String := "java/util/ArrayList"
def TJx4a65c : u_T := fun k => match k with
  | 0 => ("java/util/AbstractList", "modCount", "I", false)
  | 1 => ("java/util/ArrayList", "elementData", "[Ljava/lang/Object;", false)
  | _ => ("java/util/ArrayList", "size", "I", false)
def tyJx4a65c : Nat → FieldType := fun k => match k with
  | 0 => .int
  | 1 => .array (.object "java/lang/Object")
  | _ => .int
abbrev wsJx4a65c0 : List Cond := u_ws RJx4a65c TJx4a65c 3
theorem nmJx4a65c : ∀ a, a < 3 → ∀ b, b < 3 → a ≠ b → (TJx4a65c a).2.1 ≠ (TJx4a65c b).2.1 := by decide +kernel
theorem tyJx4a65c_ok : ∀ k, k < 3 → parseFieldDescriptor (TJx4a65c k).2.2.1 = some (tyJx4a65c k) := by decide +kernel
abbrev cJx4a65c_init_da8c8 : ByteArray := prog_30_method_2_code
def yJx4a65c_init_da8c8 : MethodName := ⟨RJx4a65c, "<init>", "()V"⟩
abbrev cJx4a65c_grow_92f84 : ByteArray := prog_30_method_6_code
def yJx4a65c_grow_92f84 : MethodName := ⟨RJx4a65c, "grow", "(I)[Ljava/lang/Object;"⟩
abbrev cJx4a65c_grow_d5877 : ByteArray := prog_30_method_7_code
def yJx4a65c_grow_d5877 : MethodName := ⟨RJx4a65c, "grow", "()[Ljava/lang/Object;"⟩
abbrev cJx4a65c_size_8abf5 : ByteArray := prog_30_method_8_code
def yJx4a65c_size_8abf5 : MethodName := ⟨RJx4a65c, "size", "()I"⟩
abbrev cJx4a65c_elementData_915e3 : ByteArray := prog_30_method_18_code
def yJx4a65c_elementData_915e3 : MethodName := ⟨RJx4a65c, "elementData", "(I)Ljava/lang/Object;"⟩
abbrev cJx4a65c_get_915e3 : ByteArray := prog_30_method_20_code
def yJx4a65c_get_915e3 : MethodName := ⟨RJx4a65c, "get", "(I)Ljava/lang/Object;"⟩
abbrev cJx4a65c_add_72be8 : ByteArray := prog_30_method_24_code
def yJx4a65c_add_72be8 : MethodName := ⟨RJx4a65c, "add", "(Ljava/lang/Object;[Ljava/lang/Object;I)V"⟩
abbrev cJx4a65c_add_9ea2d : ByteArray := prog_30_method_25_code
def yJx4a65c_add_9ea2d : MethodName := ⟨RJx4a65c, "add", "(Ljava/lang/Object;)Z"⟩
def RJ7 : String := "java/util/Arrays"
def TJ7 : u_T := fun k => match k with
  | _ => ("", "", "", false)
def tyJ7 : Nat → FieldType := fun k => match k with
  | _ => .int
abbrev wsJ70 : List Cond := u_ws RJ7 TJ7 0
theorem nmJ7 : ∀ a, a < 0 → ∀ b, b < 0 → a ≠ b → (TJ7 a).2.1 ≠ (TJ7 b).2.1 := by decide +kernel
theorem tyJ7_ok : ∀ k, k < 0 → parseFieldDescriptor (TJ7 k).2.2.1 = some (tyJ7 k) := by decide +kernel
abbrev cJ7_copyOf_1904c : ByteArray := prog_31_method_119_code
def yJ7_copyOf_1904c : MethodName := ⟨RJ7, "copyOf", "([Ljava/lang/Object;I)[Ljava/lang/Object;"⟩
abbrev cJ7_copyOf_6403c : ByteArray := prog_31_method_120_code
def yJ7_copyOf_6403c : MethodName := ⟨RJ7, "copyOf", "([Ljava/lang/Object;ILjava/lang/Class;)[Ljava/lang/Object;"⟩
abbrev cJ7_copyOf_c38d5 : ByteArray := prog_31_method_124_code
def yJ7_copyOf_c38d5 : MethodName := ⟨RJ7, "copyOf", "([JI)[J"⟩
def RJx5ef63 : String := "java/util/Collection"
def TJx5ef63 : u_T := fun k => match k with
  | _ => ("", "", "", false)
def tyJx5ef63 : Nat → FieldType := fun k => match k with
  | _ => .int
abbrev wsJx5ef630 : List Cond := u_ws RJx5ef63 TJx5ef63 0
theorem nmJx5ef63 : ∀ a, a < 0 → ∀ b, b < 0 → a ≠ b → (TJx5ef63 a).2.1 ≠ (TJx5ef63 b).2.1 := by decide +kernel
theorem tyJx5ef63_ok : ∀ k, k < 0 → parseFieldDescriptor (TJx5ef63 k).2.2.1 = some (tyJx5ef63 k) := by decide +kernel
def RJxbd725 : String := "java/util/List"
def TJxbd725 : u_T := fun k => match k with
  | _ => ("", "", "", false)
def tyJxbd725 : Nat → FieldType := fun k => match k with
  | _ => .int
abbrev wsJxbd7250 : List Cond := u_ws RJxbd725 TJxbd725 0
theorem nmJxbd725 : ∀ a, a < 0 → ∀ b, b < 0 → a ≠ b → (TJxbd725 a).2.1 ≠ (TJxbd725 b).2.1 := by decide +kernel
theorem tyJxbd725_ok : ∀ k, k < 0 → parseFieldDescriptor (TJxbd725 k).2.2.1 = some (tyJxbd725 k) := by decide +kernel
def RJ15 : String := "java/util/Objects"
def TJ15 : u_T := fun k => match k with
  | _ => ("", "", "", false)
def tyJ15 : Nat → FieldType := fun k => match k with
  | _ => .int
abbrev wsJ150 : List Cond := u_ws RJ15 TJ15 0
theorem nmJ15 : ∀ a, a < 0 → ∀ b, b < 0 → a ≠ b → (TJ15 a).2.1 ≠ (TJ15 b).2.1 := by decide +kernel
theorem tyJ15_ok : ∀ k, k < 0 → parseFieldDescriptor (TJ15 k).2.2.1 = some (tyJ15 k) := by decide +kernel
abbrev cJ15_checkIndex_7cf53 : ByteArray := prog_34_method_17_code
def yJ15_checkIndex_7cf53 : MethodName := ⟨RJ15, "checkIndex", "(II)I"⟩
def RJxf0a74 : String := "java/util/RandomAccess"
def TJxf0a74 : u_T := fun k => match k with
  | _ => ("", "", "", false)
def tyJxf0a74 : Nat → FieldType := fun k => match k with
  | _ => .int
abbrev wsJxf0a740 : List Cond := u_ws RJxf0a74 TJxf0a74 0
theorem nmJxf0a74 : ∀ a, a < 0 → ∀ b, b < 0 → a ≠ b → (TJxf0a74 a).2.1 ≠ (TJxf0a74 b).2.1 := by decide +kernel
theorem tyJxf0a74_ok : ∀ k, k < 0 → parseFieldDescriptor (TJxf0a74 k).2.2.1 = some (tyJxf0a74 k) := by decide +kernel
def RJxa66e6 : String := "java/util/SequencedCollection"
def TJxa66e6 : u_T := fun k => match k with
  | _ => ("", "", "", false)
def tyJxa66e6 : Nat → FieldType := fun k => match k with
  | _ => .int
abbrev wsJxa66e60 : List Cond := u_ws RJxa66e6 TJxa66e6 0
theorem nmJxa66e6 : ∀ a, a < 0 → ∀ b, b < 0 → a ≠ b → (TJxa66e6 a).2.1 ≠ (TJxa66e6 b).2.1 := by decide +kernel
theorem tyJxa66e6_ok : ∀ k, k < 0 → parseFieldDescriptor (TJxa66e6 k).2.2.1 = some (tyJxa66e6 k) := by decide +kernel
def RJ8 : String := "jdk/internal/util/ArraysSupport"
def TJ8 : u_T := fun k => match k with
  | _ => ("", "", "", false)
def tyJ8 : Nat → FieldType := fun k => match k with
  | _ => .int
abbrev wsJ80 : List Cond := u_ws RJ8 TJ8 0
theorem nmJ8 : ∀ a, a < 0 → ∀ b, b < 0 → a ≠ b → (TJ8 a).2.1 ≠ (TJ8 b).2.1 := by decide +kernel
theorem tyJ8_ok : ∀ k, k < 0 → parseFieldDescriptor (TJ8 k).2.2.1 = some (tyJ8 k) := by decide +kernel
abbrev cJ8_newLength_cabcc : ByteArray := prog_37_method_27_code
def yJ8_newLength_cabcc : MethodName := ⟨RJ8, "newLength", "(III)I"⟩
abbrev cJ8_hugeLength_7cf53 : ByteArray := prog_37_method_28_code
def yJ8_hugeLength_7cf53 : MethodName := ⟨RJ8, "hugeLength", "(II)I"⟩
def RJ3 : String := "jdk/internal/util/Preconditions"
def TJ3 : u_T := fun k => match k with
  | _ => ("", "", "", false)
def tyJ3 : Nat → FieldType := fun k => match k with
  | _ => .int
abbrev wsJ30 : List Cond := u_ws RJ3 TJ3 0
theorem nmJ3 : ∀ a, a < 0 → ∀ b, b < 0 → a ≠ b → (TJ3 a).2.1 ≠ (TJ3 b).2.1 := by decide +kernel
theorem tyJ3_ok : ∀ k, k < 0 → parseFieldDescriptor (TJ3 k).2.2.1 = some (tyJ3 k) := by decide +kernel
abbrev cJ3_checkIndex_8e157 : ByteArray := prog_38_method_11_code
def yJ3_checkIndex_8e157 : MethodName := ⟨RJ3, "checkIndex", "(IILjava/util/function/BiFunction;)I"⟩
def RL : String := "WeirStreamLaw"
abbrev cL_below : ByteArray := method_2_code
def yL_below : MethodName := ⟨RL, "below", "(II)I"⟩
abbrev cL_cell : ByteArray := method_3_code
def yL_cell : MethodName := ⟨RL, "cell", "([II)I"⟩
abbrev cL_law : ByteArray := code
def yL_law : MethodName := ⟨RL, "law", "([I)Z"⟩
abbrev cL_offer : ByteArray := method_5_code
def yL_offer : MethodName := ⟨RL, "offer", "(LWeirStream;IIII)I"⟩
abbrev cL_add : ByteArray := method_6_code
def yL_add : MethodName := ⟨RL, "add", "(LWeirStream;II)V"⟩
abbrev cL_isSound : ByteArray := method_7_code
def yL_isSound : MethodName := ⟨RL, "isSound", "(LWeirStream;II)Z"⟩
abbrev vwCl : List vw_C := [(RJx4a65c, TJx4a65c, 3), (RX1, TX1, 3), (RX2, TX2, 8), (RX4, TX4, 2), (RX5, TX5, 15), (RX6, TX6, 2), (RX7, TX7, 2), (RX8, TX8, 12), (RX9, TX9, 11), (RX10, TX10, 5)]
end
section
/-! ===== one list of words for all methods; the context that every contract carries; calls and ends, packed ===== -/
def lw_all : List Cond := lw_tbl.filter goodWord
theorem lw_in {w : Cond} (h : w ∈ lw_tbl) (g : goodWord w = true) : w ∈ lw_all := List.mem_filter.mpr ⟨h, g⟩
theorem lw_tb {w : Cond} (h : w ∈ tables_1) : w ∈ lw_tbl := List.mem_append_right _ h
theorem lw_ps {w : Cond} (h : w ∈ k2_sels lw_privs) : w ∈ lw_tbl := List.mem_append_left _ h
theorem lw_all_tbl {w : Cond} (h : w ∈ lw_all) : w ∈ lw_tbl := (List.mem_filter.mp h).1
theorem lw_good {w : Cond} (h : w ∈ lw_all) : w ∈ lw_all ∧ ((w.onTables && w.keeps) = true ∨ ∃ ty, w = .arrayClass ty) := ⟨h, good_of_word (List.mem_filter.mp h).2⟩
abbrev ws_ (y : MethodName) (c : ByteArray) (n : Nat) (r : Option FieldType) : List Cond := Cond.code y c n r :: lw_all
theorem lw_C {w : Cond} (h : w ∈ lw_all) : GoodIn lw_all (w :: lw_all) := fun w' hw => (List.mem_cons.mp hw).elim (fun e => by rw [e]; exact lw_good h) (fun h' => lw_good h')
theorem lw_app {l : List Cond} {w : Cond} (hl : ∀ w' ∈ l, w' ∈ lw_all) (h : w ∈ lw_all) : GoodIn lw_all (l ++ (w :: lw_all)) := fun w' hw => (List.mem_append.mp hw).elim (fun h' => lw_good (hl w' h')) (fun h' => lw_C h w' h')
theorem lw_V {own C : String} {i : Nat} {y : MethodName} {w : Cond} (h1 : Cond.methodLink own i y ∈ lw_all) (h2 : Cond.instanceMethod y ∈ lw_all) (h3 : Cond.selects C y y ∈ lw_all) (h4 : Cond.initialized C ∈ lw_all) (h : w ∈ lw_all) : GoodIn lw_all (wsV own i C y (w :: lw_all)) :=
  lw_app (List.forall_mem_cons.mpr ⟨h1, List.forall_mem_cons.mpr ⟨h2, List.forall_mem_cons.mpr ⟨h3, List.forall_mem_cons.mpr ⟨h4, fun _ h => absurd h List.not_mem_nil⟩⟩⟩⟩) h
theorem lw_S {own : String} {i : Nat} {y : MethodName} {w : Cond} (h1 : Cond.methodLink own i y ∈ lw_all) (h2 : Cond.static y ∈ lw_all) (h3 : Cond.initialized y.cls ∈ lw_all) (h : w ∈ lw_all) : GoodIn lw_all (va_wsS own i y (w :: lw_all)) :=
  lw_app (List.forall_mem_cons.mpr ⟨h1, List.forall_mem_cons.mpr ⟨h2, List.forall_mem_cons.mpr ⟨h3, fun _ h => absurd h List.not_mem_nil⟩⟩⟩) h
-- the words that aren't good, but stay: nest mates' links, castable, declares, arrayOver
def zk_n (w : Cond) : Bool := match w with
  | .fieldLinkNest .. => true
  | .methodLinkNest .. => true
  | .castable .. => true
  | .declares _ => true
  | .arrayOver _ => true
  | _ => false
def zk_N (U : State) : Prop := ∀ w ∈ lw_tbl, zk_n w = true → w.before #[] U = true
theorem zk_over {ty : FieldType} {s U : State} (hW : s.WarmedH U.vm) (h : (Cond.arrayOver ty).before #[] s = true) : (Cond.arrayOver ty).before #[] U = true := by
  have h2 : (Cond.arrayOver ty).before #[] (s.setVm U.vm) = true := by rw [Cond.arrayOver_setVmC hW.alike ty]; exact h
  exact h2
theorem zk_N.warm {s U : State} (hW : s.WarmedH U.vm) (h : zk_N s) : zk_N U := by
  intro w hw hz
  have h0 := h w hw hz
  cases w with
  | fieldLinkNest a i b n d hh => exact va_Nw.warmF hW h0
  | methodLinkNest a i x hh => exact va_Nw.warmM hW h0
  | castable C T => exact va_Nw.warmC hW h0
  | declares x => exact va_Nw.warmD hW h0
  | arrayOver ty => exact zk_over hW h0
  | _ => exact (Bool.false_ne_true hz).elim
theorem zk_tab {w : Cond} (hw : w.onTables = true) {s : State} {A : Array Value} (h : w.before #[] s = true) : w.before A s = true := va_tabs hw rfl h
-- the array classes, by their places in yT
abbrev yT (y : Nat → ClassId) : List (ClassId × FieldType) := [(y 0, .int), (y 1, .long), (y 2, .object "java/lang/Object")]
theorem zk_same {D : va_G} {cl : List vw_C} {tys : List (ClassId × FieldType)} {U : State} {c1 c2 : ClassId} {ty : FieldType} (h : va_K D cl tys U) (i j : Nat) (hi : tys[i]? = some (c1, ty)) (hj : tys[j]? = some (c2, ty)) : c1 = c2 := by
  have h1 := (h.2 i _ hi).2
  have h2 := (h.2 j _ hj).2
  cases ty with
  | object C =>
    obtain ⟨_, _, _, _, _, e1⟩ := h1
    obtain ⟨_, _, _, _, _, e2⟩ := h2
    exact Option.some.inj (e1.symm.trans e2)
  | _ =>
    have e1 : U.vm.findClass _ = some c1 := h1
    have e2 : U.vm.findClass _ = some c2 := h2
    exact Option.some.inj (e1.symm.trans e2)
/-- what every contract knows of its start: the classes, the words that stay, the empty lists' shared array; A: what the method may change -/
def CX (D : va_G) (y : Nat → ClassId) (e0 : Nat) (A : Nat → Prop) (U : State) : Prop :=
  va_K D vwCl (yT y) U ∧ zk_N U ∧ va_Z "java/util/ArrayList" "DEFAULTCAPACITY_EMPTY_ELEMENTDATA" "[Ljava/lang/Object;" (.ref e0) A U U.heap ∧ va_T (.object "java/lang/Object") e0 0 (fun _ => .null) A U U.heap
theorem CX.go {D : va_G} {y : Nat → ClassId} {e0 : Nat} {A B : Nat → Prop} {s U : State} {H : Heap} {locs : List Loc} (h : CX D y e0 A s) (hS : va_S A s.heap H locs) (hB : ∀ q, B q → A q) (hU : U.heap = H) (hW : s.WarmedH U.vm) : CX D y e0 B U := by
  obtain ⟨h1, h2, h6, h7⟩ := h
  rw [← hU] at hS
  refine ⟨va_K.moved hW.alike h1, zk_N.warm hW h2, ?_, ?_⟩
  · exact ((h6.kept hS.2.1).moved hW.alike).narrow hB
  · exact ((h7.kept hS.2.1).moved hW.alike).narrow hB
theorem CX.calling {D : va_G} {y : Nat → ClassId} {e0 : Nat} {A : Nat → Prop} {U : State} (g : JFrame) (mk : MethodId) (a : Array Value) (h : CX D y e0 A U) : CX D y e0 A (U.calling g mk a) := by
  have hv : (U.calling g mk a).vm = U.vm := rfl
  have hW : U.WarmedH (U.calling g mk a).vm := by rw [hv]; exact State.WarmedH.refl U
  have hU : (U.calling g mk a).heap = U.heap := rfl
  exact h.go (H := U.heap) (locs := []) va_S.rf (fun _ h => h) hU hW
theorem CX.narrow {D : va_G} {y : Nat → ClassId} {e0 : Nat} {A B : Nat → Prop} {U : State} (hB : ∀ q, B q → A q) (h : CX D y e0 A U) : CX D y e0 B U := by
  obtain ⟨h1, h2, h6, h7⟩ := h
  exact ⟨h1, h2, h6.narrow hB, h7.narrow hB⟩
/-- a contract's start: the arguments, the world ws, the context -/
def PR (D : va_G) (y : Nat → ClassId) (e0 : Nat) (ws : va_W) (sz : Nat) (av : List Value) : Array Value → State → Prop := va_Pc av (fun U => U.heap.size = sz ∧ va_P D vwCl ws U.heap ∧ va_D (fun _ => True) ws ∧ CX D y e0 (va_A ws sz) U)
theorem PR.blind {D : va_G} {y : Nat → ClassId} {e0 : Nat} {ws : va_W} {sz : Nat} {av : List Value} : FrameBlind (PR D y e0 ws sz av) := fun a U g mk q => by
  obtain ⟨q0, q1, qP, qD, qC⟩ := q
  exact ⟨q0, q1, qP, qD, CX.calling g mk a qC⟩
/-- the world behind a method; u: the cells that it made -/
abbrev WD (D : va_G) (A : Nat → Prop) (w : (Nat → Nat → Nat) → va_W) (u : Nat → Nat → Nat) (t : State) : Prop := va_P D vwCl (w u) t.heap ∧ va_D A (w u)
theorem zk_sub {D : va_G} {cl : List vw_C} {ws wc : va_W} {H : Heap} (h : va_P D cl ws H) (is : List Nat) (hs : is.map (fun i => ws[i]?) = wc.map some) : va_P D cl wc H := by
  intro k q hk
  have h1 : (is.map (fun i => ws[i]?))[k]? = some (some q) := by rw [hs, List.getElem?_map, hk]; rfl
  rw [List.getElem?_map] at h1
  cases hi : is[k]? with
  | none => rw [hi] at h1; cases h1
  | some i => rw [hi] at h1; exact h i q (Option.some.inj h1)
section ZKC
variable {p : Program} {l : Launch} {e : Env} {R : Room} {s : State} {m : MethodId} {args : Array Value} {below : List Frame} {meth : Method} {c : Code} {H : Heap} {locs : List Loc} {cells slots : Nat} {Q : State → Prop}
variable {D : va_G} {y : Nat → ClassId} {e0 : Nat} {A : Nat → Prop} {ws wc wr : va_W} {As rest st0 : List Value} {mc ms pc : Nat} {ls : Array Slot} {a : Array Value}
theorem zk_pS (hC : CX D y e0 A s) (hP : va_P D vwCl ws H) (hD : va_D A ws) (hS : va_S A s.heap H locs) (hA : ∀ q, s.heap.size ≤ q → A q) (is : List Nat) (hc : is.map (fun i => ws[i]?) = wc.map some) (hn : va_nd is = true) : PreS s H (PR D y e0 wc H.size As) As :=
  ⟨PR.blind, fun U hU hW => ⟨rfl, by rw [hU], by rw [hU]; exact zk_sub hP is hc, (hD.sub is hn hc).weaken (fun _ _ _ _ => trivial), hC.go hS (va_free hD hS hA is hc) hU hW⟩⟩
theorem zk_pV {C : String} {b : Addr} (hC : CX D y e0 A s) (hP : va_P D vwCl ws H) (hD : va_D A ws) (hS : va_S A s.heap H locs) (hA : ∀ q, s.heap.size ≤ q → A q) (is : List Nat) (hc : is.map (fun i => ws[i]?) = wc.map some) (hn : va_nd is = true) (q0 ci : Nat) {fs : List Value} {T : u_T} {N : Nat} (he : ws[q0]? = some (b, .inr (ci, fs))) (hci : vwCl[ci]? = some (C, T, N)) : PreV s H C b (PR D y e0 wc H.size (.ref b :: As)) As :=
  ⟨PR.blind, va_recv hC.1 hP hci he, fun U hU hW => ⟨rfl, by rw [hU], by rw [hU]; exact zk_sub hP is hc, (hD.sub is hn hc).weaken (fun _ _ _ _ => trivial), hC.go hS (va_free hD hS hA is hc) hU hW⟩⟩
/-- the worlds put together behind a call -/
theorem zk_jn {w1 : va_W} {H1 : Heap} (hP : va_P D vwCl ws H) (hD : va_D A ws) (hS : va_S A s.heap H locs) (hA : ∀ q, s.heap.size ≤ q → A q) (is js : List Nat) (hc : is.map (fun i => ws[i]?) = wc.map some) (hr : js.map (fun i => ws[i]?) = wr.map some) (hn : va_nd js = true) (hdis : ∀ i ∈ js, i ∉ is)
    (hk : ∀ q : Nat, q < H.size → ¬ va_A wc H.size q → H1[q]? = H[q]?) (hP1 : va_P D vwCl w1 H1) (hD1 : va_D (va_A wc H.size) w1) : va_P D vwCl (wr ++ w1) H1 ∧ va_D A (wr ++ w1) :=
  va_join hP hD is js hc hr hn hdis hk (va_free hD hS hA is hc) hP1 hD1
theorem zk_i {r0 : (Nat → Nat → Nat) → Int32} {w1 : (Nat → Nat → Nat) → va_W} (hr : va_Run p l e R s m args below meth c H locs cells slots mc ms (F0 m pc ls st0) rest (va_Qi (fun r u => r = r0 u) (WD D (va_A wc H.size) w1) (va_A wc H.size) a) (va_A wc H.size))
    (hP : va_P D vwCl ws H) (hD : va_D A ws) (hS : va_S A s.heap H locs) (hA : ∀ q, s.heap.size ≤ q → A q) (is js : List Nat) (hc : is.map (fun i => ws[i]?) = wc.map some) (hj : js.map (fun i => ws[i]?) = wr.map some) (hn : va_nd js = true) (hdis : ∀ i ∈ js, i ∉ is)
    (kk : ∀ (u : Nat → Nat → Nat) (H1 : Heap) (locs1 : List Loc), va_P D vwCl (wr ++ w1 u) H1 → va_D A (wr ++ w1 u) → va_S A s.heap H1 locs1 → W p l e R s m args below meth c H1 locs1 (cells + mc) (slots + ms) Q (F0 m (pc + 3) ls (.int (r0 u) :: rest))) : W p l e R s m args below meth c H locs cells slots Q (F0 m pc ls st0) := by
  have hF := va_free hD hS hA is hc
  refine va_calli hr hS (fun q _ h => hF q h) hF (fun r u t H1 locs1 ht hvm hw hB hz1 hk1 hS1 => ?_)
  obtain ⟨hP1, hD1⟩ := hB
  rw [ht] at hP1
  obtain ⟨h1, h2⟩ := zk_jn hP hD hS hA is js hc hj hn hdis hk1 hP1 hD1
  rw [show r = r0 u from hw]
  exact kk u H1 locs1 h1 h2 hS1
theorem zk_l {r0 : (Nat → Nat → Nat) → Int64} {w1 : (Nat → Nat → Nat) → va_W} (hr : va_Run p l e R s m args below meth c H locs cells slots mc ms (F0 m pc ls st0) rest (va_Ql (fun r u => r = r0 u) (WD D (va_A wc H.size) w1) (va_A wc H.size) a) (va_A wc H.size))
    (hP : va_P D vwCl ws H) (hD : va_D A ws) (hS : va_S A s.heap H locs) (hA : ∀ q, s.heap.size ≤ q → A q) (is js : List Nat) (hc : is.map (fun i => ws[i]?) = wc.map some) (hj : js.map (fun i => ws[i]?) = wr.map some) (hn : va_nd js = true) (hdis : ∀ i ∈ js, i ∉ is)
    (kk : ∀ (u : Nat → Nat → Nat) (H1 : Heap) (locs1 : List Loc), va_P D vwCl (wr ++ w1 u) H1 → va_D A (wr ++ w1 u) → va_S A s.heap H1 locs1 → W p l e R s m args below meth c H1 locs1 (cells + mc) (slots + ms) Q (F0 m (pc + 3) ls (.long (r0 u) :: rest))) : W p l e R s m args below meth c H locs cells slots Q (F0 m pc ls st0) := by
  have hF := va_free hD hS hA is hc
  refine va_calll hr hS (fun q _ h => hF q h) hF (fun r u t H1 locs1 ht hvm hw hB hz1 hk1 hS1 => ?_)
  obtain ⟨hP1, hD1⟩ := hB
  rw [ht] at hP1
  obtain ⟨h1, h2⟩ := zk_jn hP hD hS hA is js hc hj hn hdis hk1 hP1 hD1
  rw [show r = r0 u from hw]
  exact kk u H1 locs1 h1 h2 hS1
theorem zk_d {r0 : (Nat → Nat → Nat) → UInt64} {w1 : (Nat → Nat → Nat) → va_W} (hr : va_Run p l e R s m args below meth c H locs cells slots mc ms (F0 m pc ls st0) rest (va_Qd (fun r u => r = r0 u) (WD D (va_A wc H.size) w1) (va_A wc H.size) a) (va_A wc H.size))
    (hP : va_P D vwCl ws H) (hD : va_D A ws) (hS : va_S A s.heap H locs) (hA : ∀ q, s.heap.size ≤ q → A q) (is js : List Nat) (hc : is.map (fun i => ws[i]?) = wc.map some) (hj : js.map (fun i => ws[i]?) = wr.map some) (hn : va_nd js = true) (hdis : ∀ i ∈ js, i ∉ is)
    (kk : ∀ (u : Nat → Nat → Nat) (H1 : Heap) (locs1 : List Loc), va_P D vwCl (wr ++ w1 u) H1 → va_D A (wr ++ w1 u) → va_S A s.heap H1 locs1 → W p l e R s m args below meth c H1 locs1 (cells + mc) (slots + ms) Q (F0 m (pc + 3) ls (.double (r0 u) :: rest))) : W p l e R s m args below meth c H locs cells slots Q (F0 m pc ls st0) := by
  have hF := va_free hD hS hA is hc
  refine va_calld hr hS (fun q _ h => hF q h) hF (fun r u t H1 locs1 ht hvm hw hB hz1 hk1 hS1 => ?_)
  obtain ⟨hP1, hD1⟩ := hB
  rw [ht] at hP1
  obtain ⟨h1, h2⟩ := zk_jn hP hD hS hA is js hc hj hn hdis hk1 hP1 hD1
  rw [show r = r0 u from hw]
  exact kk u H1 locs1 h1 h2 hS1
theorem zk_q {r0 : (Nat → Nat → Nat) → Option Nat} {w1 : (Nat → Nat → Nat) → va_W} (hr : va_Run p l e R s m args below meth c H locs cells slots mc ms (F0 m pc ls st0) rest (va_Qq (fun r u => r = r0 u) (WD D (va_A wc H.size) w1) (va_A wc H.size) a) (va_A wc H.size))
    (hP : va_P D vwCl ws H) (hD : va_D A ws) (hS : va_S A s.heap H locs) (hA : ∀ q, s.heap.size ≤ q → A q) (is js : List Nat) (hc : is.map (fun i => ws[i]?) = wc.map some) (hj : js.map (fun i => ws[i]?) = wr.map some) (hn : va_nd js = true) (hdis : ∀ i ∈ js, i ∉ is)
    (kk : ∀ (u : Nat → Nat → Nat) (H1 : Heap) (locs1 : List Loc), va_P D vwCl (wr ++ w1 u) H1 → va_D A (wr ++ w1 u) → va_S A s.heap H1 locs1 → W p l e R s m args below meth c H1 locs1 (cells + mc) (slots + ms) Q (F0 m (pc + 3) ls (va_rf (r0 u) :: rest))) : W p l e R s m args below meth c H locs cells slots Q (F0 m pc ls st0) := by
  have hF := va_free hD hS hA is hc
  refine va_callq hr hS (fun q _ h => hF q h) hF (fun r u t H1 locs1 ht hvm hw hB hz1 hk1 hS1 => ?_)
  obtain ⟨hP1, hD1⟩ := hB
  rw [ht] at hP1
  obtain ⟨h1, h2⟩ := zk_jn hP hD hS hA is js hc hj hn hdis hk1 hP1 hD1
  rw [show r = r0 u from hw]
  exact kk u H1 locs1 h1 h2 hS1
theorem zk_v {w1 : (Nat → Nat → Nat) → va_W} (hr : va_Run p l e R s m args below meth c H locs cells slots mc ms (F0 m pc ls st0) rest (va_Qv (fun _ => True) (WD D (va_A wc H.size) w1) (va_A wc H.size) a) (va_A wc H.size))
    (hP : va_P D vwCl ws H) (hD : va_D A ws) (hS : va_S A s.heap H locs) (hA : ∀ q, s.heap.size ≤ q → A q) (is js : List Nat) (hc : is.map (fun i => ws[i]?) = wc.map some) (hj : js.map (fun i => ws[i]?) = wr.map some) (hn : va_nd js = true) (hdis : ∀ i ∈ js, i ∉ is)
    (kk : ∀ (u : Nat → Nat → Nat) (H1 : Heap) (locs1 : List Loc), va_P D vwCl (wr ++ w1 u) H1 → va_D A (wr ++ w1 u) → va_S A s.heap H1 locs1 → W p l e R s m args below meth c H1 locs1 (cells + mc) (slots + ms) Q (F0 m (pc + 3) ls rest)) : W p l e R s m args below meth c H locs cells slots Q (F0 m pc ls st0) := by
  have hF := va_free hD hS hA is hc
  refine va_callv hr hS (fun q _ h => hF q h) hF (fun u t H1 locs1 ht hvm hw hB hz1 hk1 hS1 => ?_)
  obtain ⟨hP1, hD1⟩ := hB
  rw [ht] at hP1
  obtain ⟨h1, h2⟩ := zk_jn hP hD hS hA is js hc hj hn hdis hk1 hP1 hD1
  exact kk u H1 locs1 h1 h2 hS1
-- known numbers on top of the stack
theorem zk_ti {x y : Int32} (h : x = y) (k : W p l e R s m args below meth c H locs cells slots Q (F0 m pc ls (.int y :: rest))) : W p l e R s m args below meth c H locs cells slots Q (F0 m pc ls (.int x :: rest)) := by rw [h]; exact k
theorem zk_tl {x y : Int64} (h : x = y) (k : W p l e R s m args below meth c H locs cells slots Q (F0 m pc ls (.long y :: rest))) : W p l e R s m args below meth c H locs cells slots Q (F0 m pc ls (.long x :: rest)) := by rw [h]; exact k
theorem zk_tv {x y : Value} (h : x = y) (k : W p l e R s m args below meth c H locs cells slots Q (F0 m pc ls (y :: rest))) : W p l e R s m args below meth c H locs cells slots Q (F0 m pc ls (x :: rest)) := by rw [h]; exact k
-- ends
theorem zk_ri {cc : ByteArray} {r0 : (Nat → Nat → Nat) → Int32} {w1 : (Nat → Nat → Nat) → va_W} {v : Int32} {ty : FieldType} (hx : p.tables.exec = Jvm.exec) (hb : c.code = cc) (hr : meth.sig.returnType = some ty) (hlocks : meth.locks = false) (hP : va_P D vwCl ws H) (hD : va_D A ws) (hS : va_S A s.heap H locs) (u : Nat → Nat → Nat) (hn0 : narrow ty (.int v) = .int v) (hv : v = r0 u) (is : List Nat) (hs : is.map (fun i => ws[i]?) = (w1 u).map some) (hn : va_nd is = true) (h1 : cells ≤ mc) (h2 : slots ≤ ms) (hdg : decode cc pc = .ok (.ireturn, 1)) :
    W p l e R s m args below meth c H locs cells slots (MQ below (va_Qi (fun r u => r = r0 u) (WD D A w1) A) args s mc ms A) (F0 m pc ls [.int v]) :=
  W.widen h1 h2 (W.zret hx hb hr hn0 (fun t ht hW => ⟨⟨v, u, rfl, hv, by rw [ht]; exact zk_sub hP is hs, hD.sub is hn hs⟩, hS.F ht⟩) hS.2.2 hdg hlocks)
theorem zk_rl {cc : ByteArray} {r0 : (Nat → Nat → Nat) → Int64} {w1 : (Nat → Nat → Nat) → va_W} {v : Int64} (hx : p.tables.exec = Jvm.exec) (hb : c.code = cc) (hr : meth.sig.returnType = some .long) (hlocks : meth.locks = false) (hP : va_P D vwCl ws H) (hD : va_D A ws) (hS : va_S A s.heap H locs) (u : Nat → Nat → Nat) (hv : v = r0 u) (is : List Nat) (hs : is.map (fun i => ws[i]?) = (w1 u).map some) (hn : va_nd is = true) (h1 : cells ≤ mc) (h2 : slots ≤ ms) (hdg : decode cc pc = .ok (.lreturn, 1)) :
    W p l e R s m args below meth c H locs cells slots (MQ below (va_Ql (fun r u => r = r0 u) (WD D A w1) A) args s mc ms A) (F0 m pc ls [.long v]) :=
  W.widen h1 h2 (W.lret hx hb hr (fun t ht hW => ⟨⟨v, u, rfl, hv, by rw [ht]; exact zk_sub hP is hs, hD.sub is hn hs⟩, hS.F ht⟩) hS.2.2 hdg hlocks)
theorem zk_rd {cc : ByteArray} {r0 : (Nat → Nat → Nat) → UInt64} {w1 : (Nat → Nat → Nat) → va_W} {v : UInt64} (hx : p.tables.exec = Jvm.exec) (hb : c.code = cc) (hr : meth.sig.returnType = some .double) (hlocks : meth.locks = false) (hP : va_P D vwCl ws H) (hD : va_D A ws) (hS : va_S A s.heap H locs) (u : Nat → Nat → Nat) (hv : v = r0 u) (is : List Nat) (hs : is.map (fun i => ws[i]?) = (w1 u).map some) (hn : va_nd is = true) (h1 : cells ≤ mc) (h2 : slots ≤ ms) (hdg : decode cc pc = .ok (.dreturn, 1)) :
    W p l e R s m args below meth c H locs cells slots (MQ below (va_Qd (fun r u => r = r0 u) (WD D A w1) A) args s mc ms A) (F0 m pc ls [.double v]) :=
  W.widen h1 h2 (W.dret hx hb hr (fun t ht hW => ⟨⟨v, u, rfl, hv, by rw [ht]; exact zk_sub hP is hs, hD.sub is hn hs⟩, hS.F ht⟩) hS.2.2 hdg hlocks)
theorem zk_rq {cc : ByteArray} {r0 : (Nat → Nat → Nat) → Option Nat} {w1 : (Nat → Nat → Nat) → va_W} {v : Value} {ty : FieldType} (hx : p.tables.exec = Jvm.exec) (hb : c.code = cc) (hr : meth.sig.returnType = some ty) (hty : (∃ n, ty = .object n) ∨ ∃ t, ty = .array t) (hlocks : meth.locks = false) (hP : va_P D vwCl ws H) (hD : va_D A ws) (hS : va_S A s.heap H locs) (u : Nat → Nat → Nat) (hv : v = va_rf (r0 u)) (is : List Nat) (hs : is.map (fun i => ws[i]?) = (w1 u).map some) (hn : va_nd is = true) (h1 : cells ≤ mc) (h2 : slots ≤ ms) (hdg : decode cc pc = .ok (.areturn, 1)) :
    W p l e R s m args below meth c H locs cells slots (MQ below (va_Qq (fun r u => r = r0 u) (WD D A w1) A) args s mc ms A) (F0 m pc ls [v]) :=
  W.widen h1 h2 (W.aret hx hb hr hty (by rw [hv]; cases r0 u with | none => exact Or.inl rfl | some z => exact Or.inr ⟨z, rfl⟩) (fun t ht hW => ⟨⟨r0 u, u, by rw [hv], rfl, by rw [ht]; exact zk_sub hP is hs, hD.sub is hn hs⟩, hS.F ht⟩) hS.2.2 hdg hlocks)
theorem zk_rv {cc : ByteArray} {w1 : (Nat → Nat → Nat) → va_W} (hx : p.tables.exec = Jvm.exec) (hb : c.code = cc) (hr : meth.sig.returnType = none) (hlocks : meth.locks = false) (hP : va_P D vwCl ws H) (hD : va_D A ws) (hS : va_S A s.heap H locs) (u : Nat → Nat → Nat) (is : List Nat) (hs : is.map (fun i => ws[i]?) = (w1 u).map some) (hn : va_nd is = true) (h1 : cells ≤ mc) (h2 : slots ≤ ms) (hdg : decode cc pc = .ok (.return_, 1)) :
    W p l e R s m args below meth c H locs cells slots (MQ below (va_Qv (fun _ => True) (WD D A w1) A) args s mc ms A) (F0 m pc ls []) :=
  W.widen h1 h2 (W.vret hx hb hr (fun t ht hW => ⟨⟨u, rfl, trivial, by rw [ht]; exact zk_sub hP is hs, hD.sub is hn hs⟩, hS.F ht⟩) hS.2.2 hdg hlocks)
end ZKC
/-- a contract from the walk of its body -/
theorem zk_M {l : Launch} {y : MethodName} {cc : ByteArray} {maxL : Nat} {ret : Option FieldType} {rm : Room} {D : va_G} {yc : Nat → ClassId} {e0 sz : Nat} {w : va_W} {av : List Value} {Qc : (Nat → Prop) → Array Value → State → Outcome → State → Prop} {mc ms : Nat} (hy : plainName y.cls = true) (hav : (lg_sl av).length ≤ maxL)
    (body : ∀ (p : Program) (e : Env) (s : State) (m : MethodId) (args : Array Value) (below : List Frame) (meth : Method) (c : Code) (A : Nat → Prop) (ls : Array Slot), p.tables.exec = Jvm.exec → c.code = cc → c.maxLocals = maxL → meth.sig.returnType = ret → meth.locks = false → s.vm.findClass y.cls = some m.cls → meth.name = y.name → (∀ w ∈ lw_all, w.before args s = true) → va_P D vwCl w s.heap → va_D A w → va_S A s.heap s.heap [] → (∀ q, s.heap.size ≤ q → A q) → CX D yc e0 A s → lv_has ls maxL (lv_args 0 av) →
      W p l e rm s m args below meth c s.heap [] 0 0 (MQ below (Qc A) args s mc ms A) (F0 m 0 ls [])) :
    Met l y (ws_ y cc maxL ret) rm (PR D yc e0 w sz av) (Qc (va_A w sz)) mc ms (va_A w sz) := by
  refine Met.ofW (cc := cc) (maxL := maxL) (ret := ret) hy rfl ?_
  intro p e s m args below meth c s₁ B hml hv
  obtain ⟨rfl, hsz, hP, hD0, hC⟩ := hv
  subst hsz
  have hts := atoms_spec (ws := ws_ y cc maxL ret) B.pre
  rw [lg_entry_eq]
  exact body p e s m _ below meth c _ _ B.exec B.bytes hml B.returns B.notSynchronized (findClass_of_methodNamed B.named) (name_of_methodNamed B.named B.method).1 (fun w h => hts w (List.mem_cons_of_mem _ h)) hP (hD0.self) va_S.rf (fun q h => Or.inr h) hC (lv_entry av hav)
end
section
/-! ===== how many slots a heap has; what a walk knows of its heap ===== -/
def zh (H : Heap) : Nat := (H.toList.map (fun c => c.slots.size)).sum
theorem zh_split {B C : Heap} (hz : B.size ≤ C.size) (h : ∀ (a : Nat) (c : Cell), B[a]? = some c → ∃ c' : Cell, C[a]? = some c' ∧ c'.slots.size = c.slots.size) : zh C = zh B + ((C.toList.drop B.size).map (fun c => c.slots.size)).sum := by
  have e : (C.toList.take B.size).map (fun c => c.slots.size) = B.toList.map (fun c => c.slots.size) := by
    apply List.ext_getElem?
    intro i
    rw [List.getElem?_map, List.getElem?_map, List.getElem?_take]
    by_cases hi : i < B.size
    · rw [if_pos hi]
      have h1 : B[i]? = some B[i] := Array.getElem?_eq_getElem hi
      obtain ⟨c', h2, h3⟩ := h i _ h1
      rw [Array.getElem?_toList, Array.getElem?_toList, h1, h2]
      simp [h3]
    · rw [if_neg hi, Array.getElem?_toList, Array.getElem?_eq_none (by omega)]
  unfold zh
  rw [← e, ← List.sum_append, ← List.map_append, List.take_append_drop]
theorem zh_same {B C : Heap} (hz : C.size = B.size) (h : ∀ (a : Nat) (c : Cell), B[a]? = some c → ∃ c' : Cell, C[a]? = some c' ∧ c'.slots.size = c.slots.size) : zh C = zh B := by
  rw [zh_split (B := B) (C := C) (by omega) h]
  have : C.toList.drop B.size = [] := List.drop_eq_nil_of_le (by rw [Array.length_toList]; omega)
  rw [this]
  rfl
theorem zh_set {B C : Heap} {a i : Nat} {v : Value} {cell : Cell} (h0 : B[a]? = some cell) (e1 : C[a]? = some (cell.setSlot i v)) (hz : C.size = B.size) (e3 : ∀ q : Nat, q ≠ a → C[q]? = B[q]?) : zh C = zh B := by
  refine zh_same hz (fun b c hb => ?_)
  by_cases h : b = a
  · subst h
    have : c = cell := Option.some.inj (hb.symm.trans h0)
    subst this
    exact ⟨_, e1, by simp [Cell.setSlot]⟩
  · exact ⟨c, by rw [e3 b h]; exact hb, rfl⟩
section ZW
variable {p : Program} {l : Launch} {e : Env} {R : Room} {s : State} {m : MethodId} {args : Array Value} {below : List Frame} {meth : Method} {c : Code} {H : Heap} {locs : List Loc} {cells slots : Nat} {Q : State → Prop}
theorem zw_sum {T : State} (X : Stand p l e R s m args below meth c T locs cells slots) : zh T.heap = zh s.heap + ((T.heap.toList.drop s.heap.size).map (fun c => c.slots.size)).sum :=
  zh_split (B := s.heap) (C := T.heap) X.same.2.1 (fun a c h => by obtain ⟨c', h1, h2, h3, h4⟩ := X.same.2.2.2.2.2 a c h; exact ⟨c', h1, h3⟩)
theorem W.know {g : JFrame} (k : H.size ≤ s.heap.size + cells → s.heap.size ≤ H.size → zh H ≤ zh s.heap + slots → zh s.heap ≤ zh H → W p l e R s m args below meth c H locs cells slots Q g) : W p l e R s m args below meth c H locs cells slots Q g := by
  intro T hT X
  have h1 : T.heap.size ≤ s.heap.size + cells := X.same.2.2.1
  have h2 : s.heap.size ≤ T.heap.size := X.same.2.1
  have h3 := zw_sum X
  have h4 : ((T.heap.toList.drop s.heap.size).map (fun c => c.slots.size)).sum ≤ slots := X.same.2.2.2.2.1
  rw [hT] at h1 h2 h3 h4
  exact k h1 h2 (by omega) (by omega) T hT X
theorem W.tight {g : JFrame} {c1 n1 : Nat} (h1 : H.size ≤ s.heap.size + c1) (h2 : zh H ≤ zh s.heap + n1) (k : W p l e R s m args below meth c H locs c1 n1 Q g) : W p l e R s m args below meth c H locs cells slots Q g := by
  intro T hT X
  have h3 := zw_sum X
  rw [hT] at h3
  refine k T hT { X with same := ⟨X.same.1, X.same.2.1, ?_, X.same.2.2.2.1, ?_, X.same.2.2.2.2.2⟩ }
  · show T.heap.size ≤ s.heap.size + c1
    rw [hT]; exact h1
  · show ((T.heap.toList.drop s.heap.size).map (fun c => c.slots.size)).sum ≤ n1
    rw [hT]; omega
end ZW
/-- a contract from others, chosen by the state -/
theorem Met.conv {l : Launch} {y : MethodName} {ws : List Cond} {rm : Room} {Pc' : Array Value → State → Prop} {Qc' : Array Value → State → Outcome → State → Prop} {mc ms : Nat} {free' : Addr → Prop}
    (h : ∀ args s, Pc' args s → ∃ (Pc : Array Value → State → Prop) (Qc : Array Value → State → Outcome → State → Prop) (free : Addr → Prop), Met l y ws rm Pc Qc mc ms free ∧ Pc args s ∧ (∀ q, free q → free' q) ∧ ∀ o t, Qc args s o t → t.heap.size ≤ s.heap.size + mc → zh t.heap ≤ zh s.heap + ms → (∀ q : Nat, q < s.heap.size → ¬ free q → t.heap[q]? = s.heap[q]?) → Qc' args s o t) : Met l y ws rm Pc' Qc' mc ms free' := by
  intro p e ha hc hk s m args below hf happ hP hK
  obtain ⟨Pc, Qc, free, hM, hp, hfr, hq⟩ := h args s hP
  obtain ⟨n, o, h1, h2, h3, h4, L, h5, h6⟩ := hM p e ha hc hk s m args below hf happ hp hK
  have hs := h5.2.2
  have e0 := zh_split (B := s.heap) (C := (stepsAlone p.tables e n s).heap) hs.2.1 (fun a c h => by obtain ⟨c', g1, g2, g3, g4⟩ := hs.2.2.2.2.2 a c h; exact ⟨c', g1, g3⟩)
  have e1 : (((stepsAlone p.tables e n s).heap.toList.drop s.heap.size).map (fun c => c.slots.size)).sum ≤ ms := hs.2.2.2.2.1
  refine ⟨n, o, h1, h2, h3, hq o _ h4 hs.2.2.1 (by omega) ?_, L, h5, fun q hq => hfr _ (h6 q hq)⟩
  intro q hq1 hq2
  have h9 : s.heap[q]? = some s.heap[q] := Array.getElem?_eq_getElem hq1
  obtain ⟨c', g1, g2, g3, g4⟩ := hs.2.2.2.2.2 q _ h9
  have g1' : (stepsAlone p.tables e n s).heap[q]? = some c' := g1
  rw [g1', h9, g2]
  have : c'.slots = s.heap[q].slots := by
    apply Array.ext_getElem?
    intro i
    exact g4 i (fun hm => hq2 (h6 _ hm))
  rw [this]
/-! ===== methods that write nothing ===== -/
def zQ (v : Option Value) : Array Value → State → Outcome → State → Prop := fun _ st oc t => oc = .returned v ∧ t.heap = st.heap
abbrev zno : Addr → Prop := fun _ => False
section ZR
variable {p : Program} {l : Launch} {e : Env} {R : Room} {s : State} {m : MethodId} {args : Array Value} {below : List Frame} {meth : Method} {c : Code} {H : Heap} {locs : List Loc} {cells slots : Nat} {Q : State → Prop}
variable {pc : Nat} {ls : Array Slot} {rest st0 : List Value} {a : Array Value} {cc : ByteArray}
theorem zr_c {v : Option Value} (hr : va_Run p l e R s m args below meth c H locs cells slots 0 0 (F0 m pc ls st0) rest (zQ v a) zno) (kk : W p l e R s m args below meth c H locs cells slots Q (F0 m (pc + 3) ls (v.toList ++ rest))) : W p l e R s m args below meth c H locs cells slots Q (F0 m pc ls st0) := by
  intro T hT X
  obtain ⟨v', st₀, t, T', L, h0, X', hL, e1, e2, ⟨hv, hh⟩, st⟩ := hr T hT X
  have hv' : v' = v := Outcome.returned.inj hv
  subst hv'
  have hL0 : L = [] := by
    cases L with
    | nil => rfl
    | cons q L => exact (hL q List.mem_cons_self).elim
  subst hL0
  have hX : Stand p l e R s m args below meth c T' locs cells slots := by
    have h := X'
    rw [List.append_nil, Nat.add_zero, Nat.add_zero] at h
    exact h
  obtain ⟨t2, a1, b1⟩ := kk T' (by rw [e1, hh, h0]) hX
  exact ⟨t2, st t2 a1, b1⟩
theorem zr_i {v : Int32} (hr : va_Run p l e R s m args below meth c H locs cells slots 0 0 (F0 m pc ls st0) rest (zQ (some (.int v)) a) zno) (kk : W p l e R s m args below meth c H locs cells slots Q (F0 m (pc + 3) ls (.int v :: rest))) : W p l e R s m args below meth c H locs cells slots Q (F0 m pc ls st0) := zr_c hr kk
theorem zr_l {v : Int64} (hr : va_Run p l e R s m args below meth c H locs cells slots 0 0 (F0 m pc ls st0) rest (zQ (some (.long v)) a) zno) (kk : W p l e R s m args below meth c H locs cells slots Q (F0 m (pc + 3) ls (.long v :: rest))) : W p l e R s m args below meth c H locs cells slots Q (F0 m pc ls st0) := zr_c hr kk
theorem zr_q {v : Value} (hr : va_Run p l e R s m args below meth c H locs cells slots 0 0 (F0 m pc ls st0) rest (zQ (some v) a) zno) (kk : W p l e R s m args below meth c H locs cells slots Q (F0 m (pc + 3) ls (v :: rest))) : W p l e R s m args below meth c H locs cells slots Q (F0 m pc ls st0) := zr_c hr kk
theorem zr_d {v : UInt64} (hr : va_Run p l e R s m args below meth c H locs cells slots 0 0 (F0 m pc ls st0) rest (zQ (some (.double v)) a) zno) (kk : W p l e R s m args below meth c H locs cells slots Q (F0 m (pc + 3) ls (.double v :: rest))) : W p l e R s m args below meth c H locs cells slots Q (F0 m pc ls st0) := zr_c hr kk
theorem zr_v (hr : va_Run p l e R s m args below meth c H locs cells slots 0 0 (F0 m pc ls st0) rest (zQ none a) zno) (kk : W p l e R s m args below meth c H locs cells slots Q (F0 m (pc + 3) ls rest)) : W p l e R s m args below meth c H locs cells slots Q (F0 m pc ls st0) := zr_c hr kk
-- ends of such methods
theorem ze_i {v r : Int32} {ty : FieldType} (hx : p.tables.exec = Jvm.exec) (hb : c.code = cc) (hr : meth.sig.returnType = some ty) (hlk : meth.locks = false) (hn : narrow ty (.int v) = .int v) (hv : v = r) (hdg : decode cc pc = .ok (.ireturn, 1)) : W p l e R s m args below meth c s.heap [] 0 0 (MQ below (zQ (some (.int r))) args s 0 0 zno) (F0 m pc ls [.int v]) := by
  subst hv
  exact W.zret hx hb hr hn (fun t ht _ => ⟨rfl, ht⟩) (fun q h => by cases h) hdg hlk
theorem ze_l {v r : Int64} (hx : p.tables.exec = Jvm.exec) (hb : c.code = cc) (hr : meth.sig.returnType = some .long) (hlk : meth.locks = false) (hv : v = r) (hdg : decode cc pc = .ok (.lreturn, 1)) : W p l e R s m args below meth c s.heap [] 0 0 (MQ below (zQ (some (.long r))) args s 0 0 zno) (F0 m pc ls [.long v]) := by
  subst hv
  exact W.lret hx hb hr (fun t ht _ => ⟨rfl, ht⟩) (fun q h => by cases h) hdg hlk
theorem ze_d {v r : UInt64} (hx : p.tables.exec = Jvm.exec) (hb : c.code = cc) (hr : meth.sig.returnType = some .double) (hlk : meth.locks = false) (hv : v = r) (hdg : decode cc pc = .ok (.dreturn, 1)) : W p l e R s m args below meth c s.heap [] 0 0 (MQ below (zQ (some (.double r))) args s 0 0 zno) (F0 m pc ls [.double v]) := by
  subst hv
  exact W.dret hx hb hr (fun t ht _ => ⟨rfl, ht⟩) (fun q h => by cases h) hdg hlk
theorem ze_q {v r : Value} {ty : FieldType} (hx : p.tables.exec = Jvm.exec) (hb : c.code = cc) (hr : meth.sig.returnType = some ty) (hty : (∃ n, ty = .object n) ∨ ∃ t, ty = .array t) (hlk : meth.locks = false) (hvr : v = .null ∨ ∃ a, v = .ref a) (hv : v = r) (hdg : decode cc pc = .ok (.areturn, 1)) : W p l e R s m args below meth c s.heap [] 0 0 (MQ below (zQ (some r)) args s 0 0 zno) (F0 m pc ls [v]) := by
  subst hv
  exact W.aret hx hb hr hty hvr (fun t ht _ => ⟨rfl, ht⟩) (fun q h => by cases h) hdg hlk
theorem ze_v (hx : p.tables.exec = Jvm.exec) (hb : c.code = cc) (hr : meth.sig.returnType = none) (hlk : meth.locks = false) (hdg : decode cc pc = .ok (.return_, 1)) : W p l e R s m args below meth c s.heap [] 0 0 (MQ below (zQ none) args s 0 0 zno) (F0 m pc ls []) :=
  W.vret hx hb hr (fun t ht _ => ⟨rfl, ht⟩) (fun q h => by cases h) hdg hlk
end ZR
/-! ===== the world of the run: objects by kind, flow and number; rows of longs; lists ===== -/
-- kinds: 0 State (3k+w), 1 Spans (3k+w), 2 Stage, 3 Outlet, 4 Channel of the first input, 5 of the second, 6 Flow, 7 WeirStream, 8 Plan
abbrev TF : Type := Nat → Nat → Nat → Nat → Int32
abbrev TG : Type := Nat → Nat → Nat × Nat
abbrev TQ : Type := Nat → Nat × List Int64
/-- the shape: where objects, rows and lists stand; how many stages; whose input is whose -/
abbrev TS : Type := (Nat → Nat → Nat → Nat) × (Nat → Nat) × (Nat → Nat → Nat → Nat) × Nat × (Nat → Nat → Option Nat)
abbrev zg (S : TS) : Nat → Nat → Nat → Nat := S.1
abbrev zr (S : TS) : Nat → Nat := S.2.1
abbrev zl (S : TS) : Nat → Nat → Nat → Nat := S.2.2.1
abbrev zn (S : TS) : Nat := S.2.2.2.1
abbrev zp (S : TS) : Nat → Nat → Option Nat := S.2.2.2.2
-- the rows' numbers
def rs (x fl k : Nat) : Nat := x + 4 * fl + 8 * k
def ri (fl k : Nat) : Nat := 288 + fl + 2 * k
def ro (fl k : Nat) : Nat := 312 + fl + 2 * k
def rl (k : Nat) : Nat := 336 + k
def zsrc (S : TS) (x k : Nat) : Nat := ((zp S x k).getD 0)
def zch (S : TS) (x fl k : Nat) : Value := if (zp S x k).isSome then .ref (zg S (4 + x) fl k) else .null
def cel (S : TS) (G : TG) (kd fl k : Nat) (f : Nat → Int32) : va_E := match kd with
  | 0 => .inr (8, [.int (f 0), .int (f 1), .int (f 2), .int (f 3), .int (f 4), .int (f 5), .int (f 6), .int (f 7), .ref (zg S 1 fl k), .ref (zr S (rs 2 fl k)), .ref (zr S (rs 3 fl k))])
  | 1 => .inr (6, [.ref (zr S (rs 0 fl k)), .ref (zr S (rs 1 fl k))])
  | 2 => .inr (7, [.ref (zg S 8 0 k), .ref (zr S (rl k)), zch S 0 fl k, zch S 1 fl k, .int (nI fl), .ref (zg S 3 fl k), .ref (zr S (ro fl k)), .ref (zg S 0 fl (3 * k)), .ref (zg S 0 fl (3 * k + (G fl k).1)), .ref (zg S 0 fl (3 * k + (G fl k).2)), .int (f 10), .int (f 11)])
  | 3 => .inr (3, [.ref (zr S (ri fl k)), .ref (zl S 1 fl k)])
  | 4 => .inr (1, [.ref (zr S (ri fl (zsrc S 0 k))), .int (f 1), .int (f 2)])
  | 5 => .inr (1, [.ref (zr S (ri fl (zsrc S 1 k))), .int (f 1), .int (f 2)])
  | 6 => .inr (2, [.int (nI fl), .ref (zl S 0 fl 0), .int (f 2), .int (f 3), .int (f 4), .int (f 5), .int (f 6), .int (f 7)])
  | 7 => .inr (9, [.ref (zg S 6 0 0), .ref (zg S 6 1 0), .int (f 2), .int (f 3), .int (f 4)])
  | _ => .inr (4, [.int (f 0), .int (f 1), .int (f 2), .int (f 3), .int (f 4), .int (f 5), .int (f 6), .int (f 7), .int (f 8), .int (f 9), .int (f 10), .int (f 11), .int (f 12), .int (f 13), .int (f 14)])
/-- which objects are there -/
def dm (S : TS) (kd fl k : Nat) : Prop := match kd with
  | 0 => fl < 2 ∧ k < 3 * zn S
  | 1 => fl < 2 ∧ k < 3 * zn S
  | 2 => fl < 2 ∧ k < zn S
  | 3 => fl < 2 ∧ k < zn S
  | 4 => fl < 2 ∧ k < zn S ∧ (zp S 0 k).isSome = true
  | 5 => fl < 2 ∧ k < zn S ∧ (zp S 1 k).isSome = true
  | 6 => fl < 2 ∧ k = 0
  | 7 => fl = 0 ∧ k = 0
  | 8 => fl = 0 ∧ k < zn S
  | _ => False
def dr (S : TS) (i : Nat) : Prop := (i < 288 ∧ i / 8 < 3 * zn S) ∨ (288 ≤ i ∧ i < 312 ∧ (i - 288) / 2 < zn S) ∨ (312 ≤ i ∧ i < 336 ∧ (i - 312) / 2 < zn S) ∨ (336 ≤ i ∧ i < 348 ∧ i - 336 < zn S)
def dl (S : TS) (b fl k : Nat) : Prop := (b = 0 ∧ fl < 2 ∧ k = 0) ∨ (b = 1 ∧ fl < 2 ∧ k < zn S)
/-- the channels that lead from a stage: kind and consumer -/
def och (S : TS) (k : Nat) : List (Nat × Nat) := (List.range (zn S)).flatMap (fun c => (if zp S 0 c = some k then [(4, c)] else []) ++ (if zp S 1 c = some k then [(5, c)] else []))
def lic (S : TS) (b fl k : Nat) : List Nat := if b = 0 then (List.range (zn S)).map (zg S 2 fl) else (och S k).map (fun q => zg S q.1 fl q.2)
/-- fields that are truth values -/
def zib (kd j : Nat) : Bool := (kd == 0 && j == 3) || (kd == 2 && (j == 10 || j == 11)) || ((kd == 4 || kd == 5) && j == 2) || (kd == 7 && j == 2)
def zsm (f : Nat → Nat) : Nat → Nat | 0 => 0 | n + 1 => zsm f n + f n
def Psi (q : TQ) : Nat := zsm (fun i => (q i).1 / 8) 348
def Phi (q : TQ) : Nat := zsm (fun i => 2 * (q i).1) 348
abbrev TO : Type := Nat → Nat × Nat × Nat × Nat
def WRow (D : va_G) (yc : Nat → ClassId) (A : Nat → Prop) (own : TO) (r x i : Nat) (f : Nat → Int64) (q : Nat × List Int64) (H : Heap) : Prop :=
  (va_at D vwCl (r, .inr (5, [.ref x, .int (nI q.2.length)])) H ∧ A r ∧ own r = (1, i, 0, 0)) ∧ (va_at D vwCl (x, .inl (yc 1, q.1, .inr (.inl f))) H ∧ A x ∧ own x = (2, i, 0, 0)) ∧ q.2.length ≤ q.1 ∧ (∀ (j : Nat) (h : j < q.2.length), f j = q.2[j]) ∧ ∃ z : Nat, z ≤ 20 ∧ q.1 = 8 * 2 ^ z
def WList (D : va_G) (yc : Nat → ClassId) (e0 : Nat) (A : Nat → Prop) (own : TO) (a b fl k : Nat) (L : List Nat) (H : Heap) : Prop :=
  (A a ∧ own a = (3, b, fl, k)) ∧ ((L = [] ∧ ∃ mc : Int32, va_at D vwCl (a, .inr (0, [.int mc, .ref e0, .int 0])) H) ∨
    ∃ (mc : Int32) (x cap : Nat) (f : Nat → Option Nat), va_at D vwCl (a, .inr (0, [.int mc, .ref x, .int (nI L.length)])) H ∧ (va_at D vwCl (x, .inl (yc 2, cap, .inr (.inr (.inr (.inr f))))) H ∧ A x ∧ own x = (4, b, fl, k)) ∧ L.length ≤ cap ∧ cap < 1024 ∧ ∀ (j : Nat) (h : j < L.length), f j = some L[j])
def zok (S : TS) : Prop := ∀ x k p, k < zn S → zp S x k = some p → p < k
def WT (D : va_G) (yc : Nat → ClassId) (e0 : Nat) (A : Nat → Prop) (S : TS) (Z : Nat × Nat) (F : TF) (G : TG) (q : TQ) (H : Heap) : Prop :=
  ∃ own : TO, (∀ kd fl k, dm S kd fl k → va_at D vwCl (zg S kd fl k, cel S G kd fl k (F kd fl k)) H ∧ A (zg S kd fl k) ∧ own (zg S kd fl k) = (0, kd, fl, k)) ∧
    (∀ i, dr S i → ∃ (x : Nat) (f : Nat → Int64), WRow D yc A own (zr S i) x i f (q i) H) ∧ (∀ b fl k, dl S b fl k → WList D yc e0 A own (zl S b fl k) b fl k (lic S b fl k) H) ∧
    (∀ kd fl k j, zib kd j = true → F kd fl k j = 0 ∨ F kd fl k j = 1) ∧ H.size ≤ Z.1 + Psi q ∧ zh H ≤ Z.2 + Phi q ∧ zn S ≤ 12 ∧ zok S
def zF (F : TF) (kd fl k : Nat) (f : Nat → Int32) : TF := fun kd' fl' k' => if kd' = kd ∧ fl' = fl ∧ k' = k then f else F kd' fl' k'
theorem zF_s {F : TF} {kd fl k : Nat} {f : Nat → Int32} : zF F kd fl k f kd fl k = f := by unfold zF; rw [if_pos ⟨rfl, rfl, rfl⟩]
theorem zF_n {F : TF} {kd fl k kd' fl' k' : Nat} {f : Nat → Int32} (h : ¬ (kd' = kd ∧ fl' = fl ∧ k' = k)) : zF F kd fl k f kd' fl' k' = F kd' fl' k' := by unfold zF; rw [if_neg h]
section ZT
variable {D : va_G} {yc : Nat → ClassId} {e0 : Nat} {A : Nat → Prop} {S : TS} {Z : Nat × Nat} {F : TF} {G : TG} {q : TQ} {H H1 : Heap}
theorem WT.obj (h : WT D yc e0 A S Z F G q H) {kd fl k : Nat} (hd : dm S kd fl k) : va_at D vwCl (zg S kd fl k, cel S G kd fl k (F kd fl k)) H ∧ A (zg S kd fl k) := by
  obtain ⟨own, h1, -⟩ := h
  exact ⟨(h1 kd fl k hd).1, (h1 kd fl k hd).2.1⟩
theorem WT.row (h : WT D yc e0 A S Z F G q H) {i : Nat} (hd : dr S i) : ∃ (x : Nat) (f : Nat → Int64), va_at D vwCl (zr S i, .inr (5, [.ref x, .int (nI (q i).2.length)])) H ∧ va_at D vwCl (x, .inl (yc 1, (q i).1, .inr (.inl f))) H ∧ (q i).2.length ≤ (q i).1 ∧ (∀ (j : Nat) (h : j < (q i).2.length), f j = (q i).2[j]) ∧ ∃ z : Nat, z ≤ 20 ∧ (q i).1 = 8 * 2 ^ z := by
  obtain ⟨own, h1, h2, -⟩ := h
  obtain ⟨x, f, h3, h4, h5⟩ := h2 i hd
  exact ⟨x, f, h3.1, h4.1, h5⟩
theorem WT.n12 (h : WT D yc e0 A S Z F G q H) : zn S ≤ 12 := by
  obtain ⟨own, h1, h2, h3, h4, h5, h6, h7, h8⟩ := h
  exact h7
theorem WT.src (h : WT D yc e0 A S Z F G q H) {x k : Nat} (hk : k < zn S) (hp : (zp S x k).isSome = true) : zsrc S x k < zn S := by
  obtain ⟨own, h1, h2, h3, h4, h5, h6, h7, h8⟩ := h
  obtain ⟨p, hp⟩ := Option.isSome_iff_exists.mp hp
  have h9 := h8 x k p hk hp
  unfold zsrc
  rw [hp]
  show p < _
  omega
theorem WT.bit (h : WT D yc e0 A S Z F G q H) (kd fl k j : Nat) (hj : zib kd j = true) : F kd fl k j = 0 ∨ F kd fl k j = 1 := by
  obtain ⟨own, h1, h2, h3, h4, h5⟩ := h
  exact h4 kd fl k j hj
theorem WRow.kept {own : TO} {r x i : Nat} {f : Nat → Int64} {qq : Nat × List Int64} (h : WRow D yc A own r x i f qq H) (h1 : H1[r]? = H[r]?) (h2 : H1[x]? = H[x]?) : WRow D yc A own r x i f qq H1 :=
  ⟨⟨h.1.1.kept h1, h.1.2⟩, ⟨h.2.1.1.kept h2, h.2.1.2⟩, h.2.2⟩
theorem WList.kept {own : TO} {a b fl k : Nat} {L : List Nat} (h : WList D yc e0 A own a b fl k L H) (hk : ∀ x, own x = (3, b, fl, k) ∨ own x = (4, b, fl, k) → H1[x]? = H[x]?) : WList D yc e0 A own a b fl k L H1 := by
  obtain ⟨ha, h | ⟨mc, x, cap, f, h1, h2, h3⟩⟩ := h
  · exact ⟨ha, Or.inl ⟨h.1, h.2.elim fun mc h => ⟨mc, h.kept (hk a (Or.inl ha.2))⟩⟩⟩
  · exact ⟨ha, Or.inr ⟨mc, x, cap, f, h1.kept (hk a (Or.inl ha.2)), ⟨h2.1.kept (hk x (Or.inr h2.2.2)), h2.2⟩, h3⟩⟩
theorem WT.put (h : WT D yc e0 A S Z F G q H) {kd fl k : Nat} (hd : dm S kd fl k) {f : Nat → Int32} {G' : TG} (h1 : va_at D vwCl (zg S kd fl k, cel S G' kd fl k f) H1) (h3 : ∀ x : Nat, x ≠ zg S kd fl k → H1[x]? = H[x]?) (hz : H1.size = H.size) (hh : zh H1 = zh H)
    (hG : ∀ fl' k', ¬ (kd = 2 ∧ fl' = fl ∧ k' = k) → G' fl' k' = G fl' k') (hf : ∀ j, zib kd j = true → f j = 0 ∨ f j = 1) : WT D yc e0 A S Z (zF F kd fl k f) G' q H1 := by
  obtain ⟨own, g1, g2, g3, g4, g5, g6, g7⟩ := h
  have hO := (g1 kd fl k hd).2.2
  refine ⟨own, fun kd' fl' k' hd' => ?_, fun i hi => ?_, fun b fl' k' hl => ?_, fun kd' fl' k' j hj => ?_, by rw [hz]; exact g5, by rw [hh]; exact g6, g7⟩
  · by_cases hc : kd' = kd ∧ fl' = fl ∧ k' = k
    · obtain ⟨rfl, rfl, rfl⟩ := hc
      rw [zF_s]
      exact ⟨h1, (g1 kd' fl' k' hd').2⟩
    · rw [zF_n hc]
      have ho := (g1 kd' fl' k' hd').2.2
      have hne : zg S kd' fl' k' ≠ zg S kd fl k := fun e => by
        rw [e, hO] at ho
        simp only [Prod.mk.injEq, true_and] at ho
        exact hc ⟨ho.1.symm, ho.2.1.symm, ho.2.2.symm⟩
      refine ⟨?_, (g1 kd' fl' k' hd').2⟩
      have h9 := (g1 kd' fl' k' hd').1.kept (H1 := H1) (h3 _ hne)
      have e9 : cel S G' kd' fl' k' (F kd' fl' k') = cel S G kd' fl' k' (F kd' fl' k') := by
        by_cases h2 : kd' = 2
        · subst h2
          unfold cel
          rw [hG fl' k' (fun ⟨a, b, c⟩ => hc ⟨a.symm, b, c⟩)]
        · unfold cel
          split <;> first | rfl | exact absurd rfl h2
      rw [e9]
      exact h9
  · obtain ⟨x, f', k1, k2, k3⟩ := g2 i hi
    refine ⟨x, f', WRow.kept ⟨k1, k2, k3⟩ (h3 _ fun e => ?_) (h3 _ fun e => ?_)⟩
    · have := k1.2.2
      rw [e, hO] at this
      simp at this
    · have := k2.2.2
      rw [e, hO] at this
      simp at this
  · refine (g3 b fl' k' hl).kept fun x hx => h3 x fun e => ?_
    rw [e, hO] at hx
    simp at hx
  · by_cases hc : kd' = kd ∧ fl' = fl ∧ k' = k
    · obtain ⟨rfl, rfl, rfl⟩ := hc
      rw [zF_s]
      exact hf j hj
    · rw [zF_n hc]
      exact g4 kd' fl' k' j hj
end ZT
def zmax (x y : Int32) : Int32 := if x < y then y else x
def zmin (x y : Int32) : Int32 := if y < x then y else x
theorem dm0 {S : TS} {fl k : Nat} (h : fl < 2) (h2 : k < 3 * zn S) : dm S 0 fl k := ⟨h, h2⟩
theorem dm1 {S : TS} {fl k : Nat} (h : fl < 2) (h2 : k < 3 * zn S) : dm S 1 fl k := ⟨h, h2⟩
theorem dm2 {S : TS} {fl k : Nat} (h : fl < 2) (h2 : k < zn S) : dm S 2 fl k := ⟨h, h2⟩
theorem dm3 {S : TS} {fl k : Nat} (h : fl < 2) (h2 : k < zn S) : dm S 3 fl k := ⟨h, h2⟩
theorem dm4 {S : TS} {fl k : Nat} (h : fl < 2) (h2 : k < zn S) (h3 : (zp S 0 k).isSome = true) : dm S 4 fl k := ⟨h, h2, h3⟩
theorem dm5 {S : TS} {fl k : Nat} (h : fl < 2) (h2 : k < zn S) (h3 : (zp S 1 k).isSome = true) : dm S 5 fl k := ⟨h, h2, h3⟩
theorem dm6 {S : TS} {fl : Nat} (h : fl < 2) : dm S 6 fl 0 := ⟨h, rfl⟩
theorem dm7 {S : TS} : dm S 7 0 0 := ⟨rfl, rfl⟩
theorem dm8 {S : TS} {k : Nat} (h2 : k < zn S) : dm S 8 0 k := ⟨rfl, h2⟩
theorem dr_s {S : TS} {x fl k : Nat} (hn : zn S ≤ 12) (hx : x < 4) (h : fl < 2) (h2 : k < 3 * zn S) : dr S (rs x fl k) := by unfold dr rs; left; omega
theorem dr_i {S : TS} {fl k : Nat} (hn : zn S ≤ 12) (h : fl < 2) (h2 : k < zn S) : dr S (ri fl k) := by unfold dr ri; right; left; omega
theorem dr_o {S : TS} {fl k : Nat} (hn : zn S ≤ 12) (h : fl < 2) (h2 : k < zn S) : dr S (ro fl k) := by unfold dr ro; right; right; left; omega
theorem dr_l {S : TS} {k : Nat} (hn : zn S ≤ 12) (h2 : k < zn S) : dr S (rl k) := by unfold dr rl; right; right; right; omega
theorem zk_nt {x v : Int32} (h : ¬ x = v) : x.toInt ≠ v.toInt := fun e => h (Int32.toInt_inj.mp e)
theorem zk_nb {v : Int32} (h : v = 0 ∨ v = 1) : narrow .boolean (.int v) = .int v := by rcases h with rfl | rfl <;> rfl
theorem va_P_one {D : va_G} {cl : List vw_C} {q : Nat × va_E} {H : Heap} (h : va_at D cl q H) : va_P D cl [q] H := by
  intro k q' hk
  match k, hk with
  | 0, hk => cases hk; exact h
  | k + 1, hk => simp at hk
/-- a contract's start over the world: the arguments, the world, the context -/
def PT (D : va_G) (yc : Nat → ClassId) (e0 : Nat) (A : Nat → Prop) (S : TS) (Z : Nat × Nat) (F : TF) (G : TG) (q : TQ) (av : List Value) : Array Value → State → Prop := va_Pc av (fun U => WT D yc e0 A S Z F G q U.heap ∧ (∀ a, U.heap.size ≤ a → A a) ∧ CX D yc e0 A U)
theorem PT.blind {D : va_G} {yc : Nat → ClassId} {e0 : Nat} {A : Nat → Prop} {S : TS} {Z : Nat × Nat} {F : TF} {G : TG} {q : TQ} {av : List Value} : FrameBlind (PT D yc e0 A S Z F G q av) := fun a U g mk h => by
  obtain ⟨h0, h1, h2, h3⟩ := h
  exact ⟨h0, h1, h2, CX.calling g mk a h3⟩
section ZU
variable {p : Program} {l : Launch} {e : Env} {R : Room} {s : State} {m : MethodId} {args : Array Value} {below : List Frame} {meth : Method} {c : Code} {H : Heap} {locs : List Loc} {cells slots : Nat} {Q : State → Prop}
variable {D : va_G} {yc : Nat → ClassId} {e0 : Nat} {A : Nat → Prop} {S : TS} {Z : Nat × Nat} {F : TF} {G : TG} {q : TQ} {cc : ByteArray} {pc : Nat} {ls : Array Slot} {rest As st0 : List Value} {tys : List (ClassId × FieldType)} {H0 : Heap} {mc ms : Nat} {a : Array Value}
theorem t_get (hexec : p.tables.exec = Jvm.exec) (hb : c.code = cc) {own ref C : String} {T : u_T} {N ci index : Nat} {Ts : List Cond} (hts : ∀ w ∈ Ts, w.before args s = true) (hin : ∀ w ∈ u_ws C T N, w ∈ Ts) (hown : s.vm.findClass own = some m.cls) (hK : va_K D vwCl tys s) (hW : WT D yc e0 A S Z F G q H) (kd fl k : Nat) (hd : dm S kd fl k) {fs : List Value} (he : cel S G kd fl k (F kd fl k) = .inr (ci, fs)) (hc : vwCl[ci]? = some (C, T, N)) (j : Nat) (hk : j < N) (hlink : (Cond.fieldLink own index ref (T j).2.1 (T j).2.2.1).before args s = true) (hsame : ∀ x, s.fieldFound? (T j).1 (T j).2.1 (T j).2.2.1 = some x → s.fieldFound? ref (T j).2.1 (T j).2.2.1 = some x) {v : Value} (hv : fs[j]? = some v) (hdg : decode cc pc = .ok (.getfield index, 3))
    (kk : W p l e R s m args below meth c H locs cells slots Q (F0 m (pc + 3) ls (v :: rest))) : W p l e R s m args below meth c H locs cells slots Q (F0 m pc ls (.ref (zg S kd fl k) :: rest)) :=
  va_get hexec hb hts hin hown hK (va_P_one (by have h := (hW.obj hd).1; rw [he] at h; exact h)) 0 rfl hc j hk hlink hsame hv hdg kk
theorem t_getN (hexec : p.tables.exec = Jvm.exec) (hb : c.code = cc) {own ref C host : String} {T : u_T} {N ci index : Nat} {Ts : List Cond} (hts : ∀ w ∈ Ts, w.before args s = true) (hin : ∀ w ∈ u_ws C T N, w ∈ Ts) (hown : s.vm.findClass own = some m.cls) (hK : va_K D vwCl tys s) (hW : WT D yc e0 A S Z F G q H) (kd fl k : Nat) (hd : dm S kd fl k) {fs : List Value} (he : cel S G kd fl k (F kd fl k) = .inr (ci, fs)) (hc : vwCl[ci]? = some (C, T, N)) (j : Nat) (hk : j < N) (hlink : (Cond.fieldLinkNest own index ref (T j).2.1 (T j).2.2.1 host).before args s = true) (hsame : ∀ x, s.fieldFound? (T j).1 (T j).2.1 (T j).2.2.1 = some x → s.fieldFound? ref (T j).2.1 (T j).2.2.1 = some x) {v : Value} (hv : fs[j]? = some v) (hdg : decode cc pc = .ok (.getfield index, 3))
    (kk : W p l e R s m args below meth c H locs cells slots Q (F0 m (pc + 3) ls (v :: rest))) : W p l e R s m args below meth c H locs cells slots Q (F0 m pc ls (.ref (zg S kd fl k) :: rest)) :=
  va_getN hexec hb hts hin hown hK (va_P_one (by have h := (hW.obj hd).1; rw [he] at h; exact h)) 0 rfl hc j hk hlink hsame hv hdg kk
theorem t_put (hexec : p.tables.exec = Jvm.exec) (hb : c.code = cc) {own ref C : String} {T : u_T} {N ci index : Nat} {Ts : List Cond} (hts : ∀ w ∈ Ts, w.before args s = true) (hin : ∀ w ∈ u_ws C T N, w ∈ Ts) (ty0 : Nat → FieldType) (hty : ∀ k, k < N → parseFieldDescriptor (T k).2.2.1 = some (ty0 k)) (hnm : ∀ a, a < N → ∀ b, b < N → a ≠ b → (T a).2.1 ≠ (T b).2.1) (hown : s.vm.findClass own = some m.cls) (hK : va_K D vwCl tys s) (hW : WT D yc e0 A S Z F G q H) (hS0 : va_S A H0 H locs) (kd fl k : Nat) (hd : dm S kd fl k) {fs : List Value} (he : cel S G kd fl k (F kd fl k) = .inr (ci, fs)) (hc : vwCl[ci]? = some (C, T, N)) (j : Nat) (hk : j < N) (hlink : (Cond.fieldLink own index ref (T j).2.1 (T j).2.2.1).before args s = true) (hsame : ∀ x, s.fieldFound? (T j).1 (T j).2.1 (T j).2.2.1 = some x → s.fieldFound? ref (T j).2.1 (T j).2.2.1 = some x) (hfin : (T j).2.2.2 = false) {ty : FieldType} {v : Value} (hd0 : parseFieldDescriptor (T j).2.2.1 = some ty) (hn : narrow ty v = v) (hfit : fits ty v = true) (hl : j < fs.length)
    (f : Nat → Int32) (G' : TG) (he' : cel S G' kd fl k f = .inr (ci, fs.set j v)) (hG : ∀ fl' k', ¬ (kd = 2 ∧ fl' = fl ∧ k' = k) → G' fl' k' = G fl' k') (hf : ∀ j, zib kd j = true → f j = 0 ∨ f j = 1)
    (hdg : decode cc pc = .ok (.putfield index, 3)) (kk : ∀ (H1 : Heap) (locs1 : List Loc), WT D yc e0 A S Z (zF F kd fl k f) G' q H1 → va_S A H0 H1 locs1 → W p l e R s m args below meth c H1 locs1 cells slots Q (F0 m (pc + 3) ls rest)) : W p l e R s m args below meth c H locs cells slots Q (F0 m pc ls (v :: .ref (zg S kd fl k) :: rest)) := by
  have hap := va_apart (own := own) hts hin ty0 hty hnm hK hc
  have hO := hW.obj hd
  rw [he] at hO
  obtain ⟨⟨r, h1, cell, q1, q2, q3, q4⟩, hAa⟩ := hO
  have hr : r = (C, T, N) := Option.some.inj (h1.symm.trans hc)
  subst hr
  obtain ⟨hS, hfc, kC, hkC, hkind⟩ := hK.1 ci _ hc
  obtain ⟨cf, kf, fi, f0, hi, hsl⟩ := hS j hk
  have hlay := hts _ (hin _ (u_in_lay hk))
  unfold u_lay at hlay
  rw [if_neg (by rw [hfin]; decide)] at hlay
  have hst := (u_facts hfc hkC (u_lays hts hin hk) hi).1
  have h6 := u_store hfc hkC hkind hlay hi hd0 hn hfit
  refine W.putK hexec hb (f := f0) ⟨hown, hlink, ⟨_, _, _, hsame _ hi⟩, hst⟩ (by rw [q2]; exact h6) q1 q3 (by rw [hsl]; exact k2_hasslot (q4 j hk)) rfl rfl hdg fun H' e1 e2 e3 => ?_
  have hzh := zh_set q1 e1 e2 e3
  rw [hsl] at e1 ⊢
  exact kk H' _ (hW.put hd (by rw [he']; exact ⟨_, hc, t_OB.to (V := updV (vp_V fs) j v) ⟨_, e1, q2, q3, t_set q4 hap hk v⟩ (fun j _ => vp_updV_set hl v j)⟩) e3 e2 hzh hG hf) (hS0.put e2 e3 hAa)
theorem t_putN (hexec : p.tables.exec = Jvm.exec) (hb : c.code = cc) {own ref C host : String} {T : u_T} {N ci index : Nat} {Ts : List Cond} (hts : ∀ w ∈ Ts, w.before args s = true) (hin : ∀ w ∈ u_ws C T N, w ∈ Ts) (ty0 : Nat → FieldType) (hty : ∀ k, k < N → parseFieldDescriptor (T k).2.2.1 = some (ty0 k)) (hnm : ∀ a, a < N → ∀ b, b < N → a ≠ b → (T a).2.1 ≠ (T b).2.1) (hown : s.vm.findClass own = some m.cls) (hK : va_K D vwCl tys s) (hW : WT D yc e0 A S Z F G q H) (hS0 : va_S A H0 H locs) (kd fl k : Nat) (hd : dm S kd fl k) {fs : List Value} (he : cel S G kd fl k (F kd fl k) = .inr (ci, fs)) (hc : vwCl[ci]? = some (C, T, N)) (j : Nat) (hk : j < N) (hlink : (Cond.fieldLinkNest own index ref (T j).2.1 (T j).2.2.1 host).before args s = true) (hsame : ∀ x, s.fieldFound? (T j).1 (T j).2.1 (T j).2.2.1 = some x → s.fieldFound? ref (T j).2.1 (T j).2.2.1 = some x) (hfin : (T j).2.2.2 = false) {ty : FieldType} {v : Value} (hd0 : parseFieldDescriptor (T j).2.2.1 = some ty) (hn : narrow ty v = v) (hfit : fits ty v = true) (hl : j < fs.length)
    (f : Nat → Int32) (G' : TG) (he' : cel S G' kd fl k f = .inr (ci, fs.set j v)) (hG : ∀ fl' k', ¬ (kd = 2 ∧ fl' = fl ∧ k' = k) → G' fl' k' = G fl' k') (hf : ∀ j, zib kd j = true → f j = 0 ∨ f j = 1)
    (hdg : decode cc pc = .ok (.putfield index, 3)) (kk : ∀ (H1 : Heap) (locs1 : List Loc), WT D yc e0 A S Z (zF F kd fl k f) G' q H1 → va_S A H0 H1 locs1 → W p l e R s m args below meth c H1 locs1 cells slots Q (F0 m (pc + 3) ls rest)) : W p l e R s m args below meth c H locs cells slots Q (F0 m pc ls (v :: .ref (zg S kd fl k) :: rest)) := by
  have hap := va_apart (own := own) hts hin ty0 hty hnm hK hc
  have hO := hW.obj hd
  rw [he] at hO
  obtain ⟨⟨r, h1, cell, q1, q2, q3, q4⟩, hAa⟩ := hO
  have hr : r = (C, T, N) := Option.some.inj (h1.symm.trans hc)
  subst hr
  obtain ⟨hS, hfc, kC, hkC, hkind⟩ := hK.1 ci _ hc
  obtain ⟨cf, kf, fi, f0, hi, hsl⟩ := hS j hk
  have hlay := hts _ (hin _ (u_in_lay hk))
  unfold u_lay at hlay
  rw [if_neg (by rw [hfin]; decide)] at hlay
  have hst := (u_facts hfc hkC (u_lays hts hin hk) hi).1
  have h6 := u_store hfc hkC hkind hlay hi hd0 hn hfit
  refine va_WputK hexec hb (f := f0) hown hlink (hsame _ hi) hst (by rw [q2]; exact h6) q1 q3 (by rw [hsl]; exact k2_hasslot (q4 j hk)) rfl rfl hdg fun H' e1 e2 e3 => ?_
  have hzh := zh_set q1 e1 e2 e3
  rw [hsl] at e1 ⊢
  exact kk H' _ (hW.put hd (by rw [he']; exact ⟨_, hc, t_OB.to (V := updV (vp_V fs) j v) ⟨_, e1, q2, q3, t_set q4 hap hk v⟩ (fun j _ => vp_updV_set hl v j)⟩) e3 e2 hzh hG hf) (hS0.put e2 e3 hAa)
-- calls over the world
theorem tp_S (hC : CX D yc e0 A s) (hW : WT D yc e0 A S Z F G q H) (hS : va_S A s.heap H locs) (hA : ∀ a, s.heap.size ≤ a → A a) : PreS s H (PT D yc e0 A S Z F G q As) As :=
  ⟨PT.blind, fun U hU hWm => ⟨rfl, by rw [hU]; exact hW, fun a ha => hA a (Nat.le_trans hS.1 (by rw [← hU]; exact ha)), hC.go hS (fun _ h => h) hU hWm⟩⟩
theorem tp_V (hC : CX D yc e0 A s) (hW : WT D yc e0 A S Z F G q H) (hS : va_S A s.heap H locs) (hA : ∀ a, s.heap.size ≤ a → A a) (kd fl k : Nat) (hd : dm S kd fl k) {fs : List Value} {ci : Nat} (he : cel S G kd fl k (F kd fl k) = .inr (ci, fs)) {C : String} {T : u_T} {N : Nat} (hc : vwCl[ci]? = some (C, T, N)) : PreV s H C (zg S kd fl k) (PT D yc e0 A S Z F G q (.ref (zg S kd fl k) :: As)) As :=
  ⟨PT.blind, va_recv hC.1 (va_P_one (by have h := (hW.obj hd).1; rw [he] at h; exact h)) hc (q0 := 0) rfl, fun U hU hWm => ⟨rfl, by rw [hU]; exact hW, fun a ha => hA a (Nat.le_trans hS.1 (by rw [← hU]; exact ha)), hC.go hS (fun _ h => h) hU hWm⟩⟩
theorem tp_R (hC : CX D yc e0 A s) (hW : WT D yc e0 A S Z F G q H) (hS : va_S A s.heap H locs) (hA : ∀ a, s.heap.size ≤ a → A a) (i : Nat) (hd : dr S i) : PreV s H RX6 (zr S i) (PT D yc e0 A S Z F G q (.ref (zr S i) :: As)) As := by
  obtain ⟨x, f, h1, -⟩ := hW.row hd
  exact ⟨PT.blind, va_recv hC.1 (va_P_one h1) (ci := 5) rfl (q0 := 0) rfl, fun U hU hWm => ⟨rfl, by rw [hU]; exact hW, fun a ha => hA a (Nat.le_trans hS.1 (by rw [← hU]; exact ha)), hC.go hS (fun _ h => h) hU hWm⟩⟩
theorem tm_v {Su : Type} {F1 : Su → TF} {G1 : Su → TG} {q1 : Su → TQ} {Z1 : Su → Nat × Nat} {post : Su → Prop} (hr : va_Run p l e R s m args below meth c H locs cells slots mc ms (F0 m pc ls st0) rest (va_Qv post (fun u t => WT D yc e0 A S (Z1 u) (F1 u) (G1 u) (q1 u) t.heap) A a) A) (hS : va_S A s.heap H locs)
    (kk : ∀ (u : Su) (H1 : Heap) (locs1 : List Loc), post u → WT D yc e0 A S (Z1 u) (F1 u) (G1 u) (q1 u) H1 → va_S A s.heap H1 locs1 → W p l e R s m args below meth c H1 locs1 (cells + mc) (slots + ms) Q (F0 m (pc + 3) ls rest)) : W p l e R s m args below meth c H locs cells slots Q (F0 m pc ls st0) :=
  va_callv hr hS (fun _ _ h => h) (fun _ h => h) (fun u t H1 locs1 ht _ hp hB _ _ hS1 => kk u H1 locs1 hp (by rw [← ht]; exact hB) hS1)
theorem tm_i {Su : Type} {F1 : Su → TF} {G1 : Su → TG} {q1 : Su → TQ} {Z1 : Su → Nat × Nat} {post : Int32 → Su → Prop} (hr : va_Run p l e R s m args below meth c H locs cells slots mc ms (F0 m pc ls st0) rest (va_Qi post (fun u t => WT D yc e0 A S (Z1 u) (F1 u) (G1 u) (q1 u) t.heap) A a) A) (hS : va_S A s.heap H locs)
    (kk : ∀ (r : Int32) (u : Su) (H1 : Heap) (locs1 : List Loc), post r u → WT D yc e0 A S (Z1 u) (F1 u) (G1 u) (q1 u) H1 → va_S A s.heap H1 locs1 → W p l e R s m args below meth c H1 locs1 (cells + mc) (slots + ms) Q (F0 m (pc + 3) ls (.int r :: rest))) : W p l e R s m args below meth c H locs cells slots Q (F0 m pc ls st0) :=
  va_calli hr hS (fun _ _ h => h) (fun _ h => h) (fun r u t H1 locs1 ht _ hp hB _ _ hS1 => kk r u H1 locs1 hp (by rw [← ht]; exact hB) hS1)
theorem tm_l {Su : Type} {F1 : Su → TF} {G1 : Su → TG} {q1 : Su → TQ} {Z1 : Su → Nat × Nat} {post : Int64 → Su → Prop} (hr : va_Run p l e R s m args below meth c H locs cells slots mc ms (F0 m pc ls st0) rest (va_Ql post (fun u t => WT D yc e0 A S (Z1 u) (F1 u) (G1 u) (q1 u) t.heap) A a) A) (hS : va_S A s.heap H locs)
    (kk : ∀ (r : Int64) (u : Su) (H1 : Heap) (locs1 : List Loc), post r u → WT D yc e0 A S (Z1 u) (F1 u) (G1 u) (q1 u) H1 → va_S A s.heap H1 locs1 → W p l e R s m args below meth c H1 locs1 (cells + mc) (slots + ms) Q (F0 m (pc + 3) ls (.long r :: rest))) : W p l e R s m args below meth c H locs cells slots Q (F0 m pc ls st0) :=
  va_calll hr hS (fun _ _ h => h) (fun _ h => h) (fun r u t H1 locs1 ht _ hp hB _ _ hS1 => kk r u H1 locs1 hp (by rw [← ht]; exact hB) hS1)
-- ends of methods that write
theorem te_v {Su : Type} {F1 : Su → TF} {G1 : Su → TG} {q1 : Su → TQ} {Z1 : Su → Nat × Nat} {post : Su → Prop} (hx : p.tables.exec = Jvm.exec) (hb : c.code = cc) (hr : meth.sig.returnType = none) (hlk : meth.locks = false) (hS : va_S A s.heap H locs) (u : Su) (hp : post u) (hW : WT D yc e0 A S (Z1 u) (F1 u) (G1 u) (q1 u) H) (h1 : cells ≤ mc) (h2 : slots ≤ ms) (hdg : decode cc pc = .ok (.return_, 1)) :
    W p l e R s m args below meth c H locs cells slots (MQ below (va_Qv post (fun u t => WT D yc e0 A S (Z1 u) (F1 u) (G1 u) (q1 u) t.heap) A) args s mc ms A) (F0 m pc ls []) :=
  W.widen h1 h2 (W.vret hx hb hr (fun t ht _ => ⟨⟨u, rfl, hp, by subst ht; exact hW⟩, hS.F ht⟩) hS.2.2 hdg hlk)
theorem te_i {Su : Type} {F1 : Su → TF} {G1 : Su → TG} {q1 : Su → TQ} {Z1 : Su → Nat × Nat} {post : Int32 → Su → Prop} {v : Int32} {ty : FieldType} (hx : p.tables.exec = Jvm.exec) (hb : c.code = cc) (hr : meth.sig.returnType = some ty) (hlk : meth.locks = false) (hS : va_S A s.heap H locs) (hn : narrow ty (.int v) = .int v) (u : Su) (hp : post v u) (hW : WT D yc e0 A S (Z1 u) (F1 u) (G1 u) (q1 u) H) (h1 : cells ≤ mc) (h2 : slots ≤ ms) (hdg : decode cc pc = .ok (.ireturn, 1)) :
    W p l e R s m args below meth c H locs cells slots (MQ below (va_Qi post (fun u t => WT D yc e0 A S (Z1 u) (F1 u) (G1 u) (q1 u) t.heap) A) args s mc ms A) (F0 m pc ls [.int v]) :=
  W.widen h1 h2 (W.zret hx hb hr hn (fun t ht _ => ⟨⟨v, u, rfl, hp, by subst ht; exact hW⟩, hS.F ht⟩) hS.2.2 hdg hlk)
theorem te_l {Su : Type} {F1 : Su → TF} {G1 : Su → TG} {q1 : Su → TQ} {Z1 : Su → Nat × Nat} {post : Int64 → Su → Prop} {v : Int64} (hx : p.tables.exec = Jvm.exec) (hb : c.code = cc) (hr : meth.sig.returnType = some .long) (hlk : meth.locks = false) (hS : va_S A s.heap H locs) (u : Su) (hp : post v u) (hW : WT D yc e0 A S (Z1 u) (F1 u) (G1 u) (q1 u) H) (h1 : cells ≤ mc) (h2 : slots ≤ ms) (hdg : decode cc pc = .ok (.lreturn, 1)) :
    W p l e R s m args below meth c H locs cells slots (MQ below (va_Ql post (fun u t => WT D yc e0 A S (Z1 u) (F1 u) (G1 u) (q1 u) t.heap) A) args s mc ms A) (F0 m pc ls [.long v]) :=
  W.widen h1 h2 (W.lret hx hb hr (fun t ht _ => ⟨⟨v, u, rfl, hp, by subst ht; exact hW⟩, hS.F ht⟩) hS.2.2 hdg hlk)
end ZU
/-- a contract over the world from the walk of its body -/
theorem tk_M {l : Launch} {y : MethodName} {cc : ByteArray} {maxL : Nat} {ret : Option FieldType} {rm : Room} {D : va_G} {yc : Nat → ClassId} {e0 : Nat} {A : Nat → Prop} {S : TS} {Z : Nat × Nat} {F : TF} {G : TG} {q : TQ} {av : List Value} {Qc : Array Value → State → Outcome → State → Prop} {mc ms : Nat} {free : Addr → Prop} (hy : plainName y.cls = true) (hav : (lg_sl av).length ≤ maxL)
    (body : ∀ (p : Program) (e : Env) (s : State) (m : MethodId) (args : Array Value) (below : List Frame) (meth : Method) (c : Code) (ls : Array Slot), p.tables.exec = Jvm.exec → c.code = cc → c.maxLocals = maxL → meth.sig.returnType = ret → meth.locks = false → s.vm.findClass y.cls = some m.cls → (∀ w ∈ lw_all, w.before args s = true) → WT D yc e0 A S Z F G q s.heap → va_S A s.heap s.heap [] → (∀ a, s.heap.size ≤ a → A a) → CX D yc e0 A s → lv_has ls maxL (lv_args 0 av) →
      W p l e rm s m args below meth c s.heap [] 0 0 (MQ below Qc args s mc ms free) (F0 m 0 ls [])) :
    Met l y (ws_ y cc maxL ret) rm (PT D yc e0 A S Z F G q av) Qc mc ms free := by
  refine Met.ofW (cc := cc) (maxL := maxL) (ret := ret) hy rfl ?_
  intro p e s m args below meth c s₁ B hml hv
  obtain ⟨rfl, hW, hA, hC⟩ := hv
  have hts := atoms_spec (ws := ws_ y cc maxL ret) B.pre
  rw [lg_entry_eq]
  exact body p e s m _ below meth c _ B.exec B.bytes hml B.returns B.notSynchronized (findClass_of_methodNamed B.named) (fun w h => hts w (List.mem_cons_of_mem _ h)) hW va_S.rf hA hC (lv_entry av hav)
/-- .. of a method that looks at no cell -/
def PN (av : List Value) : Array Value → State → Prop := va_Pc av (fun _ => True)
theorem PN.blind {av : List Value} : FrameBlind (PN av) := fun _ _ _ _ h => h
theorem tp_N {s : State} {H : Heap} {As : List Value} : PreS s H (PN As) As := ⟨PN.blind, fun _ _ _ => ⟨rfl, trivial⟩⟩
theorem tk_N {l : Launch} {y : MethodName} {cc : ByteArray} {maxL : Nat} {ret : Option FieldType} {rm : Room} {av : List Value} {Qc : Array Value → State → Outcome → State → Prop} {mc ms : Nat} {free : Addr → Prop} (hy : plainName y.cls = true) (hav : (lg_sl av).length ≤ maxL)
    (body : ∀ (p : Program) (e : Env) (s : State) (m : MethodId) (args : Array Value) (below : List Frame) (meth : Method) (c : Code) (ls : Array Slot), p.tables.exec = Jvm.exec → c.code = cc → c.maxLocals = maxL → meth.sig.returnType = ret → meth.locks = false → s.vm.findClass y.cls = some m.cls → (∀ w ∈ lw_all, w.before args s = true) → lv_has ls maxL (lv_args 0 av) →
      W p l e rm s m args below meth c s.heap [] 0 0 (MQ below Qc args s mc ms free) (F0 m 0 ls [])) :
    Met l y (ws_ y cc maxL ret) rm (PN av) Qc mc ms free := by
  refine Met.ofW (cc := cc) (maxL := maxL) (ret := ret) hy rfl ?_
  intro p e s m args below meth c s₁ B hml hv
  obtain ⟨rfl, -⟩ := hv
  have hts := atoms_spec (ws := ws_ y cc maxL ret) B.pre
  rw [lg_entry_eq]
  exact body p e s m _ below meth c _ B.exec B.bytes hml B.returns B.notSynchronized (findClass_of_methodNamed B.named) (fun w h => hts w (List.mem_cons_of_mem _ h)) (lv_entry av hav)
end
section
theorem wq14 : (Jvm.Cond.initialized "java/lang/Math") ∈ lw_all := lw_in (lw_tb (List.mem_of_getElem? (i := 14) (by decide +kernel))) rfl
theorem wq25 : (Jvm.Cond.initialized "WeirStream$Item") ∈ lw_all := lw_in (lw_tb (List.mem_of_getElem? (i := 25) (by decide +kernel))) rfl
theorem wq26 : (Jvm.Cond.initialized "WeirStream$Account") ∈ lw_all := lw_in (lw_tb (List.mem_of_getElem? (i := 26) (by decide +kernel))) rfl
theorem wq300 : (Jvm.Cond.static ({ cls := "java/lang/Math", name := "min", desc := "(II)I" } : Jvm.MethodName)) ∈ lw_all := lw_in (lw_tb (List.mem_of_getElem? (i := 300) (by decide +kernel))) rfl
theorem wq301 : (Jvm.Cond.code ({ cls := "java/lang/Math", name := "min", desc := "(II)I" } : Jvm.MethodName) prog_24_method_69_code (2 : Nat) (Option.some Jvm.ClassFile.FieldType.int)) ∈ lw_all := lw_in (lw_tb (List.mem_of_getElem? (i := 301) (by decide +kernel))) rfl
theorem wq335 : (Jvm.Cond.constantLong "WeirStream$Item" (13 : Nat) (2305843009213693952 : Int64)) ∈ lw_all := lw_in (lw_tb (List.mem_of_getElem? (i := 335) (by decide +kernel))) rfl
theorem wq375 : (Jvm.Cond.static ({ cls := "java/lang/Math", name := "max", desc := "(II)I" } : Jvm.MethodName)) ∈ lw_all := lw_in (lw_tb (List.mem_of_getElem? (i := 375) (by decide +kernel))) rfl
theorem wq376 : (Jvm.Cond.code ({ cls := "java/lang/Math", name := "max", desc := "(II)I" } : Jvm.MethodName) prog_24_method_65_code (2 : Nat) (Option.some Jvm.ClassFile.FieldType.int)) ∈ lw_all := lw_in (lw_tb (List.mem_of_getElem? (i := 376) (by decide +kernel))) rfl
theorem wq396 : (Jvm.Cond.static ({ cls := "WeirStream$Item", name := "time", desc := "(J)I" } : Jvm.MethodName)) ∈ lw_all := lw_in (lw_tb (List.mem_of_getElem? (i := 396) (by decide +kernel))) rfl
theorem wq397 : (Jvm.Cond.code ({ cls := "WeirStream$Item", name := "time", desc := "(J)I" } : Jvm.MethodName) prog_5_method_6_code (2 : Nat) (Option.some Jvm.ClassFile.FieldType.int)) ∈ lw_all := lw_in (lw_tb (List.mem_of_getElem? (i := 397) (by decide +kernel))) rfl
theorem wq398 : (Jvm.Cond.constantLong "WeirStream$Item" (15 : Nat) (1048575 : Int64)) ∈ lw_all := lw_in (lw_tb (List.mem_of_getElem? (i := 398) (by decide +kernel))) rfl
theorem wq429 : (Jvm.Cond.methodLink "WeirStream$Account" (25 : Nat) ({ cls := "WeirStream$Account", name := "beside", desc := "(J)I" } : Jvm.MethodName)) ∈ lw_all := lw_in (lw_tb (List.mem_of_getElem? (i := 429) (by decide +kernel))) rfl
theorem wq430 : (Jvm.Cond.static ({ cls := "WeirStream$Account", name := "beside", desc := "(J)I" } : Jvm.MethodName)) ∈ lw_all := lw_in (lw_tb (List.mem_of_getElem? (i := 430) (by decide +kernel))) rfl
theorem wq431 : (Jvm.Cond.code ({ cls := "WeirStream$Account", name := "beside", desc := "(J)I" } : Jvm.MethodName) prog_2_method_4_code (2 : Nat) (Option.some Jvm.ClassFile.FieldType.int)) ∈ lw_all := lw_in (lw_tb (List.mem_of_getElem? (i := 431) (by decide +kernel))) rfl
theorem wq432 : (Jvm.Cond.methodLink "WeirStream$Account" (24 : Nat) ({ cls := "WeirStream$Account", name := "value", desc := "(J)I" } : Jvm.MethodName)) ∈ lw_all := lw_in (lw_tb (List.mem_of_getElem? (i := 432) (by decide +kernel))) rfl
theorem wq433 : (Jvm.Cond.static ({ cls := "WeirStream$Account", name := "value", desc := "(J)I" } : Jvm.MethodName)) ∈ lw_all := lw_in (lw_tb (List.mem_of_getElem? (i := 433) (by decide +kernel))) rfl
theorem wq434 : (Jvm.Cond.code ({ cls := "WeirStream$Account", name := "value", desc := "(J)I" } : Jvm.MethodName) prog_2_method_3_code (2 : Nat) (Option.some Jvm.ClassFile.FieldType.int)) ∈ lw_all := lw_in (lw_tb (List.mem_of_getElem? (i := 434) (by decide +kernel))) rfl
theorem wq447 : (Jvm.Cond.constantLong "WeirStream$Item" (7 : Nat) (4294967295 : Int64)) ∈ lw_all := lw_in (lw_tb (List.mem_of_getElem? (i := 447) (by decide +kernel))) rfl
theorem wq460 : (Jvm.Cond.constantLong "WeirStream$Item" (11 : Nat) (1152921504606846976 : Int64)) ∈ lw_all := lw_in (lw_tb (List.mem_of_getElem? (i := 460) (by decide +kernel))) rfl
theorem wq485 : (Jvm.Cond.static ({ cls := "WeirStream$Item", name := "value", desc := "(J)I" } : Jvm.MethodName)) ∈ lw_all := lw_in (lw_tb (List.mem_of_getElem? (i := 485) (by decide +kernel))) rfl
theorem wq486 : (Jvm.Cond.code ({ cls := "WeirStream$Item", name := "value", desc := "(J)I" } : Jvm.MethodName) prog_5_method_8_code (2 : Nat) (Option.some Jvm.ClassFile.FieldType.int)) ∈ lw_all := lw_in (lw_tb (List.mem_of_getElem? (i := 486) (by decide +kernel))) rfl
theorem wq490 : (Jvm.Cond.constantLong "WeirStream$Item" (17 : Nat) (255 : Int64)) ∈ lw_all := lw_in (lw_tb (List.mem_of_getElem? (i := 490) (by decide +kernel))) rfl
theorem wq516 : (Jvm.Cond.methodLink "WeirStream$Account" (9 : Nat) ({ cls := "WeirStream$Item", name := "value", desc := "(J)I" } : Jvm.MethodName)) ∈ lw_all := lw_in (lw_tb (List.mem_of_getElem? (i := 516) (by decide +kernel))) rfl
theorem wq517 : (Jvm.Cond.methodLink "WeirStream$Account" (17 : Nat) ({ cls := "WeirStream$Item", name := "time", desc := "(J)I" } : Jvm.MethodName)) ∈ lw_all := lw_in (lw_tb (List.mem_of_getElem? (i := 517) (by decide +kernel))) rfl
theorem wq518 : (Jvm.Cond.methodLink "WeirStream$Account" (20 : Nat) ({ cls := "WeirStream$Account", name := "cell", desc := "(II)J" } : Jvm.MethodName)) ∈ lw_all := lw_in (lw_tb (List.mem_of_getElem? (i := 518) (by decide +kernel))) rfl
theorem wq519 : (Jvm.Cond.static ({ cls := "WeirStream$Account", name := "cell", desc := "(II)J" } : Jvm.MethodName)) ∈ lw_all := lw_in (lw_tb (List.mem_of_getElem? (i := 519) (by decide +kernel))) rfl
theorem wq520 : (Jvm.Cond.code ({ cls := "WeirStream$Account", name := "cell", desc := "(II)J" } : Jvm.MethodName) prog_2_method_2_code (2 : Nat) (Option.some Jvm.ClassFile.FieldType.long)) ∈ lw_all := lw_in (lw_tb (List.mem_of_getElem? (i := 520) (by decide +kernel))) rfl
theorem wq521 : (Jvm.Cond.constantLong "WeirStream$Account" (7 : Nat) (4294967295 : Int64)) ∈ lw_all := lw_in (lw_tb (List.mem_of_getElem? (i := 521) (by decide +kernel))) rfl
theorem wq529 : (Jvm.Cond.methodLink "WeirStream$Account" (28 : Nat) ({ cls := "java/lang/Math", name := "min", desc := "(II)I" } : Jvm.MethodName)) ∈ lw_all := lw_in (lw_tb (List.mem_of_getElem? (i := 529) (by decide +kernel))) rfl
theorem wq530 : (Jvm.Cond.methodLink "WeirStream$Account" (34 : Nat) ({ cls := "java/lang/Math", name := "max", desc := "(II)I" } : Jvm.MethodName)) ∈ lw_all := lw_in (lw_tb (List.mem_of_getElem? (i := 530) (by decide +kernel))) rfl
theorem dX3_event_0 : decode cX3_event 0 = .ok (.iload_n 2, 1) := by decide +kernel
theorem dX3_event_1 : decode cX3_event 1 = .ok (.i2l, 1) := by decide +kernel
theorem dX3_event_2 : decode cX3_event 2 = .ok (.bipush 40, 2) := by decide +kernel
theorem dX3_event_4 : decode cX3_event 4 = .ok (.lshl, 1) := by decide +kernel
theorem dX3_event_5 : decode cX3_event 5 = .ok (.iload_n 0, 1) := by decide +kernel
theorem dX3_event_6 : decode cX3_event 6 = .ok (.i2l, 1) := by decide +kernel
theorem dX3_event_7 : decode cX3_event 7 = .ok (.bipush 32, 2) := by decide +kernel
theorem dX3_event_9 : decode cX3_event 9 = .ok (.lshl, 1) := by decide +kernel
theorem dX3_event_10 : decode cX3_event 10 = .ok (.lor, 1) := by decide +kernel
theorem dX3_event_11 : decode cX3_event 11 = .ok (.iload_n 1, 1) := by decide +kernel
theorem dX3_event_12 : decode cX3_event 12 = .ok (.i2l, 1) := by decide +kernel
theorem dX3_event_13 : decode cX3_event 13 = .ok (.ldc2_w 7, 3) := by decide +kernel
theorem dX3_event_16 : decode cX3_event 16 = .ok (.land, 1) := by decide +kernel
theorem dX3_event_17 : decode cX3_event 17 = .ok (.lor, 1) := by decide +kernel
theorem dX3_event_18 : decode cX3_event 18 = .ok (.lreturn, 1) := by decide +kernel
theorem dX3_mark_0 : decode cX3_mark 0 = .ok (.ldc2_w 11, 3) := by decide +kernel
theorem dX3_mark_3 : decode cX3_mark 3 = .ok (.iload_n 0, 1) := by decide +kernel
theorem dX3_mark_4 : decode cX3_mark 4 = .ok (.i2l, 1) := by decide +kernel
theorem dX3_mark_5 : decode cX3_mark 5 = .ok (.bipush 40, 2) := by decide +kernel
theorem dX3_mark_7 : decode cX3_mark 7 = .ok (.lshl, 1) := by decide +kernel
theorem dX3_mark_8 : decode cX3_mark 8 = .ok (.lor, 1) := by decide +kernel
theorem dX3_mark_9 : decode cX3_mark 9 = .ok (.lreturn, 1) := by decide +kernel
theorem dX3_barrier_0 : decode cX3_barrier 0 = .ok (.ldc2_w 13, 3) := by decide +kernel
theorem dX3_barrier_3 : decode cX3_barrier 3 = .ok (.lreturn, 1) := by decide +kernel
theorem dX3_kind_0 : decode cX3_kind 0 = .ok (.lload_n 0, 1) := by decide +kernel
theorem dX3_kind_1 : decode cX3_kind 1 = .ok (.bipush 60, 2) := by decide +kernel
theorem dX3_kind_3 : decode cX3_kind 3 = .ok (.lushr, 1) := by decide +kernel
theorem dX3_kind_4 : decode cX3_kind 4 = .ok (.l2i, 1) := by decide +kernel
theorem dX3_kind_5 : decode cX3_kind 5 = .ok (.ireturn, 1) := by decide +kernel
theorem dX3_time_0 : decode cX3_time 0 = .ok (.lload_n 0, 1) := by decide +kernel
theorem dX3_time_1 : decode cX3_time 1 = .ok (.bipush 40, 2) := by decide +kernel
theorem dX3_time_3 : decode cX3_time 3 = .ok (.lushr, 1) := by decide +kernel
theorem dX3_time_4 : decode cX3_time 4 = .ok (.ldc2_w 15, 3) := by decide +kernel
theorem dX3_time_7 : decode cX3_time 7 = .ok (.land, 1) := by decide +kernel
theorem dX3_time_8 : decode cX3_time 8 = .ok (.l2i, 1) := by decide +kernel
theorem dX3_time_9 : decode cX3_time 9 = .ok (.ireturn, 1) := by decide +kernel
theorem dX3_key_0 : decode cX3_key 0 = .ok (.lload_n 0, 1) := by decide +kernel
theorem dX3_key_1 : decode cX3_key 1 = .ok (.bipush 32, 2) := by decide +kernel
theorem dX3_key_3 : decode cX3_key 3 = .ok (.lushr, 1) := by decide +kernel
theorem dX3_key_4 : decode cX3_key 4 = .ok (.ldc2_w 17, 3) := by decide +kernel
theorem dX3_key_7 : decode cX3_key 7 = .ok (.land, 1) := by decide +kernel
theorem dX3_key_8 : decode cX3_key 8 = .ok (.l2i, 1) := by decide +kernel
theorem dX3_key_9 : decode cX3_key 9 = .ok (.ireturn, 1) := by decide +kernel
theorem dX3_value_0 : decode cX3_value 0 = .ok (.lload_n 0, 1) := by decide +kernel
theorem dX3_value_1 : decode cX3_value 1 = .ok (.l2i, 1) := by decide +kernel
theorem dX3_value_2 : decode cX3_value 2 = .ok (.ireturn, 1) := by decide +kernel
theorem dX0_cell_0 : decode cX0_cell 0 = .ok (.iload_n 1, 1) := by decide +kernel
theorem dX0_cell_1 : decode cX0_cell 1 = .ok (.i2l, 1) := by decide +kernel
theorem dX0_cell_2 : decode cX0_cell 2 = .ok (.bipush 32, 2) := by decide +kernel
theorem dX0_cell_4 : decode cX0_cell 4 = .ok (.lshl, 1) := by decide +kernel
theorem dX0_cell_5 : decode cX0_cell 5 = .ok (.iload_n 0, 1) := by decide +kernel
theorem dX0_cell_6 : decode cX0_cell 6 = .ok (.i2l, 1) := by decide +kernel
theorem dX0_cell_7 : decode cX0_cell 7 = .ok (.ldc2_w 7, 3) := by decide +kernel
theorem dX0_cell_10 : decode cX0_cell 10 = .ok (.land, 1) := by decide +kernel
theorem dX0_cell_11 : decode cX0_cell 11 = .ok (.lor, 1) := by decide +kernel
theorem dX0_cell_12 : decode cX0_cell 12 = .ok (.lreturn, 1) := by decide +kernel
theorem dX0_value_0 : decode cX0_value 0 = .ok (.lload_n 0, 1) := by decide +kernel
theorem dX0_value_1 : decode cX0_value 1 = .ok (.l2i, 1) := by decide +kernel
theorem dX0_value_2 : decode cX0_value 2 = .ok (.ireturn, 1) := by decide +kernel
theorem dX0_beside_0 : decode cX0_beside 0 = .ok (.lload_n 0, 1) := by decide +kernel
theorem dX0_beside_1 : decode cX0_beside 1 = .ok (.bipush 32, 2) := by decide +kernel
theorem dX0_beside_3 : decode cX0_beside 3 = .ok (.lshr, 1) := by decide +kernel
theorem dX0_beside_4 : decode cX0_beside 4 = .ok (.l2i, 1) := by decide +kernel
theorem dX0_beside_5 : decode cX0_beside 5 = .ok (.ireturn, 1) := by decide +kernel
theorem dX0_ofOne_0 : decode cX0_ofOne 0 = .ok (.iload_n 0, 1) := by decide +kernel
theorem dX0_ofOne_1 : decode cX0_ofOne 1 = .ok (.ifCond .ne 7, 3) := by decide +kernel
theorem dX0_ofOne_4 : decode cX0_ofOne 4 = .ok (.iconst 1, 1) := by decide +kernel
theorem dX0_ofOne_5 : decode cX0_ofOne 5 = .ok (.goto 7, 3) := by decide +kernel
theorem dX0_ofOne_12 : decode cX0_ofOne 12 = .ok (.istore_n 3, 1) := by decide +kernel
theorem dX0_ofOne_13 : decode cX0_ofOne 13 = .ok (.iload_n 3, 1) := by decide +kernel
theorem dX0_ofOne_14 : decode cX0_ofOne 14 = .ok (.iload_n 0, 1) := by decide +kernel
theorem dX0_ofOne_15 : decode cX0_ofOne 15 = .ok (.iconst 4, 1) := by decide +kernel
theorem dX0_ofOne_16 : decode cX0_ofOne 16 = .ok (.if_icmp .ne 10, 3) := by decide +kernel
theorem dX0_ofOne_19 : decode cX0_ofOne 19 = .ok (.lload_n 1, 1) := by decide +kernel
theorem dX0_ofOne_20 : decode cX0_ofOne 20 = .ok (.invokestatic 17, 3) := by decide +kernel
theorem dX0_ofOne_23 : decode cX0_ofOne 23 = .ok (.goto 4, 3) := by decide +kernel
theorem dX0_ofOne_27 : decode cX0_ofOne 27 = .ok (.invokestatic 20, 3) := by decide +kernel
theorem dX0_ofOne_30 : decode cX0_ofOne 30 = .ok (.lreturn, 1) := by decide +kernel
theorem dX0_ofOne_26 : decode cX0_ofOne 26 = .ok (.iconst 1, 1) := by decide +kernel
theorem dX0_ofOne_8 : decode cX0_ofOne 8 = .ok (.lload_n 1, 1) := by decide +kernel
theorem dX0_ofOne_9 : decode cX0_ofOne 9 = .ok (.invokestatic 9, 3) := by decide +kernel
theorem dX0_ofBoth_0 : decode cX0_ofBoth 0 = .ok (.lload_n 1, 1) := by decide +kernel
theorem dX0_ofBoth_1 : decode cX0_ofBoth 1 = .ok (.invokestatic 24, 3) := by decide +kernel
theorem dX0_ofBoth_4 : decode cX0_ofBoth 4 = .ok (.istore 5, 2) := by decide +kernel
theorem dX0_ofBoth_6 : decode cX0_ofBoth 6 = .ok (.lload_n 3, 1) := by decide +kernel
theorem dX0_ofBoth_7 : decode cX0_ofBoth 7 = .ok (.invokestatic 24, 3) := by decide +kernel
theorem dX0_ofBoth_10 : decode cX0_ofBoth 10 = .ok (.istore 6, 2) := by decide +kernel
theorem dX0_ofBoth_12 : decode cX0_ofBoth 12 = .ok (.lload_n 1, 1) := by decide +kernel
theorem dX0_ofBoth_13 : decode cX0_ofBoth 13 = .ok (.invokestatic 25, 3) := by decide +kernel
theorem dX0_ofBoth_16 : decode cX0_ofBoth 16 = .ok (.lload_n 3, 1) := by decide +kernel
theorem dX0_ofBoth_17 : decode cX0_ofBoth 17 = .ok (.invokestatic 25, 3) := by decide +kernel
theorem dX0_ofBoth_20 : decode cX0_ofBoth 20 = .ok (.iadd, 1) := by decide +kernel
theorem dX0_ofBoth_21 : decode cX0_ofBoth 21 = .ok (.istore 7, 2) := by decide +kernel
theorem dX0_ofBoth_23 : decode cX0_ofBoth 23 = .ok (.iload_n 0, 1) := by decide +kernel
theorem dX0_ofBoth_24 : decode cX0_ofBoth 24 = .ok (.tableswitch 71 2 4 #[28, 41, 54], 28) := by decide +kernel
theorem dX0_ofBoth_52 : decode cX0_ofBoth 52 = .ok (.iload 5, 2) := by decide +kernel
theorem dX0_ofBoth_54 : decode cX0_ofBoth 54 = .ok (.iload 6, 2) := by decide +kernel
theorem dX0_ofBoth_56 : decode cX0_ofBoth 56 = .ok (.invokestatic 28, 3) := by decide +kernel
theorem dX0_ofBoth_59 : decode cX0_ofBoth 59 = .ok (.iload 7, 2) := by decide +kernel
theorem dX0_ofBoth_61 : decode cX0_ofBoth 61 = .ok (.invokestatic 20, 3) := by decide +kernel
theorem dX0_ofBoth_64 : decode cX0_ofBoth 64 = .ok (.lreturn, 1) := by decide +kernel
theorem dX0_ofBoth_65 : decode cX0_ofBoth 65 = .ok (.iload 5, 2) := by decide +kernel
theorem dX0_ofBoth_67 : decode cX0_ofBoth 67 = .ok (.iload 6, 2) := by decide +kernel
theorem dX0_ofBoth_69 : decode cX0_ofBoth 69 = .ok (.invokestatic 34, 3) := by decide +kernel
theorem dX0_ofBoth_72 : decode cX0_ofBoth 72 = .ok (.iload 7, 2) := by decide +kernel
theorem dX0_ofBoth_74 : decode cX0_ofBoth 74 = .ok (.invokestatic 20, 3) := by decide +kernel
theorem dX0_ofBoth_77 : decode cX0_ofBoth 77 = .ok (.lreturn, 1) := by decide +kernel
theorem dX0_ofBoth_78 : decode cX0_ofBoth 78 = .ok (.lload_n 3, 1) := by decide +kernel
theorem dX0_ofBoth_79 : decode cX0_ofBoth 79 = .ok (.invokestatic 25, 3) := by decide +kernel
theorem dX0_ofBoth_82 : decode cX0_ofBoth 82 = .ok (.lload_n 1, 1) := by decide +kernel
theorem dX0_ofBoth_83 : decode cX0_ofBoth 83 = .ok (.invokestatic 25, 3) := by decide +kernel
theorem dX0_ofBoth_86 : decode cX0_ofBoth 86 = .ok (.if_icmp .lt 7, 3) := by decide +kernel
theorem dX0_ofBoth_93 : decode cX0_ofBoth 93 = .ok (.lload_n 1, 1) := by decide +kernel
theorem dX0_ofBoth_94 : decode cX0_ofBoth 94 = .ok (.lreturn, 1) := by decide +kernel
theorem dX0_ofBoth_89 : decode cX0_ofBoth 89 = .ok (.lload_n 3, 1) := by decide +kernel
theorem dX0_ofBoth_90 : decode cX0_ofBoth 90 = .ok (.goto 4, 3) := by decide +kernel
theorem dX0_ofBoth_95 : decode cX0_ofBoth 95 = .ok (.iload 5, 2) := by decide +kernel
theorem dX0_ofBoth_97 : decode cX0_ofBoth 97 = .ok (.iload 6, 2) := by decide +kernel
theorem dX0_ofBoth_99 : decode cX0_ofBoth 99 = .ok (.iadd, 1) := by decide +kernel
theorem dX0_ofBoth_100 : decode cX0_ofBoth 100 = .ok (.iload 7, 2) := by decide +kernel
theorem dX0_ofBoth_102 : decode cX0_ofBoth 102 = .ok (.invokestatic 20, 3) := by decide +kernel
theorem dX0_ofBoth_105 : decode cX0_ofBoth 105 = .ok (.lreturn, 1) := by decide +kernel
theorem dX0_answer_0 : decode cX0_answer 0 = .ok (.lload_n 1, 1) := by decide +kernel
theorem dX0_answer_1 : decode cX0_answer 1 = .ok (.invokestatic 25, 3) := by decide +kernel
theorem dX0_answer_4 : decode cX0_answer 4 = .ok (.istore_n 3, 1) := by decide +kernel
theorem dX0_answer_5 : decode cX0_answer 5 = .ok (.iload_n 0, 1) := by decide +kernel
theorem dX0_answer_6 : decode cX0_answer 6 = .ok (.iconst 5, 1) := by decide +kernel
theorem dX0_answer_7 : decode cX0_answer 7 = .ok (.if_icmp .ne 16, 3) := by decide +kernel
theorem dX0_answer_10 : decode cX0_answer 10 = .ok (.iload_n 3, 1) := by decide +kernel
theorem dX0_answer_11 : decode cX0_answer 11 = .ok (.ifCond .eq 12, 3) := by decide +kernel
theorem dX0_answer_23 : decode cX0_answer 23 = .ok (.lload_n 1, 1) := by decide +kernel
theorem dX0_answer_24 : decode cX0_answer 24 = .ok (.invokestatic 24, 3) := by decide +kernel
theorem dX0_answer_27 : decode cX0_answer 27 = .ok (.ireturn, 1) := by decide +kernel
theorem dX0_answer_14 : decode cX0_answer 14 = .ok (.lload_n 1, 1) := by decide +kernel
theorem dX0_answer_15 : decode cX0_answer 15 = .ok (.invokestatic 24, 3) := by decide +kernel
theorem dX0_answer_18 : decode cX0_answer 18 = .ok (.iload_n 3, 1) := by decide +kernel
theorem dX0_answer_19 : decode cX0_answer 19 = .ok (.idiv, 1) := by decide +kernel
theorem dX0_answer_20 : decode cX0_answer 20 = .ok (.goto 7, 3) := by decide +kernel
theorem dX7_name_0 : decode cX7_name 0 = .ok (.iload_n 0, 1) := by decide +kernel
theorem dX7_name_1 : decode cX7_name 1 = .ok (.i2l, 1) := by decide +kernel
theorem dX7_name_2 : decode cX7_name 2 = .ok (.bipush 29, 2) := by decide +kernel
theorem dX7_name_4 : decode cX7_name 4 = .ok (.lshl, 1) := by decide +kernel
theorem dX7_name_5 : decode cX7_name 5 = .ok (.iload_n 1, 1) := by decide +kernel
theorem dX7_name_6 : decode cX7_name 6 = .ok (.i2l, 1) := by decide +kernel
theorem dX7_name_7 : decode cX7_name 7 = .ok (.bipush 21, 2) := by decide +kernel
theorem dX7_name_9 : decode cX7_name 9 = .ok (.lshl, 1) := by decide +kernel
theorem dX7_name_10 : decode cX7_name 10 = .ok (.lor, 1) := by decide +kernel
theorem dX7_name_11 : decode cX7_name 11 = .ok (.iload_n 2, 1) := by decide +kernel
theorem dX7_name_12 : decode cX7_name 12 = .ok (.sipush 1000, 3) := by decide +kernel
theorem dX7_name_15 : decode cX7_name 15 = .ok (.iadd, 1) := by decide +kernel
theorem dX7_name_16 : decode cX7_name 16 = .ok (.i2l, 1) := by decide +kernel
theorem dX7_name_17 : decode cX7_name 17 = .ok (.lor, 1) := by decide +kernel
theorem dX7_name_18 : decode cX7_name 18 = .ok (.lreturn, 1) := by decide +kernel
end
section
def v_X3_event (i1 : Int32) (i2 : Int32) (i3 : Int32) : Int64 := ((i3.toInt64 <<< ((40 : Int32).toInt64 &&& 63)) ||| (i1.toInt64 <<< ((32 : Int32).toInt64 &&& 63))) ||| (i2.toInt64 &&& 4294967295)
set_option maxHeartbeats 4000000 in
set_option maxRecDepth 100000 in
theorem k_X3_event (l : Launch) (i1 : Int32) (i2 : Int32) (i3 : Int32)  : Met l yX3_event (ws_ yX3_event cX3_event 3 (some .long)) ({ frames := 0, cells := 0, slots := 0, locals := 0 }) (PN [.int i1, .int i2, .int i3]) (zQ (some (.long (v_X3_event i1 i2 i3)))) 0 0 zno := by
  refine tk_N (by decide) (Nat.le_of_ble_eq_true rfl) ?_
  intro p e s m args below meth c ls hx hb hml hr hlk hown hts hl
  have hl : lv_has ls 3 [(0, .int i1), (1, .int i2), (2, .int i3)] := hl
  refine lv_iload_n hx hb dX3_event_0 rfl (lv_at hl 2 rfl) ?_
  refine lv_i2l (v := i3.toInt64) hx hb dX3_event_1 rfl ?_
  refine lv_bipush (v := 40) hx hb dX3_event_2 (by decide) ?_
  refine lv_lshl (v := i3.toInt64 <<< ((40 : Int32).toInt64 &&& 63)) hx hb dX3_event_4 rfl ?_
  refine lv_iload_n hx hb dX3_event_5 rfl (lv_at hl 0 rfl) ?_
  refine lv_i2l (v := i1.toInt64) hx hb dX3_event_6 rfl ?_
  refine lv_bipush (v := 32) hx hb dX3_event_7 (by decide) ?_
  refine lv_lshl (v := i1.toInt64 <<< ((32 : Int32).toInt64 &&& 63)) hx hb dX3_event_9 rfl ?_
  refine lv_lor hx hb dX3_event_10 ?_
  refine lv_iload_n hx hb dX3_event_11 rfl (lv_at hl 1 rfl) ?_
  refine lv_i2l (v := i2.toInt64) hx hb dX3_event_12 rfl ?_
  refine lv_ldc2 hx hb hown (hts _ wq447) dX3_event_13 ?_
  refine lv_land hx hb dX3_event_16 ?_
  refine lv_lor hx hb dX3_event_17 ?_
  exact ze_l hx hb hr hlk (by rfl) dX3_event_18
def v_X3_mark (i1 : Int32) : Int64 := 1152921504606846976 ||| (i1.toInt64 <<< ((40 : Int32).toInt64 &&& 63))
set_option maxHeartbeats 4000000 in
set_option maxRecDepth 100000 in
theorem k_X3_mark (l : Launch) (i1 : Int32)  : Met l yX3_mark (ws_ yX3_mark cX3_mark 1 (some .long)) ({ frames := 0, cells := 0, slots := 0, locals := 0 }) (PN [.int i1]) (zQ (some (.long (v_X3_mark i1)))) 0 0 zno := by
  refine tk_N (by decide) (Nat.le_of_ble_eq_true rfl) ?_
  intro p e s m args below meth c ls hx hb hml hr hlk hown hts hl
  have hl : lv_has ls 1 [(0, .int i1)] := hl
  refine lv_ldc2 hx hb hown (hts _ wq460) dX3_mark_0 ?_
  refine lv_iload_n hx hb dX3_mark_3 rfl (lv_at hl 0 rfl) ?_
  refine lv_i2l (v := i1.toInt64) hx hb dX3_mark_4 rfl ?_
  refine lv_bipush (v := 40) hx hb dX3_mark_5 (by decide) ?_
  refine lv_lshl (v := i1.toInt64 <<< ((40 : Int32).toInt64 &&& 63)) hx hb dX3_mark_7 rfl ?_
  refine lv_lor hx hb dX3_mark_8 ?_
  exact ze_l hx hb hr hlk (by rfl) dX3_mark_9
def v_X3_barrier : Int64 := 2305843009213693952
set_option maxHeartbeats 4000000 in
set_option maxRecDepth 100000 in
theorem k_X3_barrier (l : Launch)   : Met l yX3_barrier (ws_ yX3_barrier cX3_barrier 0 (some .long)) ({ frames := 0, cells := 0, slots := 0, locals := 0 }) (PN []) (zQ (some (.long (v_X3_barrier)))) 0 0 zno := by
  refine tk_N (by decide) (Nat.le_of_ble_eq_true rfl) ?_
  intro p e s m args below meth c ls hx hb hml hr hlk hown hts hl
  have hl : lv_has ls 0 [] := hl
  refine lv_ldc2 hx hb hown (hts _ wq335) dX3_barrier_0 ?_
  exact ze_l hx hb hr hlk (by rfl) dX3_barrier_3
def v_X3_kind (l1 : Int64) : Int32 := ((l1.toUInt64 >>> ((60 : Int32).toInt64.toUInt64 &&& Int64.toUInt64 63)).toInt64).toInt32
set_option maxHeartbeats 4000000 in
set_option maxRecDepth 100000 in
theorem k_X3_kind (l : Launch) (l1 : Int64)  : Met l yX3_kind (ws_ yX3_kind cX3_kind 2 (some .int)) ({ frames := 0, cells := 0, slots := 0, locals := 0 }) (PN [.long l1]) (zQ (some (.int (v_X3_kind l1)))) 0 0 zno := by
  refine tk_N (by decide) (Nat.le_of_ble_eq_true rfl) ?_
  intro p e s m args below meth c ls hx hb hml hr hlk hown hts hl
  have hl : lv_has ls 2 [(0, .long l1)] := hl
  refine lv_lload_n hx hb dX3_kind_0 rfl (lv_at hl 0 rfl) ?_
  refine lv_bipush (v := 60) hx hb dX3_kind_1 (by decide) ?_
  refine lv_lushr (v := (l1.toUInt64 >>> ((60 : Int32).toInt64.toUInt64 &&& Int64.toUInt64 63)).toInt64) hx hb dX3_kind_3 rfl ?_
  refine lv_l2i (v := ((l1.toUInt64 >>> ((60 : Int32).toInt64.toUInt64 &&& Int64.toUInt64 63)).toInt64).toInt32) hx hb dX3_kind_4 rfl ?_
  exact ze_i hx hb hr hlk rfl (by rfl) dX3_kind_5
def v_X3_time (l1 : Int64) : Int32 := (((l1.toUInt64 >>> ((40 : Int32).toInt64.toUInt64 &&& Int64.toUInt64 63)).toInt64) &&& 1048575).toInt32
set_option maxHeartbeats 4000000 in
set_option maxRecDepth 100000 in
theorem k_X3_time (l : Launch) (l1 : Int64)  : Met l yX3_time (ws_ yX3_time cX3_time 2 (some .int)) ({ frames := 0, cells := 0, slots := 0, locals := 0 }) (PN [.long l1]) (zQ (some (.int (v_X3_time l1)))) 0 0 zno := by
  refine tk_N (by decide) (Nat.le_of_ble_eq_true rfl) ?_
  intro p e s m args below meth c ls hx hb hml hr hlk hown hts hl
  have hl : lv_has ls 2 [(0, .long l1)] := hl
  refine lv_lload_n hx hb dX3_time_0 rfl (lv_at hl 0 rfl) ?_
  refine lv_bipush (v := 40) hx hb dX3_time_1 (by decide) ?_
  refine lv_lushr (v := (l1.toUInt64 >>> ((40 : Int32).toInt64.toUInt64 &&& Int64.toUInt64 63)).toInt64) hx hb dX3_time_3 rfl ?_
  refine lv_ldc2 hx hb hown (hts _ wq398) dX3_time_4 ?_
  refine lv_land hx hb dX3_time_7 ?_
  refine lv_l2i (v := (((l1.toUInt64 >>> ((40 : Int32).toInt64.toUInt64 &&& Int64.toUInt64 63)).toInt64) &&& 1048575).toInt32) hx hb dX3_time_8 rfl ?_
  exact ze_i hx hb hr hlk rfl (by rfl) dX3_time_9
def v_X3_key (l1 : Int64) : Int32 := (((l1.toUInt64 >>> ((32 : Int32).toInt64.toUInt64 &&& Int64.toUInt64 63)).toInt64) &&& 255).toInt32
set_option maxHeartbeats 4000000 in
set_option maxRecDepth 100000 in
theorem k_X3_key (l : Launch) (l1 : Int64)  : Met l yX3_key (ws_ yX3_key cX3_key 2 (some .int)) ({ frames := 0, cells := 0, slots := 0, locals := 0 }) (PN [.long l1]) (zQ (some (.int (v_X3_key l1)))) 0 0 zno := by
  refine tk_N (by decide) (Nat.le_of_ble_eq_true rfl) ?_
  intro p e s m args below meth c ls hx hb hml hr hlk hown hts hl
  have hl : lv_has ls 2 [(0, .long l1)] := hl
  refine lv_lload_n hx hb dX3_key_0 rfl (lv_at hl 0 rfl) ?_
  refine lv_bipush (v := 32) hx hb dX3_key_1 (by decide) ?_
  refine lv_lushr (v := (l1.toUInt64 >>> ((32 : Int32).toInt64.toUInt64 &&& Int64.toUInt64 63)).toInt64) hx hb dX3_key_3 rfl ?_
  refine lv_ldc2 hx hb hown (hts _ wq490) dX3_key_4 ?_
  refine lv_land hx hb dX3_key_7 ?_
  refine lv_l2i (v := (((l1.toUInt64 >>> ((32 : Int32).toInt64.toUInt64 &&& Int64.toUInt64 63)).toInt64) &&& 255).toInt32) hx hb dX3_key_8 rfl ?_
  exact ze_i hx hb hr hlk rfl (by rfl) dX3_key_9
def v_X3_value (l1 : Int64) : Int32 := l1.toInt32
set_option maxHeartbeats 4000000 in
set_option maxRecDepth 100000 in
theorem k_X3_value (l : Launch) (l1 : Int64)  : Met l yX3_value (ws_ yX3_value cX3_value 2 (some .int)) ({ frames := 0, cells := 0, slots := 0, locals := 0 }) (PN [.long l1]) (zQ (some (.int (v_X3_value l1)))) 0 0 zno := by
  refine tk_N (by decide) (Nat.le_of_ble_eq_true rfl) ?_
  intro p e s m args below meth c ls hx hb hml hr hlk hown hts hl
  have hl : lv_has ls 2 [(0, .long l1)] := hl
  refine lv_lload_n hx hb dX3_value_0 rfl (lv_at hl 0 rfl) ?_
  refine lv_l2i (v := l1.toInt32) hx hb dX3_value_1 rfl ?_
  exact ze_i hx hb hr hlk rfl (by rfl) dX3_value_2
def v_X0_cell (i1 : Int32) (i2 : Int32) : Int64 := (i2.toInt64 <<< ((32 : Int32).toInt64 &&& 63)) ||| (i1.toInt64 &&& 4294967295)
set_option maxHeartbeats 4000000 in
set_option maxRecDepth 100000 in
theorem k_X0_cell (l : Launch) (i1 : Int32) (i2 : Int32)  : Met l yX0_cell (ws_ yX0_cell cX0_cell 2 (some .long)) ({ frames := 0, cells := 0, slots := 0, locals := 0 }) (PN [.int i1, .int i2]) (zQ (some (.long (v_X0_cell i1 i2)))) 0 0 zno := by
  refine tk_N (by decide) (Nat.le_of_ble_eq_true rfl) ?_
  intro p e s m args below meth c ls hx hb hml hr hlk hown hts hl
  have hl : lv_has ls 2 [(0, .int i1), (1, .int i2)] := hl
  refine lv_iload_n hx hb dX0_cell_0 rfl (lv_at hl 1 rfl) ?_
  refine lv_i2l (v := i2.toInt64) hx hb dX0_cell_1 rfl ?_
  refine lv_bipush (v := 32) hx hb dX0_cell_2 (by decide) ?_
  refine lv_lshl (v := i2.toInt64 <<< ((32 : Int32).toInt64 &&& 63)) hx hb dX0_cell_4 rfl ?_
  refine lv_iload_n hx hb dX0_cell_5 rfl (lv_at hl 0 rfl) ?_
  refine lv_i2l (v := i1.toInt64) hx hb dX0_cell_6 rfl ?_
  refine lv_ldc2 hx hb hown (hts _ wq521) dX0_cell_7 ?_
  refine lv_land hx hb dX0_cell_10 ?_
  refine lv_lor hx hb dX0_cell_11 ?_
  exact ze_l hx hb hr hlk (by rfl) dX0_cell_12
def v_X0_value (l1 : Int64) : Int32 := l1.toInt32
set_option maxHeartbeats 4000000 in
set_option maxRecDepth 100000 in
theorem k_X0_value (l : Launch) (l1 : Int64)  : Met l yX0_value (ws_ yX0_value cX0_value 2 (some .int)) ({ frames := 0, cells := 0, slots := 0, locals := 0 }) (PN [.long l1]) (zQ (some (.int (v_X0_value l1)))) 0 0 zno := by
  refine tk_N (by decide) (Nat.le_of_ble_eq_true rfl) ?_
  intro p e s m args below meth c ls hx hb hml hr hlk hown hts hl
  have hl : lv_has ls 2 [(0, .long l1)] := hl
  refine lv_lload_n hx hb dX0_value_0 rfl (lv_at hl 0 rfl) ?_
  refine lv_l2i (v := l1.toInt32) hx hb dX0_value_1 rfl ?_
  exact ze_i hx hb hr hlk rfl (by rfl) dX0_value_2
def v_X0_beside (l1 : Int64) : Int32 := (l1 >>> ((32 : Int32).toInt64 &&& 63)).toInt32
set_option maxHeartbeats 4000000 in
set_option maxRecDepth 100000 in
theorem k_X0_beside (l : Launch) (l1 : Int64)  : Met l yX0_beside (ws_ yX0_beside cX0_beside 2 (some .int)) ({ frames := 0, cells := 0, slots := 0, locals := 0 }) (PN [.long l1]) (zQ (some (.int (v_X0_beside l1)))) 0 0 zno := by
  refine tk_N (by decide) (Nat.le_of_ble_eq_true rfl) ?_
  intro p e s m args below meth c ls hx hb hml hr hlk hown hts hl
  have hl : lv_has ls 2 [(0, .long l1)] := hl
  refine lv_lload_n hx hb dX0_beside_0 rfl (lv_at hl 0 rfl) ?_
  refine lv_bipush (v := 32) hx hb dX0_beside_1 (by decide) ?_
  refine lv_lshr (v := l1 >>> ((32 : Int32).toInt64 &&& 63)) hx hb dX0_beside_3 rfl ?_
  refine lv_l2i (v := (l1 >>> ((32 : Int32).toInt64 &&& 63)).toInt32) hx hb dX0_beside_4 rfl ?_
  exact ze_i hx hb hr hlk rfl (by rfl) dX0_beside_5
def v_X0_ofOne (i1 : Int32) (l1 : Int64) : Int64 := if i1 = 0 then if i1 = 4 then v_X0_cell 1 (v_X3_time l1) else v_X0_cell 1 1 else if i1 = 4 then v_X0_cell (v_X3_value l1) (v_X3_time l1) else v_X0_cell (v_X3_value l1) 1
set_option maxHeartbeats 4000000 in
set_option maxRecDepth 100000 in
theorem k_X0_ofOne (l : Launch) (i1 : Int32) (l1 : Int64)  : Met l yX0_ofOne (ws_ yX0_ofOne cX0_ofOne 4 (some .long)) ({ frames := 1, cells := 0, slots := 0, locals := 21 }) (PN [.int i1, .long l1]) (zQ (some (.long (v_X0_ofOne i1 l1)))) 0 0 zno := by
  refine tk_N (by decide) (Nat.le_of_ble_eq_true rfl) ?_
  intro p e s m args below meth c ls hx hb hml hr hlk hown hts hl
  have hl : lv_has ls 4 [(0, .int i1), (1, .long l1)] := hl
  refine lv_iload_n hx hb dX0_ofOne_0 rfl (lv_at hl 0 rfl) ?_
  refine lv_if_ne (tgt := 8) hx hb dX0_ofOne_1 (by decide) (fun hb1 => ?_) (fun hb1 => ?_)
  · refine lv_lload_n hx hb dX0_ofOne_8 rfl (lv_at hl 1 rfl) ?_
    refine zr_i (va_runS (As := [.long l1]) (rest := []) ⟨hx, hb, hml, hown, hts⟩ (k_X3_value l l1) (va_cwS 1 hts (lw_S wq516 wq485 wq25 wq486) rfl rfl rfl (by decide +kernel) ⟨(Nat.le_of_ble_eq_true rfl), (Nat.le_of_ble_eq_true rfl)⟩) tp_N rfl rfl hl.1 rfl (lv_room (Nat.le_of_ble_eq_true rfl)) dX0_ofOne_9 ⟨(Nat.le_of_ble_eq_true rfl), (Nat.le_of_ble_eq_true rfl)⟩) ?_
    refine lv_istore_n (lv' := [(3, .int (v_X3_value l1)), (0, .int i1), (1, .long l1)]) hx hb dX0_ofOne_12 rfl hl (by decide) rfl (fun ls hl => ?_)
    refine lv_iload_n hx hb dX0_ofOne_13 rfl (lv_at hl 0 rfl) ?_
    refine lv_iload_n hx hb dX0_ofOne_14 rfl (lv_at hl 1 rfl) ?_
    refine lv_iconst (v := 4) hx hb dX0_ofOne_15 (by decide) ?_
    refine lv_icmp_ne (tgt := 26) hx hb dX0_ofOne_16 (by decide) (fun hb3 => ?_) (fun hb3 => ?_)
    · refine lv_iconst (v := 1) hx hb dX0_ofOne_26 (by decide) ?_
      refine zr_l (va_runS (As := [.int (v_X3_value l1), .int 1]) (rest := []) ⟨hx, hb, hml, hown, hts⟩ (k_X0_cell l (v_X3_value l1) 1) (va_cwS 2 hts (lw_S wq518 wq519 wq26 wq520) rfl rfl rfl (by decide +kernel) ⟨(Nat.le_of_ble_eq_true rfl), (Nat.le_of_ble_eq_true rfl)⟩) tp_N rfl rfl hl.1 rfl (lv_room (Nat.le_of_ble_eq_true rfl)) dX0_ofOne_27 ⟨(Nat.le_of_ble_eq_true rfl), (Nat.le_of_ble_eq_true rfl)⟩) ?_
      exact ze_l hx hb hr hlk (by unfold v_X0_ofOne; rw [if_neg hb1, if_neg hb3]) dX0_ofOne_30
    · refine lv_lload_n hx hb dX0_ofOne_19 rfl (lv_at hl 2 rfl) ?_
      refine zr_i (va_runS (As := [.long l1]) (rest := [.int (v_X3_value l1)]) ⟨hx, hb, hml, hown, hts⟩ (k_X3_time l l1) (va_cwS 1 hts (lw_S wq517 wq396 wq25 wq397) rfl rfl rfl (by decide +kernel) ⟨(Nat.le_of_ble_eq_true rfl), (Nat.le_of_ble_eq_true rfl)⟩) tp_N rfl rfl hl.1 rfl (lv_room (Nat.le_of_ble_eq_true rfl)) dX0_ofOne_20 ⟨(Nat.le_of_ble_eq_true rfl), (Nat.le_of_ble_eq_true rfl)⟩) ?_
      refine lv_goto (tgt := 27) hx hb dX0_ofOne_23 (by decide) ?_
      refine zr_l (va_runS (As := [.int (v_X3_value l1), .int (v_X3_time l1)]) (rest := []) ⟨hx, hb, hml, hown, hts⟩ (k_X0_cell l (v_X3_value l1) (v_X3_time l1)) (va_cwS 2 hts (lw_S wq518 wq519 wq26 wq520) rfl rfl rfl (by decide +kernel) ⟨(Nat.le_of_ble_eq_true rfl), (Nat.le_of_ble_eq_true rfl)⟩) tp_N rfl rfl hl.1 rfl (lv_room (Nat.le_of_ble_eq_true rfl)) dX0_ofOne_27 ⟨(Nat.le_of_ble_eq_true rfl), (Nat.le_of_ble_eq_true rfl)⟩) ?_
      exact ze_l hx hb hr hlk (by unfold v_X0_ofOne; rw [if_neg hb1, if_pos hb3]) dX0_ofOne_30
  · refine lv_iconst (v := 1) hx hb dX0_ofOne_4 (by decide) ?_
    refine lv_goto (tgt := 12) hx hb dX0_ofOne_5 (by decide) ?_
    refine lv_istore_n (lv' := [(3, .int 1), (0, .int i1), (1, .long l1)]) hx hb dX0_ofOne_12 rfl hl (by decide) rfl (fun ls hl => ?_)
    refine lv_iload_n hx hb dX0_ofOne_13 rfl (lv_at hl 0 rfl) ?_
    refine lv_iload_n hx hb dX0_ofOne_14 rfl (lv_at hl 1 rfl) ?_
    refine lv_iconst (v := 4) hx hb dX0_ofOne_15 (by decide) ?_
    refine lv_icmp_ne (tgt := 26) hx hb dX0_ofOne_16 (by decide) (fun hb2 => ?_) (fun hb2 => ?_)
    · refine lv_iconst (v := 1) hx hb dX0_ofOne_26 (by decide) ?_
      refine zr_l (va_runS (As := [.int 1, .int 1]) (rest := []) ⟨hx, hb, hml, hown, hts⟩ (k_X0_cell l 1 1) (va_cwS 2 hts (lw_S wq518 wq519 wq26 wq520) rfl rfl rfl (by decide +kernel) ⟨(Nat.le_of_ble_eq_true rfl), (Nat.le_of_ble_eq_true rfl)⟩) tp_N rfl rfl hl.1 rfl (lv_room (Nat.le_of_ble_eq_true rfl)) dX0_ofOne_27 ⟨(Nat.le_of_ble_eq_true rfl), (Nat.le_of_ble_eq_true rfl)⟩) ?_
      exact ze_l hx hb hr hlk (by unfold v_X0_ofOne; rw [if_pos hb1, if_neg hb2]) dX0_ofOne_30
    · refine lv_lload_n hx hb dX0_ofOne_19 rfl (lv_at hl 2 rfl) ?_
      refine zr_i (va_runS (As := [.long l1]) (rest := [.int 1]) ⟨hx, hb, hml, hown, hts⟩ (k_X3_time l l1) (va_cwS 1 hts (lw_S wq517 wq396 wq25 wq397) rfl rfl rfl (by decide +kernel) ⟨(Nat.le_of_ble_eq_true rfl), (Nat.le_of_ble_eq_true rfl)⟩) tp_N rfl rfl hl.1 rfl (lv_room (Nat.le_of_ble_eq_true rfl)) dX0_ofOne_20 ⟨(Nat.le_of_ble_eq_true rfl), (Nat.le_of_ble_eq_true rfl)⟩) ?_
      refine lv_goto (tgt := 27) hx hb dX0_ofOne_23 (by decide) ?_
      refine zr_l (va_runS (As := [.int 1, .int (v_X3_time l1)]) (rest := []) ⟨hx, hb, hml, hown, hts⟩ (k_X0_cell l 1 (v_X3_time l1)) (va_cwS 2 hts (lw_S wq518 wq519 wq26 wq520) rfl rfl rfl (by decide +kernel) ⟨(Nat.le_of_ble_eq_true rfl), (Nat.le_of_ble_eq_true rfl)⟩) tp_N rfl rfl hl.1 rfl (lv_room (Nat.le_of_ble_eq_true rfl)) dX0_ofOne_27 ⟨(Nat.le_of_ble_eq_true rfl), (Nat.le_of_ble_eq_true rfl)⟩) ?_
      exact ze_l hx hb hr hlk (by unfold v_X0_ofOne; rw [if_pos hb1, if_pos hb2]) dX0_ofOne_30
def v_X0_ofBoth (i1 : Int32) (l1 : Int64) (l2 : Int64) : Int64 := if i1 = 2 then v_X0_cell (zmin (v_X0_value l1) (v_X0_value l2)) ((v_X0_beside l1) + (v_X0_beside l2)) else if i1 = 3 then v_X0_cell (zmax (v_X0_value l1) (v_X0_value l2)) ((v_X0_beside l1) + (v_X0_beside l2)) else if i1 = 4 then if (v_X0_beside l2) < (v_X0_beside l1) then l1 else l2 else v_X0_cell ((v_X0_value l1) + (v_X0_value l2)) ((v_X0_beside l1) + (v_X0_beside l2))
set_option maxHeartbeats 4000000 in
set_option maxRecDepth 100000 in
theorem k_X0_ofBoth (l : Launch) (i1 : Int32) (l1 : Int64) (l2 : Int64)  : Met l yX0_ofBoth (ws_ yX0_ofBoth cX0_ofBoth 8 (some .long)) ({ frames := 1, cells := 0, slots := 0, locals := 21 }) (PN [.int i1, .long l1, .long l2]) (zQ (some (.long (v_X0_ofBoth i1 l1 l2)))) 0 0 zno := by
  refine tk_N (by decide) (Nat.le_of_ble_eq_true rfl) ?_
  intro p e s m args below meth c ls hx hb hml hr hlk hown hts hl
  have hl : lv_has ls 8 [(0, .int i1), (1, .long l1), (3, .long l2)] := hl
  refine lv_lload_n hx hb dX0_ofBoth_0 rfl (lv_at hl 1 rfl) ?_
  refine zr_i (va_runS (As := [.long l1]) (rest := []) ⟨hx, hb, hml, hown, hts⟩ (k_X0_value l l1) (va_cwS 1 hts (lw_S wq432 wq433 wq26 wq434) rfl rfl rfl (by decide +kernel) ⟨(Nat.le_of_ble_eq_true rfl), (Nat.le_of_ble_eq_true rfl)⟩) tp_N rfl rfl hl.1 rfl (lv_room (Nat.le_of_ble_eq_true rfl)) dX0_ofBoth_1 ⟨(Nat.le_of_ble_eq_true rfl), (Nat.le_of_ble_eq_true rfl)⟩) ?_
  refine lv_istore (lv' := [(5, .int (v_X0_value l1)), (0, .int i1), (1, .long l1), (3, .long l2)]) hx hb dX0_ofBoth_4 hl (by decide) rfl (fun ls hl => ?_)
  refine lv_lload_n hx hb dX0_ofBoth_6 rfl (lv_at hl 3 rfl) ?_
  refine zr_i (va_runS (As := [.long l2]) (rest := []) ⟨hx, hb, hml, hown, hts⟩ (k_X0_value l l2) (va_cwS 1 hts (lw_S wq432 wq433 wq26 wq434) rfl rfl rfl (by decide +kernel) ⟨(Nat.le_of_ble_eq_true rfl), (Nat.le_of_ble_eq_true rfl)⟩) tp_N rfl rfl hl.1 rfl (lv_room (Nat.le_of_ble_eq_true rfl)) dX0_ofBoth_7 ⟨(Nat.le_of_ble_eq_true rfl), (Nat.le_of_ble_eq_true rfl)⟩) ?_
  refine lv_istore (lv' := [(6, .int (v_X0_value l2)), (5, .int (v_X0_value l1)), (0, .int i1), (1, .long l1), (3, .long l2)]) hx hb dX0_ofBoth_10 hl (by decide) rfl (fun ls hl => ?_)
  refine lv_lload_n hx hb dX0_ofBoth_12 rfl (lv_at hl 3 rfl) ?_
  refine zr_i (va_runS (As := [.long l1]) (rest := []) ⟨hx, hb, hml, hown, hts⟩ (k_X0_beside l l1) (va_cwS 1 hts (lw_S wq429 wq430 wq26 wq431) rfl rfl rfl (by decide +kernel) ⟨(Nat.le_of_ble_eq_true rfl), (Nat.le_of_ble_eq_true rfl)⟩) tp_N rfl rfl hl.1 rfl (lv_room (Nat.le_of_ble_eq_true rfl)) dX0_ofBoth_13 ⟨(Nat.le_of_ble_eq_true rfl), (Nat.le_of_ble_eq_true rfl)⟩) ?_
  refine lv_lload_n hx hb dX0_ofBoth_16 rfl (lv_at hl 4 rfl) ?_
  refine zr_i (va_runS (As := [.long l2]) (rest := [.int (v_X0_beside l1)]) ⟨hx, hb, hml, hown, hts⟩ (k_X0_beside l l2) (va_cwS 1 hts (lw_S wq429 wq430 wq26 wq431) rfl rfl rfl (by decide +kernel) ⟨(Nat.le_of_ble_eq_true rfl), (Nat.le_of_ble_eq_true rfl)⟩) tp_N rfl rfl hl.1 rfl (lv_room (Nat.le_of_ble_eq_true rfl)) dX0_ofBoth_17 ⟨(Nat.le_of_ble_eq_true rfl), (Nat.le_of_ble_eq_true rfl)⟩) ?_
  refine lv_iadd hx hb dX0_ofBoth_20 ?_
  refine lv_istore (lv' := [(7, .int ((v_X0_beside l1) + (v_X0_beside l2))), (6, .int (v_X0_value l2)), (5, .int (v_X0_value l1)), (0, .int i1), (1, .long l1), (3, .long l2)]) hx hb dX0_ofBoth_21 hl (by decide) rfl (fun ls hl => ?_)
  refine lv_iload_n hx hb dX0_ofBoth_23 rfl (lv_at hl 3 rfl) ?_
  by_cases hs1 : i1 = 2
  · refine zk_ti (y := 2) hs1 ?_
    refine lv_tableIn (off := 28) (tgt := 52) hx hb dX0_ofBoth_24 (by decide) (by decide) (by decide) (by decide) ?_
    refine lv_iload hx hb dX0_ofBoth_52 (lv_at hl 2 rfl) ?_
    refine lv_iload hx hb dX0_ofBoth_54 (lv_at hl 1 rfl) ?_
    refine va_mmin hx hb (by rw [hml]; exact hl.1.symm) hown (hts _ wq529) (hts _ wq300) (hts _ wq14) (hts _ wq301) (Nat.le_of_ble_eq_true rfl) (Nat.le_of_ble_eq_true rfl) (Nat.le_of_ble_eq_true rfl) (Nat.le_of_ble_eq_true rfl) dX0_ofBoth_56 ?_
    refine zk_ti (y := zmin (v_X0_value l1) (v_X0_value l2)) rfl ?_
    refine lv_iload hx hb dX0_ofBoth_59 (lv_at hl 0 rfl) ?_
    refine zr_l (va_runS (As := [.int (zmin (v_X0_value l1) (v_X0_value l2)), .int ((v_X0_beside l1) + (v_X0_beside l2))]) (rest := []) ⟨hx, hb, hml, hown, hts⟩ (k_X0_cell l (zmin (v_X0_value l1) (v_X0_value l2)) ((v_X0_beside l1) + (v_X0_beside l2))) (va_cwS 2 hts (lw_S wq518 wq519 wq26 wq520) rfl rfl rfl (by decide +kernel) ⟨(Nat.le_of_ble_eq_true rfl), (Nat.le_of_ble_eq_true rfl)⟩) tp_N rfl rfl hl.1 rfl (lv_room (Nat.le_of_ble_eq_true rfl)) dX0_ofBoth_61 ⟨(Nat.le_of_ble_eq_true rfl), (Nat.le_of_ble_eq_true rfl)⟩) ?_
    exact ze_l hx hb hr hlk (by unfold v_X0_ofBoth; rw [if_pos hs1]) dX0_ofBoth_64
  · by_cases hs2 : i1 = 3
    · refine zk_ti (y := 3) hs2 ?_
      refine lv_tableIn (off := 41) (tgt := 65) hx hb dX0_ofBoth_24 (by decide) (by decide) (by decide) (by decide) ?_
      refine lv_iload hx hb dX0_ofBoth_65 (lv_at hl 2 rfl) ?_
      refine lv_iload hx hb dX0_ofBoth_67 (lv_at hl 1 rfl) ?_
      refine va_mmax hx hb (by rw [hml]; exact hl.1.symm) hown (hts _ wq530) (hts _ wq375) (hts _ wq14) (hts _ wq376) (Nat.le_of_ble_eq_true rfl) (Nat.le_of_ble_eq_true rfl) (Nat.le_of_ble_eq_true rfl) (Nat.le_of_ble_eq_true rfl) dX0_ofBoth_69 ?_
      refine zk_ti (y := zmax (v_X0_value l1) (v_X0_value l2)) rfl ?_
      refine lv_iload hx hb dX0_ofBoth_72 (lv_at hl 0 rfl) ?_
      refine zr_l (va_runS (As := [.int (zmax (v_X0_value l1) (v_X0_value l2)), .int ((v_X0_beside l1) + (v_X0_beside l2))]) (rest := []) ⟨hx, hb, hml, hown, hts⟩ (k_X0_cell l (zmax (v_X0_value l1) (v_X0_value l2)) ((v_X0_beside l1) + (v_X0_beside l2))) (va_cwS 2 hts (lw_S wq518 wq519 wq26 wq520) rfl rfl rfl (by decide +kernel) ⟨(Nat.le_of_ble_eq_true rfl), (Nat.le_of_ble_eq_true rfl)⟩) tp_N rfl rfl hl.1 rfl (lv_room (Nat.le_of_ble_eq_true rfl)) dX0_ofBoth_74 ⟨(Nat.le_of_ble_eq_true rfl), (Nat.le_of_ble_eq_true rfl)⟩) ?_
      exact ze_l hx hb hr hlk (by unfold v_X0_ofBoth; rw [if_neg hs1, if_pos hs2]) dX0_ofBoth_77
    · by_cases hs3 : i1 = 4
      · refine zk_ti (y := 4) hs3 ?_
        refine lv_tableIn (off := 54) (tgt := 78) hx hb dX0_ofBoth_24 (by decide) (by decide) (by decide) (by decide) ?_
        refine lv_lload_n hx hb dX0_ofBoth_78 rfl (lv_at hl 5 rfl) ?_
        refine zr_i (va_runS (As := [.long l2]) (rest := []) ⟨hx, hb, hml, hown, hts⟩ (k_X0_beside l l2) (va_cwS 1 hts (lw_S wq429 wq430 wq26 wq431) rfl rfl rfl (by decide +kernel) ⟨(Nat.le_of_ble_eq_true rfl), (Nat.le_of_ble_eq_true rfl)⟩) tp_N rfl rfl hl.1 rfl (lv_room (Nat.le_of_ble_eq_true rfl)) dX0_ofBoth_79 ⟨(Nat.le_of_ble_eq_true rfl), (Nat.le_of_ble_eq_true rfl)⟩) ?_
        refine lv_lload_n hx hb dX0_ofBoth_82 rfl (lv_at hl 4 rfl) ?_
        refine zr_i (va_runS (As := [.long l1]) (rest := [.int (v_X0_beside l2)]) ⟨hx, hb, hml, hown, hts⟩ (k_X0_beside l l1) (va_cwS 1 hts (lw_S wq429 wq430 wq26 wq431) rfl rfl rfl (by decide +kernel) ⟨(Nat.le_of_ble_eq_true rfl), (Nat.le_of_ble_eq_true rfl)⟩) tp_N rfl rfl hl.1 rfl (lv_room (Nat.le_of_ble_eq_true rfl)) dX0_ofBoth_83 ⟨(Nat.le_of_ble_eq_true rfl), (Nat.le_of_ble_eq_true rfl)⟩) ?_
        refine lv_icmp_lt (tgt := 93) hx hb dX0_ofBoth_86 (by decide) (fun hb4 => ?_) (fun hb4 => ?_)
        · refine lv_lload_n hx hb dX0_ofBoth_93 rfl (lv_at hl 4 rfl) ?_
          exact ze_l hx hb hr hlk (by unfold v_X0_ofBoth; rw [if_neg hs1, if_neg hs2, if_pos hs3, if_pos hb4]) dX0_ofBoth_94
        · refine lv_lload_n hx hb dX0_ofBoth_89 rfl (lv_at hl 5 rfl) ?_
          refine lv_goto (tgt := 94) hx hb dX0_ofBoth_90 (by decide) ?_
          exact ze_l hx hb hr hlk (by unfold v_X0_ofBoth; rw [if_neg hs1, if_neg hs2, if_pos hs3, if_neg hb4]) dX0_ofBoth_94
      · refine lv_tableOut (tgt := 95) hx hb dX0_ofBoth_24 (by have a0 := zk_nt hs1; have e0 : (2 : Int32).toInt = 2 := (by decide); rw [e0] at a0; have a1 := zk_nt hs2; have e1 : (3 : Int32).toInt = 3 := (by decide); rw [e1] at a1; have a2 := zk_nt hs3; have e2 : (4 : Int32).toInt = 4 := (by decide); rw [e2] at a2; omega) (by decide) ?_
        refine lv_iload hx hb dX0_ofBoth_95 (lv_at hl 2 rfl) ?_
        refine lv_iload hx hb dX0_ofBoth_97 (lv_at hl 1 rfl) ?_
        refine lv_iadd hx hb dX0_ofBoth_99 ?_
        refine lv_iload hx hb dX0_ofBoth_100 (lv_at hl 0 rfl) ?_
        refine zr_l (va_runS (As := [.int ((v_X0_value l1) + (v_X0_value l2)), .int ((v_X0_beside l1) + (v_X0_beside l2))]) (rest := []) ⟨hx, hb, hml, hown, hts⟩ (k_X0_cell l ((v_X0_value l1) + (v_X0_value l2)) ((v_X0_beside l1) + (v_X0_beside l2))) (va_cwS 2 hts (lw_S wq518 wq519 wq26 wq520) rfl rfl rfl (by decide +kernel) ⟨(Nat.le_of_ble_eq_true rfl), (Nat.le_of_ble_eq_true rfl)⟩) tp_N rfl rfl hl.1 rfl (lv_room (Nat.le_of_ble_eq_true rfl)) dX0_ofBoth_102 ⟨(Nat.le_of_ble_eq_true rfl), (Nat.le_of_ble_eq_true rfl)⟩) ?_
        exact ze_l hx hb hr hlk (by unfold v_X0_ofBoth; rw [if_neg hs1, if_neg hs2, if_neg hs3]) dX0_ofBoth_105
def v_X0_answer (i1 : Int32) (l1 : Int64) : Int32 := if i1 = 5 then if (v_X0_beside l1) = 0 then v_X0_value l1 else (v_X0_value l1) / (v_X0_beside l1) else v_X0_value l1
set_option maxHeartbeats 4000000 in
set_option maxRecDepth 100000 in
theorem k_X0_answer (l : Launch) (i1 : Int32) (l1 : Int64)  : Met l yX0_answer (ws_ yX0_answer cX0_answer 4 (some .int)) ({ frames := 1, cells := 0, slots := 0, locals := 21 }) (PN [.int i1, .long l1]) (zQ (some (.int (v_X0_answer i1 l1)))) 0 0 zno := by
  refine tk_N (by decide) (Nat.le_of_ble_eq_true rfl) ?_
  intro p e s m args below meth c ls hx hb hml hr hlk hown hts hl
  have hl : lv_has ls 4 [(0, .int i1), (1, .long l1)] := hl
  refine lv_lload_n hx hb dX0_answer_0 rfl (lv_at hl 1 rfl) ?_
  refine zr_i (va_runS (As := [.long l1]) (rest := []) ⟨hx, hb, hml, hown, hts⟩ (k_X0_beside l l1) (va_cwS 1 hts (lw_S wq429 wq430 wq26 wq431) rfl rfl rfl (by decide +kernel) ⟨(Nat.le_of_ble_eq_true rfl), (Nat.le_of_ble_eq_true rfl)⟩) tp_N rfl rfl hl.1 rfl (lv_room (Nat.le_of_ble_eq_true rfl)) dX0_answer_1 ⟨(Nat.le_of_ble_eq_true rfl), (Nat.le_of_ble_eq_true rfl)⟩) ?_
  refine lv_istore_n (lv' := [(3, .int (v_X0_beside l1)), (0, .int i1), (1, .long l1)]) hx hb dX0_answer_4 rfl hl (by decide) rfl (fun ls hl => ?_)
  refine lv_iload_n hx hb dX0_answer_5 rfl (lv_at hl 1 rfl) ?_
  refine lv_iconst (v := 5) hx hb dX0_answer_6 (by decide) ?_
  refine lv_icmp_ne (tgt := 23) hx hb dX0_answer_7 (by decide) (fun hb1 => ?_) (fun hb1 => ?_)
  · refine lv_lload_n hx hb dX0_answer_23 rfl (lv_at hl 2 rfl) ?_
    refine zr_i (va_runS (As := [.long l1]) (rest := []) ⟨hx, hb, hml, hown, hts⟩ (k_X0_value l l1) (va_cwS 1 hts (lw_S wq432 wq433 wq26 wq434) rfl rfl rfl (by decide +kernel) ⟨(Nat.le_of_ble_eq_true rfl), (Nat.le_of_ble_eq_true rfl)⟩) tp_N rfl rfl hl.1 rfl (lv_room (Nat.le_of_ble_eq_true rfl)) dX0_answer_24 ⟨(Nat.le_of_ble_eq_true rfl), (Nat.le_of_ble_eq_true rfl)⟩) ?_
    exact ze_i hx hb hr hlk rfl (by unfold v_X0_answer; rw [if_neg hb1]) dX0_answer_27
  · refine lv_iload_n hx hb dX0_answer_10 rfl (lv_at hl 0 rfl) ?_
    refine lv_if_eq (tgt := 23) hx hb dX0_answer_11 (by decide) (fun hb2 => ?_) (fun hb2 => ?_)
    · refine lv_lload_n hx hb dX0_answer_23 rfl (lv_at hl 2 rfl) ?_
      refine zr_i (va_runS (As := [.long l1]) (rest := []) ⟨hx, hb, hml, hown, hts⟩ (k_X0_value l l1) (va_cwS 1 hts (lw_S wq432 wq433 wq26 wq434) rfl rfl rfl (by decide +kernel) ⟨(Nat.le_of_ble_eq_true rfl), (Nat.le_of_ble_eq_true rfl)⟩) tp_N rfl rfl hl.1 rfl (lv_room (Nat.le_of_ble_eq_true rfl)) dX0_answer_24 ⟨(Nat.le_of_ble_eq_true rfl), (Nat.le_of_ble_eq_true rfl)⟩) ?_
      exact ze_i hx hb hr hlk rfl (by unfold v_X0_answer; rw [if_pos hb1, if_pos hb2]) dX0_answer_27
    · refine lv_lload_n hx hb dX0_answer_14 rfl (lv_at hl 2 rfl) ?_
      refine zr_i (va_runS (As := [.long l1]) (rest := []) ⟨hx, hb, hml, hown, hts⟩ (k_X0_value l l1) (va_cwS 1 hts (lw_S wq432 wq433 wq26 wq434) rfl rfl rfl (by decide +kernel) ⟨(Nat.le_of_ble_eq_true rfl), (Nat.le_of_ble_eq_true rfl)⟩) tp_N rfl rfl hl.1 rfl (lv_room (Nat.le_of_ble_eq_true rfl)) dX0_answer_15 ⟨(Nat.le_of_ble_eq_true rfl), (Nat.le_of_ble_eq_true rfl)⟩) ?_
      refine lv_iload_n hx hb dX0_answer_18 rfl (lv_at hl 0 rfl) ?_
      refine lv_idiv hx hb dX0_answer_19 (by assumption) ?_
      refine lv_goto (tgt := 27) hx hb dX0_answer_20 (by decide) ?_
      exact ze_i hx hb hr hlk rfl (by unfold v_X0_answer; rw [if_pos hb1, if_neg hb2]) dX0_answer_27
def v_X7_name (i1 : Int32) (i2 : Int32) (i3 : Int32) : Int64 := ((i1.toInt64 <<< ((29 : Int32).toInt64 &&& 63)) ||| (i2.toInt64 <<< ((21 : Int32).toInt64 &&& 63))) ||| ((i3 + 1000).toInt64)
set_option maxHeartbeats 4000000 in
set_option maxRecDepth 100000 in
theorem k_X7_name (l : Launch) (i1 : Int32) (i2 : Int32) (i3 : Int32)  : Met l yX7_name (ws_ yX7_name cX7_name 3 (some .long)) ({ frames := 0, cells := 0, slots := 0, locals := 0 }) (PN [.int i1, .int i2, .int i3]) (zQ (some (.long (v_X7_name i1 i2 i3)))) 0 0 zno := by
  refine tk_N (by decide) (Nat.le_of_ble_eq_true rfl) ?_
  intro p e s m args below meth c ls hx hb hml hr hlk hown hts hl
  have hl : lv_has ls 3 [(0, .int i1), (1, .int i2), (2, .int i3)] := hl
  refine lv_iload_n hx hb dX7_name_0 rfl (lv_at hl 0 rfl) ?_
  refine lv_i2l (v := i1.toInt64) hx hb dX7_name_1 rfl ?_
  refine lv_bipush (v := 29) hx hb dX7_name_2 (by decide) ?_
  refine lv_lshl (v := i1.toInt64 <<< ((29 : Int32).toInt64 &&& 63)) hx hb dX7_name_4 rfl ?_
  refine lv_iload_n hx hb dX7_name_5 rfl (lv_at hl 1 rfl) ?_
  refine lv_i2l (v := i2.toInt64) hx hb dX7_name_6 rfl ?_
  refine lv_bipush (v := 21) hx hb dX7_name_7 (by decide) ?_
  refine lv_lshl (v := i2.toInt64 <<< ((21 : Int32).toInt64 &&& 63)) hx hb dX7_name_9 rfl ?_
  refine lv_lor hx hb dX7_name_10 ?_
  refine lv_iload_n hx hb dX7_name_11 rfl (lv_at hl 2 rfl) ?_
  refine lv_sipush (v := 1000) hx hb dX7_name_12 (by decide) ?_
  refine lv_iadd hx hb dX7_name_15 ?_
  refine lv_i2l (v := (i3 + 1000).toInt64) hx hb dX7_name_16 rfl ?_
  refine lv_lor hx hb dX7_name_17 ?_
  exact ze_l hx hb hr hlk (by rfl) dX7_name_18
end
section
theorem cel_ch {S : TS} {G : TG} {kd fl k : Nat} {f : Nat → Int32} (h : kd = 4 ∨ kd = 5) : cel S G kd fl k f = .inr (1, [.ref (zr S (ri fl (zsrc S (kd - 4) k))), .int (f 1), .int (f 2)]) := by rcases h with rfl | rfl <;> rfl
def ochd (S : TS) (k i : Nat) : Nat × Nat := (och S k).getD i (4, 0)
theorem och_mem {S : TS} {k : Nat} {q : Nat × Nat} (h : q ∈ och S k) : (q.1 = 4 ∧ q.2 < zn S ∧ zp S 0 q.2 = some k) ∨ (q.1 = 5 ∧ q.2 < zn S ∧ zp S 1 q.2 = some k) := by
  unfold och at h
  obtain ⟨c, hc, hq⟩ := List.mem_flatMap.mp h
  have hc := List.mem_range.mp hc
  rcases List.mem_append.mp hq with h | h
  · by_cases hp : zp S 0 c = some k
    · rw [if_pos hp, List.mem_singleton] at h
      subst h
      exact Or.inl ⟨rfl, hc, hp⟩
    · rw [if_neg hp] at h
      cases h
  · by_cases hp : zp S 1 c = some k
    · rw [if_pos hp, List.mem_singleton] at h
      subst h
      exact Or.inr ⟨rfl, hc, hp⟩
    · rw [if_neg hp] at h
      cases h
theorem ochd_mem {S : TS} {k i : Nat} (hi : i < (och S k).length) : ochd S k i ∈ och S k := by
  unfold ochd
  rw [List.getD_eq_getElem?_getD, List.getElem?_eq_getElem hi]
  exact List.getElem_mem hi
theorem och_ok {S : TS} {k i : Nat} {fl : Nat} (hf : fl < 2) (hi : i < (och S k).length) : ((ochd S k i).1 = 4 ∨ (ochd S k i).1 = 5) ∧ dm S (ochd S k i).1 fl (ochd S k i).2 ∧ zsrc S ((ochd S k i).1 - 4) (ochd S k i).2 = k := by
  rcases och_mem (ochd_mem hi) with ⟨h1, h2, h3⟩ | ⟨h1, h2, h3⟩
  · refine ⟨Or.inl h1, ?_, ?_⟩
    · rw [h1]; exact dm4 hf h2 (by rw [h3]; rfl)
    · rw [h1]; unfold zsrc; rw [show (4 - 4 : Nat) = 0 from rfl, h3]; rfl
  · refine ⟨Or.inr h1, ?_, ?_⟩
    · rw [h1]; exact dm5 hf h2 (by rw [h3]; rfl)
    · rw [h1]; unfold zsrc; rw [show (5 - 4 : Nat) = 1 from rfl, h3]; rfl
theorem len_flat {α β : Type} {f : α → List β} {c : Nat} (h : ∀ a, (f a).length ≤ c) : ∀ l : List α, (l.flatMap f).length ≤ c * l.length
  | [] => by simp
  | a :: l => by
    rw [List.flatMap_cons, List.length_append, List.length_cons, Nat.mul_succ]
    have h1 := len_flat h l
    have h2 := h a
    omega
theorem och_len (S : TS) (k : Nat) : (och S k).length ≤ 2 * zn S := by
  unfold och
  refine Nat.le_trans (len_flat (c := 2) (fun a => ?_) _) (by rw [List.length_range]; omega)
  rw [List.length_append]
  by_cases h1 : zp S 0 a = some k <;> by_cases h2 : zp S 1 a = some k <;> simp [h1, h2]
/-- how long the lists are -/
def lln (S : TS) (b k : Nat) : Nat := if b = 0 then zn S else (och S k).length
theorem lic_len {S : TS} {b fl k : Nat} : (lic S b fl k).length = lln S b k := by
  unfold lic lln
  by_cases h : b = 0
  · rw [if_pos h, if_pos h, List.length_map, List.length_range]
  · rw [if_neg h, if_neg h, List.length_map]
theorem lln_le {S : TS} {b k : Nat} (hn : zn S ≤ 12) : lln S b k ≤ 24 := by
  unfold lln
  have := och_len S k
  split <;> omega
/-- what stands there -/
def lat (S : TS) (b fl k i : Nat) : Nat := if b = 0 then zg S 2 fl i else zg S (ochd S k i).1 fl (ochd S k i).2
theorem lic_at {S : TS} {b fl k i : Nat} (h : i < (lic S b fl k).length) : (lic S b fl k)[i] = lat S b fl k i := by
  unfold lic lat at *
  by_cases hb : b = 0
  · simp only [if_pos hb] at h ⊢
    simp
  · simp only [if_neg hb] at h ⊢
    have hi : i < (och S k).length := by rw [List.length_map] at h; exact h
    simp [ochd, List.getD_eq_getElem?_getD, List.getElem?_eq_getElem hi]
section ZV
variable {D : va_G} {yc : Nat → ClassId} {e0 : Nat} {A : Nat → Prop} {S : TS} {Z : Nat × Nat} {F : TF} {G : TG} {q : TQ} {H : Heap}
theorem WT.list (h : WT D yc e0 A S Z F G q H) {b fl k : Nat} (hl : dl S b fl k) : (lln S b k = 0 ∧ ∃ mc : Int32, va_at D vwCl (zl S b fl k, .inr (0, [.int mc, .ref e0, .int 0])) H) ∨
    ∃ (mc : Int32) (x cap : Nat) (f : Nat → Option Nat), va_at D vwCl (zl S b fl k, .inr (0, [.int mc, .ref x, .int (nI (lln S b k))])) H ∧ va_at D vwCl (x, .inl (yc 2, cap, .inr (.inr (.inr (.inr f))))) H ∧ lln S b k ≤ cap ∧ cap < 1024 ∧ ∀ j : Nat, j < lln S b k → f j = some (lat S b fl k j) := by
  obtain ⟨own, h1, h2, h3, h4⟩ := h
  obtain ⟨ha, ⟨hn, mc, ho⟩ | ⟨mc, x, cap, f, g1, g2, g3, g4, g5⟩⟩ := h3 b fl k hl
  · exact Or.inl ⟨by rw [← lic_len (fl := fl), hn]; rfl, mc, ho⟩
  · rw [lic_len] at g1 g3
    refine Or.inr ⟨mc, x, cap, f, g1, g2.1, g3, g4, fun j hj => ?_⟩
    have hj' : j < (lic S b fl k).length := by rw [lic_len]; exact hj
    rw [g5 j hj', lic_at hj']
theorem WT.lobj (h : WT D yc e0 A S Z F G q H) {b fl k : Nat} (hl : dl S b fl k) : ∃ (mc : Int32) (x : Nat), va_at D vwCl (zl S b fl k, .inr (0, [.int mc, .ref x, .int (nI (lln S b k))])) H := by
  rcases h.list hl with ⟨h1, mc, h2⟩ | ⟨mc, x, cap, f, h1, -⟩
  · exact ⟨mc, e0, by rw [h1]; exact h2⟩
  · exact ⟨mc, x, h1⟩
end ZV
theorem dl0 {S : TS} {fl : Nat} (h : fl < 2) : dl S 0 fl 0 := Or.inl ⟨rfl, h, rfl⟩
theorem dl1 {S : TS} {fl k : Nat} (h : fl < 2) (hk : k < zn S) : dl S 1 fl k := Or.inr ⟨rfl, h, hk⟩
section ZX
variable {p : Program} {l : Launch} {e : Env} {R : Room} {s : State} {m : MethodId} {args : Array Value} {below : List Frame} {meth : Method} {c : Code} {H : Heap} {locs : List Loc} {cells slots : Nat} {Q : State → Prop}
variable {D : va_G} {yc : Nat → ClassId} {e0 : Nat} {A : Nat → Prop} {S : TS} {Z : Nat × Nat} {F : TF} {G : TG} {q : TQ} {As : List Value}
theorem tp_L (hC : CX D yc e0 A s) (hW : WT D yc e0 A S Z F G q H) (hS : va_S A s.heap H locs) (hA : ∀ a, s.heap.size ≤ a → A a) (b fl k : Nat) (hd : dl S b fl k) : PreV s H RJx4a65c (zl S b fl k) (PT D yc e0 A S Z F G q (.ref (zl S b fl k) :: As)) As := by
  obtain ⟨mc, x, h1⟩ := hW.lobj hd
  exact ⟨PT.blind, va_recv hC.1 (va_P_one h1) (ci := 0) rfl (q0 := 0) rfl, fun U hU hWm => ⟨rfl, by rw [hU]; exact hW, fun a ha => hA a (Nat.le_trans hS.1 (by rw [← hU]; exact ha)), hC.go hS (fun _ h => h) hU hWm⟩⟩
/-- an object of the world stands there, and is of its class -/
theorem t_cell (hK : va_K D vwCl (yT yc) s) (hW : WT D yc e0 A S Z F G q H) (kd fl k : Nat) (hd : dm S kd fl k) {fs : List Value} {ci : Nat} (he : cel S G kd fl k (F kd fl k) = .inr (ci, fs)) {C : String} {T : u_T} {N : Nat} (hc : vwCl[ci]? = some (C, T, N)) : ∃ cell : Cell, H[zg S kd fl k]? = some cell ∧ cell.vm.isStatics = false ∧ s.vm.findClass C = some cell.cls :=
  va_recv hK (va_P_one (by have h := (hW.obj hd).1; rw [he] at h; exact h)) hc (q0 := 0) rfl
end ZX
theorem zin {j : Int32} {n : Nat} (h0 : ¬ j < 0) (h : ¬ nI n ≤ j) (hn : n < 2 ^ 31) : vp_in j n := by
  rw [vp_in_iff]
  rw [Int32.lt_iff_toInt_lt] at h0
  rw [Int32.le_iff_toInt_le, nI_toInt hn] at h
  have e0 : (0 : Int32).toInt = 0 := by decide
  omega
theorem zcap {n : Nat} (h : ∃ z : Nat, z ≤ 20 ∧ n = 8 * 2 ^ z) : n < 2 ^ 31 := by
  obtain ⟨z, hz, rfl⟩ := h
  have h1 : 2 ^ z ≤ 2 ^ 20 := Nat.pow_le_pow_right (by decide) hz
  omega
theorem zrow {f : Nat → Int64} {xs : List Int64} {j : Int32} (hf : ∀ (j : Nat) (h : j < xs.length), f j = xs[j]) (h0 : ¬ j < 0) (h : ¬ nI xs.length ≤ j) (hn : xs.length < 2 ^ 31) : f j.toNatClampNeg = xs.getD j.toNatClampNeg 0 := by
  have h1 := zin h0 h hn
  have hlt : j.toNatClampNeg < xs.length := Nat.not_le.mp fun q => h1 (Or.inr q)
  rw [hf _ hlt, List.getD_eq_getElem?_getD, List.getElem?_eq_getElem hlt]
  rfl
theorem WT.csrc {D : va_G} {yc : Nat → ClassId} {e0 : Nat} {A : Nat → Prop} {S : TS} {Z : Nat × Nat} {F : TF} {G : TG} {q : TQ} {H : Heap} (h : WT D yc e0 A S Z F G q H) {kd fl k : Nat} (hkd : kd = 4 ∨ kd = 5) (hd : dm S kd fl k) : fl < 2 ∧ k < zn S ∧ zsrc S (kd - 4) k < zn S := by
  rcases hkd with rfl | rfl
  · exact ⟨hd.1, hd.2.1, h.src hd.2.1 hd.2.2⟩
  · exact ⟨hd.1, hd.2.1, h.src hd.2.1 hd.2.2⟩
theorem zch_or (S : TS) (x fl k : Nat) : zch S x fl k = .null ∨ ∃ a, zch S x fl k = .ref a := by
  unfold zch
  split
  · exact Or.inr ⟨_, rfl⟩
  · exact Or.inl rfl
theorem zadd1 (w j : Nat) : nI w - 1 + nI (j + 1) = nI (w + j) := by
  rw [← nI_1, ← nI_add, Int32.add_comm (nI j) 1, ← Int32.add_assoc, Int32.sub_add_cancel]
theorem zhalf {a b : Nat} (h : a + b < 2 ^ 31) : ((nI a + nI b).toUInt32 >>> ((1 : Int32).toUInt32 &&& Int32.toUInt32 31)).toInt32 = nI ((a + b) / 2) := by
  rw [nI_add]
  exact pk_ushrN (by omega) 1 1 (by decide)
theorem WT.rlen {D : va_G} {yc : Nat → ClassId} {e0 : Nat} {A : Nat → Prop} {S : TS} {Z : Nat × Nat} {F : TF} {G : TG} {q : TQ} {H : Heap} (h : WT D yc e0 A S Z F G q H) {i : Nat} (hi : dr S i) : (q i).2.length ≤ 8388608 := by
  obtain ⟨x, f, h1, h2, h3, h4, z, h5, h6⟩ := h.row hi
  have h7 : 2 ^ z ≤ 2 ^ 20 := Nat.pow_le_pow_right (by decide) h5
  omega
theorem zpos {x : Int32} (h : ¬ x < 1) : ¬ x = 0 := fun e => h (by rw [e]; decide)
theorem zng {x : Int32} (h : x < 0) : ¬ 0 ≤ x := by
  rw [Int32.lt_iff_toInt_lt] at h
  rw [Int32.le_iff_toInt_le]
  omega
theorem Met.ofWF {l : Launch} {y : MethodName} {ws ws' : List Cond} {rm : Room} {Pc : Array Value → State → Prop} {Qc : Array Value → State → Outcome → State → Prop} {mc ms : Nat} {free : Addr → Prop} {cc : ByteArray} {maxL : Nat} {ret : Option FieldType}
    (hy : plainFor y = true) (hw : ws = Cond.code y cc maxL ret :: ws')
    (body : ∀ p e s m args below meth c s₁, BodyLoose p l y (headSpec ws rm) cc maxL ret e s m args below meth c s₁ → c.maxLocals = maxL → Pc args s →
      W p l e (headSpec ws rm).room s m args below meth c s.heap [] 0 0 (MQ below Qc args s mc ms free) (entryFrame m args maxL)) : Met l y ws rm Pc Qc mc ms free := by
  refine MetFree.of_bodySF (code := cc) (maxLocals := maxL) (ret := ret) hy ?_ ?_
  · intro args s m h hn
    obtain ⟨meth, c, h1, h2, h3, h4, h5, h6, -, -⟩ := Cond.code_spec hn (atoms_spec (ws := ws) h _ (by rw [hw]; exact List.mem_cons_self))
    exact ⟨meth, c, h1, h2, h3, h4, h5, h6⟩
  · intro p e s m args below meth c s₁ B hml hP _
    have hh0 : s₁.heap = s.heap := by rw [B.state]; rfl
    obtain ⟨t, a1, o, b1, b2, b3⟩ := body p e s m args below meth c s₁ B hml hP s₁ hh0 (Stand.of_body B)
    exact ⟨t, o, a1, b1, b2, ⟨b3.1, b3.2⟩⟩
theorem tk_NF {l : Launch} {y : MethodName} {cc : ByteArray} {maxL : Nat} {ret : Option FieldType} {rm : Room} {av : List Value} {Qc : Array Value → State → Outcome → State → Prop} {mc ms : Nat} {free : Addr → Prop} (hy : plainFor y = true) (hav : (lg_sl av).length ≤ maxL)
    (body : ∀ (p : Program) (e : Env) (s : State) (m : MethodId) (args : Array Value) (below : List Frame) (meth : Method) (c : Code) (ls : Array Slot), p.tables.exec = Jvm.exec → c.code = cc → c.maxLocals = maxL → meth.sig.returnType = ret → meth.locks = false → s.vm.findClass y.cls = some m.cls → (∀ w ∈ lw_all, w.before args s = true) → lv_has ls maxL (lv_args 0 av) →
      W p l e rm s m args below meth c s.heap [] 0 0 (MQ below Qc args s mc ms free) (F0 m 0 ls [])) :
    Met l y (ws_ y cc maxL ret) rm (PN av) Qc mc ms free := by
  refine Met.ofWF (cc := cc) (maxL := maxL) (ret := ret) hy rfl ?_
  intro p e s m args below meth c s₁ B hml hv
  obtain ⟨rfl, -⟩ := hv
  have hts := atoms_spec (ws := ws_ y cc maxL ret) B.pre
  rw [lg_entry_eq]
  exact body p e s m _ below meth c _ B.exec B.bytes hml B.returns B.notSynchronized (findClass_of_methodNamed B.named) (fun w h => hts w (List.mem_cons_of_mem _ h)) (lv_entry av hav)
theorem zpos1 {x : Int32} (h : 1 ≤ x) : ¬ x = 0 := fun e => by rw [e] at h; exact absurd h (by decide)
theorem zfp_n64 {r : UInt64} (h : FP.Core.dIsNaN r = false) : vf_n64 r := by
  have h1 : ¬ (9218868437227405312 < r.toNat % 2 ^ 63) := fun h2 => by rw [(FP.Core.isNaN_bits r).mpr h2] at h; cases h
  unfold vf_n64
  rw [UInt64.le_iff_toNat_le, UInt64.toNat_and]
  have e1 : (0x7fffffffffffffff : UInt64).toNat = 2 ^ 63 - 1 := by decide
  have e2 : (0x7ff0000000000000 : UInt64).toNat = 9218868437227405312 := by decide
  rw [e1, e2, Nat.and_two_pow_sub_one_eq_mod]
  omega
theorem zfp_div {a b : Int32} (hb : ¬ b = 0) : FP.Core.dIsNaN (FP.ddiv (FP.i2d a) (FP.i2d b)) = false :=
  FP.Core.ddiv_out (FP.Core.DFin.notNaN (FP.Core.i2d_fin a)) (FP.Core.i2d_fin b) (fun hz => FP.Core.i2d_ne_zero hb ((FP.Core.zero_bits2 _).mp hz))
theorem znn {x : Int32} (h : ¬ x < 0) : x = nI x.toNatClampNeg := by
  obtain ⟨j, hj, rfl⟩ := nI_of h
  rw [nI_clamp hj]
theorem znl (x : Int32) : x.toNatClampNeg < 2 ^ 31 := by
  have h := x.toInt_lt
  have h2 : x.toNatClampNeg = x.toInt.toNat := rfl
  omega
end
section
theorem wq5 : (Jvm.Cond.initialized "java/util/ArrayList") ∈ lw_all := lw_in (lw_tb (List.mem_of_getElem? (i := 5) (by decide +kernel))) rfl
theorem wq12 : (Jvm.Cond.initialized "java/util/Objects") ∈ lw_all := lw_in (lw_tb (List.mem_of_getElem? (i := 12) (by decide +kernel))) rfl
theorem wq13 : (Jvm.Cond.initialized "jdk/internal/util/Preconditions") ∈ lw_all := lw_in (lw_tb (List.mem_of_getElem? (i := 13) (by decide +kernel))) rfl
theorem wq15 : (Jvm.Cond.initialized "WeirStream$Row") ∈ lw_all := lw_in (lw_tb (List.mem_of_getElem? (i := 15) (by decide +kernel))) rfl
theorem wq17 : (Jvm.Cond.initialized "WeirStream$Channel") ∈ lw_all := lw_in (lw_tb (List.mem_of_getElem? (i := 17) (by decide +kernel))) rfl
theorem wq21 : (Jvm.Cond.initialized "WeirStream$Outlet") ∈ lw_all := lw_in (lw_tb (List.mem_of_getElem? (i := 21) (by decide +kernel))) rfl
theorem wq23 : (Jvm.Cond.initialized "WeirStream$Spans") ∈ lw_all := lw_in (lw_tb (List.mem_of_getElem? (i := 23) (by decide +kernel))) rfl
theorem wq55 : (Jvm.Cond.fieldLink "java/util/ArrayList" (9 : Nat) "java/util/ArrayList" "elementData" "[Ljava/lang/Object;") ∈ lw_all := lw_in (lw_tb (List.mem_of_getElem? (i := 55) (by decide +kernel))) rfl
theorem wq56 : (Jvm.Cond.fieldLink "java/util/ArrayList" (48 : Nat) "java/util/ArrayList" "size" "I") ∈ lw_all := lw_in (lw_tb (List.mem_of_getElem? (i := 56) (by decide +kernel))) rfl
theorem wq60 : (Jvm.Cond.lays "java/util/ArrayList" "java/util/ArrayList" "elementData" "[Ljava/lang/Object;") ∈ lw_all := lw_in (lw_tb (List.mem_of_getElem? (i := 60) (by decide +kernel))) rfl
theorem wq62 : (Jvm.Cond.lays "java/util/ArrayList" "java/util/ArrayList" "size" "I") ∈ lw_all := lw_in (lw_tb (List.mem_of_getElem? (i := 62) (by decide +kernel))) rfl
theorem wq64 : (Jvm.Cond.lays "java/util/ArrayList" "java/util/AbstractList" "modCount" "I") ∈ lw_all := lw_in (lw_tb (List.mem_of_getElem? (i := 64) (by decide +kernel))) rfl
theorem wq120 : (Jvm.Cond.instanceMethod ({ cls := "java/util/ArrayList", name := "size", desc := "()I" } : Jvm.MethodName)) ∈ lw_all := lw_in (lw_tb (List.mem_of_getElem? (i := 120) (by decide +kernel))) rfl
theorem wq121 : (Jvm.Cond.selects "java/util/ArrayList" ({ cls := "java/util/ArrayList", name := "size", desc := "()I" } : Jvm.MethodName) ({ cls := "java/util/ArrayList", name := "size", desc := "()I" } : Jvm.MethodName)) ∈ lw_all := lw_in (lw_tb (List.mem_of_getElem? (i := 121) (by decide +kernel))) rfl
theorem wq122 : (Jvm.Cond.code ({ cls := "java/util/ArrayList", name := "size", desc := "()I" } : Jvm.MethodName) prog_30_method_8_code (1 : Nat) (Option.some Jvm.ClassFile.FieldType.int)) ∈ lw_all := lw_in (lw_tb (List.mem_of_getElem? (i := 122) (by decide +kernel))) rfl
theorem wq228 : (Jvm.Cond.instanceMethod ({ cls := "java/util/ArrayList", name := "get", desc := "(I)Ljava/lang/Object;" } : Jvm.MethodName)) ∈ lw_all := lw_in (lw_tb (List.mem_of_getElem? (i := 228) (by decide +kernel))) rfl
theorem wq229 : (Jvm.Cond.selects "java/util/ArrayList" ({ cls := "java/util/ArrayList", name := "get", desc := "(I)Ljava/lang/Object;" } : Jvm.MethodName) ({ cls := "java/util/ArrayList", name := "get", desc := "(I)Ljava/lang/Object;" } : Jvm.MethodName)) ∈ lw_all := lw_in (lw_tb (List.mem_of_getElem? (i := 229) (by decide +kernel))) rfl
theorem wq230 : (Jvm.Cond.code ({ cls := "java/util/ArrayList", name := "get", desc := "(I)Ljava/lang/Object;" } : Jvm.MethodName) prog_30_method_20_code (2 : Nat) (Option.some (Jvm.ClassFile.FieldType.object "java/lang/Object"))) ∈ lw_all := lw_in (lw_tb (List.mem_of_getElem? (i := 230) (by decide +kernel))) rfl
theorem wq231 : (Jvm.Cond.methodLink "java/util/ArrayList" (118 : Nat) ({ cls := "java/util/Objects", name := "checkIndex", desc := "(II)I" } : Jvm.MethodName)) ∈ lw_all := lw_in (lw_tb (List.mem_of_getElem? (i := 231) (by decide +kernel))) rfl
theorem wq232 : (Jvm.Cond.static ({ cls := "java/util/Objects", name := "checkIndex", desc := "(II)I" } : Jvm.MethodName)) ∈ lw_all := lw_in (lw_tb (List.mem_of_getElem? (i := 232) (by decide +kernel))) rfl
theorem wq233 : (Jvm.Cond.code ({ cls := "java/util/Objects", name := "checkIndex", desc := "(II)I" } : Jvm.MethodName) prog_34_method_17_code (2 : Nat) (Option.some Jvm.ClassFile.FieldType.int)) ∈ lw_all := lw_in (lw_tb (List.mem_of_getElem? (i := 233) (by decide +kernel))) rfl
theorem wq234 : (Jvm.Cond.methodLink "java/util/Objects" (105 : Nat) ({ cls := "jdk/internal/util/Preconditions", name := "checkIndex", desc := "(IILjava/util/function/BiFunction;)I" } : Jvm.MethodName)) ∈ lw_all := lw_in (lw_tb (List.mem_of_getElem? (i := 234) (by decide +kernel))) rfl
theorem wq235 : (Jvm.Cond.static ({ cls := "jdk/internal/util/Preconditions", name := "checkIndex", desc := "(IILjava/util/function/BiFunction;)I" } : Jvm.MethodName)) ∈ lw_all := lw_in (lw_tb (List.mem_of_getElem? (i := 235) (by decide +kernel))) rfl
theorem wq236 : (Jvm.Cond.code ({ cls := "jdk/internal/util/Preconditions", name := "checkIndex", desc := "(IILjava/util/function/BiFunction;)I" } : Jvm.MethodName) prog_38_method_11_code (3 : Nat) (Option.some Jvm.ClassFile.FieldType.int)) ∈ lw_all := lw_in (lw_tb (List.mem_of_getElem? (i := 236) (by decide +kernel))) rfl
theorem wq237 : (Jvm.Cond.methodLink "java/util/ArrayList" (123 : Nat) ({ cls := "java/util/ArrayList", name := "elementData", desc := "(I)Ljava/lang/Object;" } : Jvm.MethodName)) ∈ lw_all := lw_in (lw_tb (List.mem_of_getElem? (i := 237) (by decide +kernel))) rfl
theorem wq238 : (Jvm.Cond.instanceMethod ({ cls := "java/util/ArrayList", name := "elementData", desc := "(I)Ljava/lang/Object;" } : Jvm.MethodName)) ∈ lw_all := lw_in (lw_tb (List.mem_of_getElem? (i := 238) (by decide +kernel))) rfl
theorem wq239 : (Jvm.Cond.selects "java/util/ArrayList" ({ cls := "java/util/ArrayList", name := "elementData", desc := "(I)Ljava/lang/Object;" } : Jvm.MethodName) ({ cls := "java/util/ArrayList", name := "elementData", desc := "(I)Ljava/lang/Object;" } : Jvm.MethodName)) ∈ lw_all := lw_in (lw_tb (List.mem_of_getElem? (i := 239) (by decide +kernel))) rfl
theorem wq240 : (Jvm.Cond.code ({ cls := "java/util/ArrayList", name := "elementData", desc := "(I)Ljava/lang/Object;" } : Jvm.MethodName) prog_30_method_18_code (2 : Nat) (Option.some (Jvm.ClassFile.FieldType.object "java/lang/Object"))) ∈ lw_all := lw_in (lw_tb (List.mem_of_getElem? (i := 240) (by decide +kernel))) rfl
theorem wq266 : (Jvm.Cond.instanceMethod ({ cls := "WeirStream$Row", name := "length", desc := "()I" } : Jvm.MethodName)) ∈ lw_all := lw_in (lw_tb (List.mem_of_getElem? (i := 266) (by decide +kernel))) rfl
theorem wq267 : (Jvm.Cond.selects "WeirStream$Row" ({ cls := "WeirStream$Row", name := "length", desc := "()I" } : Jvm.MethodName) ({ cls := "WeirStream$Row", name := "length", desc := "()I" } : Jvm.MethodName)) ∈ lw_all := lw_in (lw_tb (List.mem_of_getElem? (i := 267) (by decide +kernel))) rfl
theorem wq268 : (Jvm.Cond.code ({ cls := "WeirStream$Row", name := "length", desc := "()I" } : Jvm.MethodName) prog_8_method_2_code (1 : Nat) (Option.some Jvm.ClassFile.FieldType.int)) ∈ lw_all := lw_in (lw_tb (List.mem_of_getElem? (i := 268) (by decide +kernel))) rfl
theorem wq290 : (Jvm.Cond.methodLink "WeirStream$Outlet" (32 : Nat) ({ cls := "WeirStream$Row", name := "length", desc := "()I" } : Jvm.MethodName)) ∈ lw_all := lw_in (lw_tb (List.mem_of_getElem? (i := 290) (by decide +kernel))) rfl
theorem wq291 : (Jvm.Cond.methodLink "WeirStream$Outlet" (36 : Nat) ({ cls := "WeirStream$Outlet", name := "leastGiven", desc := "()I" } : Jvm.MethodName)) ∈ lw_all := lw_in (lw_tb (List.mem_of_getElem? (i := 291) (by decide +kernel))) rfl
theorem wq293 : (Jvm.Cond.instanceMethod ({ cls := "WeirStream$Outlet", name := "leastGiven", desc := "()I" } : Jvm.MethodName)) ∈ lw_all := lw_in (lw_tb (List.mem_of_getElem? (i := 293) (by decide +kernel))) rfl
theorem wq295 : (Jvm.Cond.code ({ cls := "WeirStream$Outlet", name := "leastGiven", desc := "()I" } : Jvm.MethodName) prog_6_method_4_code (3 : Nat) (Option.some Jvm.ClassFile.FieldType.int)) ∈ lw_all := lw_in (lw_tb (List.mem_of_getElem? (i := 295) (by decide +kernel))) rfl
theorem wq296 : (Jvm.Cond.methodLink "WeirStream$Outlet" (39 : Nat) ({ cls := "java/util/ArrayList", name := "size", desc := "()I" } : Jvm.MethodName)) ∈ lw_all := lw_in (lw_tb (List.mem_of_getElem? (i := 296) (by decide +kernel))) rfl
theorem wq297 : (Jvm.Cond.methodLink "WeirStream$Outlet" (42 : Nat) ({ cls := "java/util/ArrayList", name := "get", desc := "(I)Ljava/lang/Object;" } : Jvm.MethodName)) ∈ lw_all := lw_in (lw_tb (List.mem_of_getElem? (i := 297) (by decide +kernel))) rfl
theorem wq298 : (Jvm.Cond.classLink "WeirStream$Outlet" (23 : Nat) "WeirStream$Channel") ∈ lw_all := lw_in (lw_tb (List.mem_of_getElem? (i := 298) (by decide +kernel))) rfl
theorem wq299 : (Jvm.Cond.methodLink "WeirStream$Outlet" (50 : Nat) ({ cls := "java/lang/Math", name := "min", desc := "(II)I" } : Jvm.MethodName)) ∈ lw_all := lw_in (lw_tb (List.mem_of_getElem? (i := 299) (by decide +kernel))) rfl
theorem wq308 : (Jvm.Cond.methodLink "WeirStream$Channel" (27 : Nat) ({ cls := "WeirStream$Channel", name := "length", desc := "()I" } : Jvm.MethodName)) ∈ lw_all := lw_in (lw_tb (List.mem_of_getElem? (i := 308) (by decide +kernel))) rfl
theorem wq309 : (Jvm.Cond.instanceMethod ({ cls := "WeirStream$Channel", name := "length", desc := "()I" } : Jvm.MethodName)) ∈ lw_all := lw_in (lw_tb (List.mem_of_getElem? (i := 309) (by decide +kernel))) rfl
theorem wq310 : (Jvm.Cond.selects "WeirStream$Channel" ({ cls := "WeirStream$Channel", name := "length", desc := "()I" } : Jvm.MethodName) ({ cls := "WeirStream$Channel", name := "length", desc := "()I" } : Jvm.MethodName)) ∈ lw_all := lw_in (lw_tb (List.mem_of_getElem? (i := 310) (by decide +kernel))) rfl
theorem wq311 : (Jvm.Cond.code ({ cls := "WeirStream$Channel", name := "length", desc := "()I" } : Jvm.MethodName) prog_3_method_2_code (1 : Nat) (Option.some Jvm.ClassFile.FieldType.int)) ∈ lw_all := lw_in (lw_tb (List.mem_of_getElem? (i := 311) (by decide +kernel))) rfl
theorem wq312 : (Jvm.Cond.methodLink "WeirStream$Channel" (13 : Nat) ({ cls := "WeirStream$Row", name := "length", desc := "()I" } : Jvm.MethodName)) ∈ lw_all := lw_in (lw_tb (List.mem_of_getElem? (i := 312) (by decide +kernel))) rfl
theorem wq391 : (Jvm.Cond.instanceMethod ({ cls := "WeirStream$Row", name := "at", desc := "(I)J" } : Jvm.MethodName)) ∈ lw_all := lw_in (lw_tb (List.mem_of_getElem? (i := 391) (by decide +kernel))) rfl
theorem wq392 : (Jvm.Cond.selects "WeirStream$Row" ({ cls := "WeirStream$Row", name := "at", desc := "(I)J" } : Jvm.MethodName) ({ cls := "WeirStream$Row", name := "at", desc := "(I)J" } : Jvm.MethodName)) ∈ lw_all := lw_in (lw_tb (List.mem_of_getElem? (i := 392) (by decide +kernel))) rfl
theorem wq393 : (Jvm.Cond.code ({ cls := "WeirStream$Row", name := "at", desc := "(I)J" } : Jvm.MethodName) prog_8_method_3_code (2 : Nat) (Option.some Jvm.ClassFile.FieldType.long)) ∈ lw_all := lw_in (lw_tb (List.mem_of_getElem? (i := 393) (by decide +kernel))) rfl
theorem wq416 : (Jvm.Cond.methodLink "WeirStream$Spans" (21 : Nat) ({ cls := "WeirStream$Row", name := "length", desc := "()I" } : Jvm.MethodName)) ∈ lw_all := lw_in (lw_tb (List.mem_of_getElem? (i := 416) (by decide +kernel))) rfl
theorem wq417 : (Jvm.Cond.methodLink "WeirStream$Spans" (25 : Nat) ({ cls := "WeirStream$Row", name := "at", desc := "(I)J" } : Jvm.MethodName)) ∈ lw_all := lw_in (lw_tb (List.mem_of_getElem? (i := 417) (by decide +kernel))) rfl
theorem wq439 : (Jvm.Cond.constantLong "WeirStream$Spans" (29 : Nat) (255 : Int64)) ∈ lw_all := lw_in (lw_tb (List.mem_of_getElem? (i := 439) (by decide +kernel))) rfl
theorem wq552 : (Jvm.Cond.instanceMethod ({ cls := "WeirStream$Spans", name := "length", desc := "()I" } : Jvm.MethodName)) ∈ lw_all := lw_in (lw_tb (List.mem_of_getElem? (i := 552) (by decide +kernel))) rfl
theorem wq553 : (Jvm.Cond.selects "WeirStream$Spans" ({ cls := "WeirStream$Spans", name := "length", desc := "()I" } : Jvm.MethodName) ({ cls := "WeirStream$Spans", name := "length", desc := "()I" } : Jvm.MethodName)) ∈ lw_all := lw_in (lw_tb (List.mem_of_getElem? (i := 553) (by decide +kernel))) rfl
theorem wq554 : (Jvm.Cond.code ({ cls := "WeirStream$Spans", name := "length", desc := "()I" } : Jvm.MethodName) prog_9_method_3_code (1 : Nat) (Option.some Jvm.ClassFile.FieldType.int)) ∈ lw_all := lw_in (lw_tb (List.mem_of_getElem? (i := 554) (by decide +kernel))) rfl
theorem wq559 : (Jvm.Cond.constantLong "WeirStream$Spans" (31 : Nat) (2097151 : Int64)) ∈ lw_all := lw_in (lw_tb (List.mem_of_getElem? (i := 559) (by decide +kernel))) rfl
theorem wq647 : (Jvm.Cond.methodLink "WeirStream$State" (40 : Nat) ({ cls := "WeirStream$Spans", name := "length", desc := "()I" } : Jvm.MethodName)) ∈ lw_all := lw_in (lw_tb (List.mem_of_getElem? (i := 647) (by decide +kernel))) rfl
theorem wq648 : (Jvm.Cond.methodLink "WeirStream$State" (44 : Nat) ({ cls := "WeirStream$Row", name := "length", desc := "()I" } : Jvm.MethodName)) ∈ lw_all := lw_in (lw_tb (List.mem_of_getElem? (i := 648) (by decide +kernel))) rfl
theorem wq913 : (Jvm.Cond.fieldLink "WeirStream$Row" (9 : Nat) "WeirStream$Row" "cells" "[J") ∈ lw_all := lw_in (lw_tb (List.mem_of_getElem? (i := 913) (by decide +kernel))) rfl
theorem wq914 : (Jvm.Cond.fieldLink "WeirStream$Row" (13 : Nat) "WeirStream$Row" "length" "I") ∈ lw_all := lw_in (lw_tb (List.mem_of_getElem? (i := 914) (by decide +kernel))) rfl
theorem wq915 : (Jvm.Cond.lays "WeirStream$Row" "WeirStream$Row" "cells" "[J") ∈ lw_all := lw_in (lw_tb (List.mem_of_getElem? (i := 915) (by decide +kernel))) rfl
theorem wq917 : (Jvm.Cond.lays "WeirStream$Row" "WeirStream$Row" "length" "I") ∈ lw_all := lw_in (lw_tb (List.mem_of_getElem? (i := 917) (by decide +kernel))) rfl
theorem wq937 : (Jvm.Cond.fieldLink "WeirStream$Channel" (7 : Nat) "WeirStream$Channel" "items" "LWeirStream$Row;") ∈ lw_all := lw_in (lw_tb (List.mem_of_getElem? (i := 937) (by decide +kernel))) rfl
theorem wq938 : (Jvm.Cond.fieldLink "WeirStream$Channel" (19 : Nat) "WeirStream$Channel" "given" "I") ∈ lw_all := lw_in (lw_tb (List.mem_of_getElem? (i := 938) (by decide +kernel))) rfl
theorem wq940 : (Jvm.Cond.fieldLink "WeirStream$Channel" (23 : Nat) "WeirStream$Channel" "isShut" "Z") ∈ lw_all := lw_in (lw_tb (List.mem_of_getElem? (i := 940) (by decide +kernel))) rfl
theorem wq944 : (Jvm.Cond.laysFinal "WeirStream$Channel" "WeirStream$Channel" "items" "LWeirStream$Row;") ∈ lw_all := lw_in (lw_tb (List.mem_of_getElem? (i := 944) (by decide +kernel))) rfl
theorem wq946 : (Jvm.Cond.lays "WeirStream$Channel" "WeirStream$Channel" "given" "I") ∈ lw_all := lw_in (lw_tb (List.mem_of_getElem? (i := 946) (by decide +kernel))) rfl
theorem wq948 : (Jvm.Cond.lays "WeirStream$Channel" "WeirStream$Channel" "isShut" "Z") ∈ lw_all := lw_in (lw_tb (List.mem_of_getElem? (i := 948) (by decide +kernel))) rfl
theorem wq1016 : (Jvm.Cond.fieldLink "WeirStream$Outlet" (10 : Nat) "WeirStream$Outlet" "items" "LWeirStream$Row;") ∈ lw_all := lw_in (lw_tb (List.mem_of_getElem? (i := 1016) (by decide +kernel))) rfl
theorem wq1018 : (Jvm.Cond.fieldLink "WeirStream$Outlet" (19 : Nat) "WeirStream$Outlet" "channels" "Ljava/util/ArrayList;") ∈ lw_all := lw_in (lw_tb (List.mem_of_getElem? (i := 1018) (by decide +kernel))) rfl
theorem wq1021 : (Jvm.Cond.laysFinal "WeirStream$Outlet" "WeirStream$Outlet" "items" "LWeirStream$Row;") ∈ lw_all := lw_in (lw_tb (List.mem_of_getElem? (i := 1021) (by decide +kernel))) rfl
theorem wq1023 : (Jvm.Cond.laysFinal "WeirStream$Outlet" "WeirStream$Outlet" "channels" "Ljava/util/ArrayList;") ∈ lw_all := lw_in (lw_tb (List.mem_of_getElem? (i := 1023) (by decide +kernel))) rfl
theorem wq1042 : (Jvm.Cond.fieldLink "WeirStream$Spans" (12 : Nat) "WeirStream$Spans" "names" "LWeirStream$Row;") ∈ lw_all := lw_in (lw_tb (List.mem_of_getElem? (i := 1042) (by decide +kernel))) rfl
theorem wq1043 : (Jvm.Cond.fieldLink "WeirStream$Spans" (18 : Nat) "WeirStream$Spans" "accounts" "LWeirStream$Row;") ∈ lw_all := lw_in (lw_tb (List.mem_of_getElem? (i := 1043) (by decide +kernel))) rfl
theorem wq1044 : (Jvm.Cond.laysFinal "WeirStream$Spans" "WeirStream$Spans" "names" "LWeirStream$Row;") ∈ lw_all := lw_in (lw_tb (List.mem_of_getElem? (i := 1044) (by decide +kernel))) rfl
theorem wq1046 : (Jvm.Cond.laysFinal "WeirStream$Spans" "WeirStream$Spans" "accounts" "LWeirStream$Row;") ∈ lw_all := lw_in (lw_tb (List.mem_of_getElem? (i := 1046) (by decide +kernel))) rfl
theorem wq1073 : (Jvm.Cond.fieldLink "WeirStream$State" (26 : Nat) "WeirStream$State" "spans" "LWeirStream$Spans;") ∈ lw_all := lw_in (lw_tb (List.mem_of_getElem? (i := 1073) (by decide +kernel))) rfl
theorem wq1076 : (Jvm.Cond.fieldLink "WeirStream$State" (33 : Nat) "WeirStream$State" "left" "LWeirStream$Row;") ∈ lw_all := lw_in (lw_tb (List.mem_of_getElem? (i := 1076) (by decide +kernel))) rfl
theorem wq1078 : (Jvm.Cond.fieldLink "WeirStream$State" (37 : Nat) "WeirStream$State" "right" "LWeirStream$Row;") ∈ lw_all := lw_in (lw_tb (List.mem_of_getElem? (i := 1078) (by decide +kernel))) rfl
theorem wq1080 : (Jvm.Cond.lays "WeirStream$State" "WeirStream$State" "mark" "I") ∈ lw_all := lw_in (lw_tb (List.mem_of_getElem? (i := 1080) (by decide +kernel))) rfl
theorem wq1082 : (Jvm.Cond.lays "WeirStream$State" "WeirStream$State" "firstMark" "I") ∈ lw_all := lw_in (lw_tb (List.mem_of_getElem? (i := 1082) (by decide +kernel))) rfl
theorem wq1084 : (Jvm.Cond.lays "WeirStream$State" "WeirStream$State" "secondMark" "I") ∈ lw_all := lw_in (lw_tb (List.mem_of_getElem? (i := 1084) (by decide +kernel))) rfl
theorem wq1086 : (Jvm.Cond.lays "WeirStream$State" "WeirStream$State" "tookSecond" "Z") ∈ lw_all := lw_in (lw_tb (List.mem_of_getElem? (i := 1086) (by decide +kernel))) rfl
theorem wq1088 : (Jvm.Cond.lays "WeirStream$State" "WeirStream$State" "taken" "I") ∈ lw_all := lw_in (lw_tb (List.mem_of_getElem? (i := 1088) (by decide +kernel))) rfl
theorem wq1090 : (Jvm.Cond.lays "WeirStream$State" "WeirStream$State" "emitted" "I") ∈ lw_all := lw_in (lw_tb (List.mem_of_getElem? (i := 1090) (by decide +kernel))) rfl
theorem wq1092 : (Jvm.Cond.lays "WeirStream$State" "WeirStream$State" "late" "I") ∈ lw_all := lw_in (lw_tb (List.mem_of_getElem? (i := 1092) (by decide +kernel))) rfl
theorem wq1094 : (Jvm.Cond.lays "WeirStream$State" "WeirStream$State" "outputCount" "I") ∈ lw_all := lw_in (lw_tb (List.mem_of_getElem? (i := 1094) (by decide +kernel))) rfl
theorem wq1096 : (Jvm.Cond.laysFinal "WeirStream$State" "WeirStream$State" "spans" "LWeirStream$Spans;") ∈ lw_all := lw_in (lw_tb (List.mem_of_getElem? (i := 1096) (by decide +kernel))) rfl
theorem wq1098 : (Jvm.Cond.laysFinal "WeirStream$State" "WeirStream$State" "left" "LWeirStream$Row;") ∈ lw_all := lw_in (lw_tb (List.mem_of_getElem? (i := 1098) (by decide +kernel))) rfl
theorem wq1100 : (Jvm.Cond.laysFinal "WeirStream$State" "WeirStream$State" "right" "LWeirStream$Row;") ∈ lw_all := lw_in (lw_tb (List.mem_of_getElem? (i := 1100) (by decide +kernel))) rfl
theorem wr939 : (Jvm.Cond.fieldLinkNest "WeirStream$Outlet" (46 : Nat) "WeirStream$Channel" "given" "I" "WeirStream") ∈ lw_tbl := lw_tb (List.mem_of_getElem? (i := 939) (by decide +kernel))
theorem ws5 : Cond.selects "WeirStream$Outlet" ⟨"WeirStream$Outlet", "leastGiven", "()I"⟩ ⟨"WeirStream$Outlet", "leastGiven", "()I"⟩ ∈ lw_all := lw_in (lw_ps (List.mem_of_getElem? (i := 5) (by decide +kernel))) rfl
theorem dX6_length_0 : decode cX6_length 0 = .ok (.aload_n 0, 1) := by decide +kernel
theorem dX6_length_1 : decode cX6_length 1 = .ok (.getfield 13, 3) := by decide +kernel
theorem dX6_length_4 : decode cX6_length 4 = .ok (.ireturn, 1) := by decide +kernel
theorem dX6_at_0 : decode cX6_at 0 = .ok (.iload_n 1, 1) := by decide +kernel
theorem dX6_at_1 : decode cX6_at 1 = .ok (.ifCond .lt 29, 3) := by decide +kernel
theorem dX6_at_30 : decode cX6_at 30 = .ok (.lconst 0, 1) := by decide +kernel
theorem dX6_at_31 : decode cX6_at 31 = .ok (.lreturn, 1) := by decide +kernel
theorem dX6_at_4 : decode cX6_at 4 = .ok (.iload_n 1, 1) := by decide +kernel
theorem dX6_at_5 : decode cX6_at 5 = .ok (.aload_n 0, 1) := by decide +kernel
theorem dX6_at_6 : decode cX6_at 6 = .ok (.getfield 13, 3) := by decide +kernel
theorem dX6_at_9 : decode cX6_at 9 = .ok (.if_icmp .ge 21, 3) := by decide +kernel
theorem dX6_at_12 : decode cX6_at 12 = .ok (.iload_n 1, 1) := by decide +kernel
theorem dX6_at_13 : decode cX6_at 13 = .ok (.aload_n 0, 1) := by decide +kernel
theorem dX6_at_14 : decode cX6_at 14 = .ok (.getfield 9, 3) := by decide +kernel
theorem dX6_at_17 : decode cX6_at 17 = .ok (.arraylength, 1) := by decide +kernel
theorem dX6_at_18 : decode cX6_at 18 = .ok (.if_icmp .ge 12, 3) := by decide +kernel
theorem dX6_at_21 : decode cX6_at 21 = .ok (.aload_n 0, 1) := by decide +kernel
theorem dX6_at_22 : decode cX6_at 22 = .ok (.getfield 9, 3) := by decide +kernel
theorem dX6_at_25 : decode cX6_at 25 = .ok (.iload_n 1, 1) := by decide +kernel
theorem dX6_at_26 : decode cX6_at 26 = .ok (.laload, 1) := by decide +kernel
theorem dX6_at_27 : decode cX6_at 27 = .ok (.goto 4, 3) := by decide +kernel
theorem dJ3_checkIndex_8e157_0 : decode cJ3_checkIndex_8e157 0 = .ok (.iload_n 0, 1) := by decide +kernel
theorem dJ3_checkIndex_8e157_1 : decode cJ3_checkIndex_8e157 1 = .ok (.ifCond .lt 8, 3) := by decide +kernel
theorem dJ3_checkIndex_8e157_4 : decode cJ3_checkIndex_8e157 4 = .ok (.iload_n 0, 1) := by decide +kernel
theorem dJ3_checkIndex_8e157_5 : decode cJ3_checkIndex_8e157 5 = .ok (.iload_n 1, 1) := by decide +kernel
theorem dJ3_checkIndex_8e157_6 : decode cJ3_checkIndex_8e157 6 = .ok (.if_icmp .lt 10, 3) := by decide +kernel
theorem dJ3_checkIndex_8e157_16 : decode cJ3_checkIndex_8e157 16 = .ok (.iload_n 0, 1) := by decide +kernel
theorem dJ3_checkIndex_8e157_17 : decode cJ3_checkIndex_8e157 17 = .ok (.ireturn, 1) := by decide +kernel
theorem dJ15_checkIndex_7cf53_0 : decode cJ15_checkIndex_7cf53 0 = .ok (.iload_n 0, 1) := by decide +kernel
theorem dJ15_checkIndex_7cf53_1 : decode cJ15_checkIndex_7cf53 1 = .ok (.iload_n 1, 1) := by decide +kernel
theorem dJ15_checkIndex_7cf53_2 : decode cJ15_checkIndex_7cf53 2 = .ok (.aconst_null, 1) := by decide +kernel
theorem dJ15_checkIndex_7cf53_3 : decode cJ15_checkIndex_7cf53 3 = .ok (.invokestatic 105, 3) := by decide +kernel
theorem dJ15_checkIndex_7cf53_6 : decode cJ15_checkIndex_7cf53 6 = .ok (.ireturn, 1) := by decide +kernel
theorem dJx4a65c_size_8abf5_0 : decode cJx4a65c_size_8abf5 0 = .ok (.aload_n 0, 1) := by decide +kernel
theorem dJx4a65c_size_8abf5_1 : decode cJx4a65c_size_8abf5 1 = .ok (.getfield 48, 3) := by decide +kernel
theorem dJx4a65c_size_8abf5_4 : decode cJx4a65c_size_8abf5 4 = .ok (.ireturn, 1) := by decide +kernel
theorem dJx4a65c_elementData_915e3_0 : decode cJx4a65c_elementData_915e3 0 = .ok (.aload_n 0, 1) := by decide +kernel
theorem dJx4a65c_elementData_915e3_1 : decode cJx4a65c_elementData_915e3 1 = .ok (.getfield 9, 3) := by decide +kernel
theorem dJx4a65c_elementData_915e3_4 : decode cJx4a65c_elementData_915e3 4 = .ok (.iload_n 1, 1) := by decide +kernel
theorem dJx4a65c_elementData_915e3_5 : decode cJx4a65c_elementData_915e3 5 = .ok (.aaload, 1) := by decide +kernel
theorem dJx4a65c_elementData_915e3_6 : decode cJx4a65c_elementData_915e3 6 = .ok (.areturn, 1) := by decide +kernel
theorem dJx4a65c_get_915e3_0 : decode cJx4a65c_get_915e3 0 = .ok (.iload_n 1, 1) := by decide +kernel
theorem dJx4a65c_get_915e3_1 : decode cJx4a65c_get_915e3 1 = .ok (.aload_n 0, 1) := by decide +kernel
theorem dJx4a65c_get_915e3_2 : decode cJx4a65c_get_915e3 2 = .ok (.getfield 48, 3) := by decide +kernel
theorem dJx4a65c_get_915e3_5 : decode cJx4a65c_get_915e3 5 = .ok (.invokestatic 118, 3) := by decide +kernel
theorem dJx4a65c_get_915e3_8 : decode cJx4a65c_get_915e3 8 = .ok (.pop, 1) := by decide +kernel
theorem dJx4a65c_get_915e3_9 : decode cJx4a65c_get_915e3 9 = .ok (.aload_n 0, 1) := by decide +kernel
theorem dJx4a65c_get_915e3_10 : decode cJx4a65c_get_915e3 10 = .ok (.iload_n 1, 1) := by decide +kernel
theorem dJx4a65c_get_915e3_11 : decode cJx4a65c_get_915e3 11 = .ok (.invokevirtual 123, 3) := by decide +kernel
theorem dJx4a65c_get_915e3_14 : decode cJx4a65c_get_915e3 14 = .ok (.areturn, 1) := by decide +kernel
theorem dX1_length_0 : decode cX1_length 0 = .ok (.aload_n 0, 1) := by decide +kernel
theorem dX1_length_1 : decode cX1_length 1 = .ok (.getfield 7, 3) := by decide +kernel
theorem dX1_length_4 : decode cX1_length 4 = .ok (.invokevirtual 13, 3) := by decide +kernel
theorem dX1_length_7 : decode cX1_length 7 = .ok (.aload_n 0, 1) := by decide +kernel
theorem dX1_length_8 : decode cX1_length 8 = .ok (.getfield 19, 3) := by decide +kernel
theorem dX1_length_11 : decode cX1_length 11 = .ok (.isub, 1) := by decide +kernel
theorem dX1_length_12 : decode cX1_length 12 = .ok (.ireturn, 1) := by decide +kernel
theorem dX1_canGive_0 : decode cX1_canGive 0 = .ok (.aload_n 0, 1) := by decide +kernel
theorem dX1_canGive_1 : decode cX1_canGive 1 = .ok (.getfield 23, 3) := by decide +kernel
theorem dX1_canGive_4 : decode cX1_canGive 4 = .ok (.ifCond .ne 14, 3) := by decide +kernel
theorem dX1_canGive_7 : decode cX1_canGive 7 = .ok (.aload_n 0, 1) := by decide +kernel
theorem dX1_canGive_8 : decode cX1_canGive 8 = .ok (.invokevirtual 27, 3) := by decide +kernel
theorem dX1_canGive_11 : decode cX1_canGive 11 = .ok (.ifCond .le 7, 3) := by decide +kernel
theorem dX1_canGive_18 : decode cX1_canGive 18 = .ok (.iconst 0, 1) := by decide +kernel
theorem dX1_canGive_19 : decode cX1_canGive 19 = .ok (.ireturn, 1) := by decide +kernel
theorem dX1_canGive_14 : decode cX1_canGive 14 = .ok (.iconst 1, 1) := by decide +kernel
theorem dX1_canGive_15 : decode cX1_canGive 15 = .ok (.goto 4, 3) := by decide +kernel
theorem dX4_leastGiven_10 : decode cX4_leastGiven 10 = .ok (.iload_n 2, 1) := by decide +kernel
theorem dX4_leastGiven_11 : decode cX4_leastGiven 11 = .ok (.aload_n 0, 1) := by decide +kernel
theorem dX4_leastGiven_12 : decode cX4_leastGiven 12 = .ok (.getfield 19, 3) := by decide +kernel
theorem dX4_leastGiven_15 : decode cX4_leastGiven 15 = .ok (.invokevirtual 39, 3) := by decide +kernel
theorem dX4_leastGiven_18 : decode cX4_leastGiven 18 = .ok (.if_icmp .ge 28, 3) := by decide +kernel
theorem dX4_leastGiven_46 : decode cX4_leastGiven 46 = .ok (.iload_n 1, 1) := by decide +kernel
theorem dX4_leastGiven_47 : decode cX4_leastGiven 47 = .ok (.ireturn, 1) := by decide +kernel
theorem dX4_leastGiven_21 : decode cX4_leastGiven 21 = .ok (.iload_n 1, 1) := by decide +kernel
theorem dX4_leastGiven_22 : decode cX4_leastGiven 22 = .ok (.aload_n 0, 1) := by decide +kernel
theorem dX4_leastGiven_23 : decode cX4_leastGiven 23 = .ok (.getfield 19, 3) := by decide +kernel
theorem dX4_leastGiven_26 : decode cX4_leastGiven 26 = .ok (.iload_n 2, 1) := by decide +kernel
theorem dX4_leastGiven_27 : decode cX4_leastGiven 27 = .ok (.invokevirtual 42, 3) := by decide +kernel
theorem dX4_leastGiven_30 : decode cX4_leastGiven 30 = .ok (.checkcast 23, 3) := by decide +kernel
theorem dX4_leastGiven_33 : decode cX4_leastGiven 33 = .ok (.getfield 46, 3) := by decide +kernel
theorem dX4_leastGiven_36 : decode cX4_leastGiven 36 = .ok (.invokestatic 50, 3) := by decide +kernel
theorem dX4_leastGiven_39 : decode cX4_leastGiven 39 = .ok (.istore_n 1, 1) := by decide +kernel
theorem dX4_leastGiven_40 : decode cX4_leastGiven 40 = .ok (.iinc 2 1, 3) := by decide +kernel
theorem dX4_leastGiven_43 : decode cX4_leastGiven 43 = .ok (.goto (-33), 3) := by decide +kernel
theorem dX4_leastGiven_0 : decode cX4_leastGiven 0 = .ok (.aload_n 0, 1) := by decide +kernel
theorem dX4_leastGiven_1 : decode cX4_leastGiven 1 = .ok (.getfield 10, 3) := by decide +kernel
theorem dX4_leastGiven_4 : decode cX4_leastGiven 4 = .ok (.invokevirtual 32, 3) := by decide +kernel
theorem dX4_leastGiven_7 : decode cX4_leastGiven 7 = .ok (.istore_n 1, 1) := by decide +kernel
theorem dX4_leastGiven_8 : decode cX4_leastGiven 8 = .ok (.iconst 0, 1) := by decide +kernel
theorem dX4_leastGiven_9 : decode cX4_leastGiven 9 = .ok (.istore_n 2, 1) := by decide +kernel
theorem dX4_isBelow_0 : decode cX4_isBelow 0 = .ok (.aload_n 0, 1) := by decide +kernel
theorem dX4_isBelow_1 : decode cX4_isBelow 1 = .ok (.getfield 10, 3) := by decide +kernel
theorem dX4_isBelow_4 : decode cX4_isBelow 4 = .ok (.invokevirtual 32, 3) := by decide +kernel
theorem dX4_isBelow_7 : decode cX4_isBelow 7 = .ok (.aload_n 0, 1) := by decide +kernel
theorem dX4_isBelow_8 : decode cX4_isBelow 8 = .ok (.invokevirtual 36, 3) := by decide +kernel
theorem dX4_isBelow_11 : decode cX4_isBelow 11 = .ok (.isub, 1) := by decide +kernel
theorem dX4_isBelow_12 : decode cX4_isBelow 12 = .ok (.iload_n 1, 1) := by decide +kernel
theorem dX4_isBelow_13 : decode cX4_isBelow 13 = .ok (.if_icmp .ge 7, 3) := by decide +kernel
theorem dX4_isBelow_20 : decode cX4_isBelow 20 = .ok (.iconst 0, 1) := by decide +kernel
theorem dX4_isBelow_21 : decode cX4_isBelow 21 = .ok (.ireturn, 1) := by decide +kernel
theorem dX4_isBelow_16 : decode cX4_isBelow 16 = .ok (.iconst 1, 1) := by decide +kernel
theorem dX4_isBelow_17 : decode cX4_isBelow 17 = .ok (.goto 4, 3) := by decide +kernel
theorem dX7_length_0 : decode cX7_length 0 = .ok (.aload_n 0, 1) := by decide +kernel
theorem dX7_length_1 : decode cX7_length 1 = .ok (.getfield 12, 3) := by decide +kernel
theorem dX7_length_4 : decode cX7_length 4 = .ok (.invokevirtual 21, 3) := by decide +kernel
theorem dX7_length_7 : decode cX7_length 7 = .ok (.ireturn, 1) := by decide +kernel
theorem dX7_endAt_0 : decode cX7_endAt 0 = .ok (.aload_n 0, 1) := by decide +kernel
theorem dX7_endAt_1 : decode cX7_endAt 1 = .ok (.getfield 12, 3) := by decide +kernel
theorem dX7_endAt_4 : decode cX7_endAt 4 = .ok (.iload_n 1, 1) := by decide +kernel
theorem dX7_endAt_5 : decode cX7_endAt 5 = .ok (.invokevirtual 25, 3) := by decide +kernel
theorem dX7_endAt_8 : decode cX7_endAt 8 = .ok (.bipush 29, 2) := by decide +kernel
theorem dX7_endAt_10 : decode cX7_endAt 10 = .ok (.lshr, 1) := by decide +kernel
theorem dX7_endAt_11 : decode cX7_endAt 11 = .ok (.l2i, 1) := by decide +kernel
theorem dX7_endAt_12 : decode cX7_endAt 12 = .ok (.ireturn, 1) := by decide +kernel
theorem dX7_keyAtPlace_0 : decode cX7_keyAtPlace 0 = .ok (.aload_n 0, 1) := by decide +kernel
theorem dX7_keyAtPlace_1 : decode cX7_keyAtPlace 1 = .ok (.getfield 12, 3) := by decide +kernel
theorem dX7_keyAtPlace_4 : decode cX7_keyAtPlace 4 = .ok (.iload_n 1, 1) := by decide +kernel
theorem dX7_keyAtPlace_5 : decode cX7_keyAtPlace 5 = .ok (.invokevirtual 25, 3) := by decide +kernel
theorem dX7_keyAtPlace_8 : decode cX7_keyAtPlace 8 = .ok (.bipush 21, 2) := by decide +kernel
theorem dX7_keyAtPlace_10 : decode cX7_keyAtPlace 10 = .ok (.lshr, 1) := by decide +kernel
theorem dX7_keyAtPlace_11 : decode cX7_keyAtPlace 11 = .ok (.ldc2_w 29, 3) := by decide +kernel
theorem dX7_keyAtPlace_14 : decode cX7_keyAtPlace 14 = .ok (.land, 1) := by decide +kernel
theorem dX7_keyAtPlace_15 : decode cX7_keyAtPlace 15 = .ok (.l2i, 1) := by decide +kernel
theorem dX7_keyAtPlace_16 : decode cX7_keyAtPlace 16 = .ok (.ireturn, 1) := by decide +kernel
theorem dX7_beginAt_0 : decode cX7_beginAt 0 = .ok (.aload_n 0, 1) := by decide +kernel
theorem dX7_beginAt_1 : decode cX7_beginAt 1 = .ok (.getfield 12, 3) := by decide +kernel
theorem dX7_beginAt_4 : decode cX7_beginAt 4 = .ok (.iload_n 1, 1) := by decide +kernel
theorem dX7_beginAt_5 : decode cX7_beginAt 5 = .ok (.invokevirtual 25, 3) := by decide +kernel
theorem dX7_beginAt_8 : decode cX7_beginAt 8 = .ok (.ldc2_w 31, 3) := by decide +kernel
theorem dX7_beginAt_11 : decode cX7_beginAt 11 = .ok (.land, 1) := by decide +kernel
theorem dX7_beginAt_12 : decode cX7_beginAt 12 = .ok (.l2i, 1) := by decide +kernel
theorem dX7_beginAt_13 : decode cX7_beginAt 13 = .ok (.sipush 1000, 3) := by decide +kernel
theorem dX7_beginAt_16 : decode cX7_beginAt 16 = .ok (.isub, 1) := by decide +kernel
theorem dX7_beginAt_17 : decode cX7_beginAt 17 = .ok (.ireturn, 1) := by decide +kernel
theorem dX7_accountAtPlace_0 : decode cX7_accountAtPlace 0 = .ok (.aload_n 0, 1) := by decide +kernel
theorem dX7_accountAtPlace_1 : decode cX7_accountAtPlace 1 = .ok (.getfield 18, 3) := by decide +kernel
theorem dX7_accountAtPlace_4 : decode cX7_accountAtPlace 4 = .ok (.iload_n 1, 1) := by decide +kernel
theorem dX7_accountAtPlace_5 : decode cX7_accountAtPlace 5 = .ok (.invokevirtual 25, 3) := by decide +kernel
theorem dX7_accountAtPlace_8 : decode cX7_accountAtPlace 8 = .ok (.lreturn, 1) := by decide +kernel
theorem dX7_isAt_0 : decode cX7_isAt 0 = .ok (.iload_n 1, 1) := by decide +kernel
theorem dX7_isAt_1 : decode cX7_isAt 1 = .ok (.aload_n 0, 1) := by decide +kernel
theorem dX7_isAt_2 : decode cX7_isAt 2 = .ok (.getfield 12, 3) := by decide +kernel
theorem dX7_isAt_5 : decode cX7_isAt 5 = .ok (.invokevirtual 21, 3) := by decide +kernel
theorem dX7_isAt_8 : decode cX7_isAt 8 = .ok (.if_icmp .ge 20, 3) := by decide +kernel
theorem dX7_isAt_28 : decode cX7_isAt 28 = .ok (.iconst 0, 1) := by decide +kernel
theorem dX7_isAt_29 : decode cX7_isAt 29 = .ok (.ireturn, 1) := by decide +kernel
theorem dX7_isAt_11 : decode cX7_isAt 11 = .ok (.aload_n 0, 1) := by decide +kernel
theorem dX7_isAt_12 : decode cX7_isAt 12 = .ok (.getfield 12, 3) := by decide +kernel
theorem dX7_isAt_15 : decode cX7_isAt 15 = .ok (.iload_n 1, 1) := by decide +kernel
theorem dX7_isAt_16 : decode cX7_isAt 16 = .ok (.invokevirtual 25, 3) := by decide +kernel
theorem dX7_isAt_19 : decode cX7_isAt 19 = .ok (.lload_n 2, 1) := by decide +kernel
theorem dX7_isAt_20 : decode cX7_isAt 20 = .ok (.lcmp, 1) := by decide +kernel
theorem dX7_isAt_21 : decode cX7_isAt 21 = .ok (.ifCond .ne 7, 3) := by decide +kernel
theorem dX7_isAt_24 : decode cX7_isAt 24 = .ok (.iconst 1, 1) := by decide +kernel
theorem dX7_isAt_25 : decode cX7_isAt 25 = .ok (.goto 4, 3) := by decide +kernel
theorem dX9_keptCount_0 : decode cX9_keptCount 0 = .ok (.aload_n 0, 1) := by decide +kernel
theorem dX9_keptCount_1 : decode cX9_keptCount 1 = .ok (.getfield 26, 3) := by decide +kernel
theorem dX9_keptCount_4 : decode cX9_keptCount 4 = .ok (.invokevirtual 40, 3) := by decide +kernel
theorem dX9_keptCount_7 : decode cX9_keptCount 7 = .ok (.aload_n 0, 1) := by decide +kernel
theorem dX9_keptCount_8 : decode cX9_keptCount 8 = .ok (.getfield 33, 3) := by decide +kernel
theorem dX9_keptCount_11 : decode cX9_keptCount 11 = .ok (.invokevirtual 44, 3) := by decide +kernel
theorem dX9_keptCount_14 : decode cX9_keptCount 14 = .ok (.iadd, 1) := by decide +kernel
theorem dX9_keptCount_15 : decode cX9_keptCount 15 = .ok (.aload_n 0, 1) := by decide +kernel
theorem dX9_keptCount_16 : decode cX9_keptCount 16 = .ok (.getfield 37, 3) := by decide +kernel
theorem dX9_keptCount_19 : decode cX9_keptCount 19 = .ok (.invokevirtual 44, 3) := by decide +kernel
theorem dX9_keptCount_22 : decode cX9_keptCount 22 = .ok (.iadd, 1) := by decide +kernel
theorem dX9_keptCount_23 : decode cX9_keptCount 23 = .ok (.ireturn, 1) := by decide +kernel
theorem iX1 : ∀ w ∈ u_ws RX1 TX1 3, w ∈ lw_all := by
  intro w hw
  have h : w ∈ [(Jvm.Cond.laysFinal "WeirStream$Channel" "WeirStream$Channel" "items" "LWeirStream$Row;"), (Jvm.Cond.lays "WeirStream$Channel" "WeirStream$Channel" "given" "I"), (Jvm.Cond.lays "WeirStream$Channel" "WeirStream$Channel" "isShut" "Z")] := hw
  simp only [List.mem_cons, List.not_mem_nil, or_false] at h
  rcases h with rfl | rfl | rfl
  · exact wq944
  · exact wq946
  · exact wq948
theorem dfX1 : ∀ j, j < 3 → defaultValue (tyX1 j) = vp_V [.null, .int 0, .int 0] j := by
  intro j hj
  rcases (show j = 0 ∨ j = 1 ∨ j = 2 by omega) with rfl | rfl | rfl <;> rfl
theorem iX4 : ∀ w ∈ u_ws RX4 TX4 2, w ∈ lw_all := by
  intro w hw
  have h : w ∈ [(Jvm.Cond.laysFinal "WeirStream$Outlet" "WeirStream$Outlet" "items" "LWeirStream$Row;"), (Jvm.Cond.laysFinal "WeirStream$Outlet" "WeirStream$Outlet" "channels" "Ljava/util/ArrayList;")] := hw
  simp only [List.mem_cons, List.not_mem_nil, or_false] at h
  rcases h with rfl | rfl
  · exact wq1021
  · exact wq1023
theorem dfX4 : ∀ j, j < 2 → defaultValue (tyX4 j) = vp_V [.null, .null] j := by
  intro j hj
  rcases (show j = 0 ∨ j = 1 by omega) with rfl | rfl <;> rfl
theorem iX6 : ∀ w ∈ u_ws RX6 TX6 2, w ∈ lw_all := by
  intro w hw
  have h : w ∈ [(Jvm.Cond.lays "WeirStream$Row" "WeirStream$Row" "cells" "[J"), (Jvm.Cond.lays "WeirStream$Row" "WeirStream$Row" "length" "I")] := hw
  simp only [List.mem_cons, List.not_mem_nil, or_false] at h
  rcases h with rfl | rfl
  · exact wq915
  · exact wq917
theorem dfX6 : ∀ j, j < 2 → defaultValue (tyX6 j) = vp_V [.null, .int 0] j := by
  intro j hj
  rcases (show j = 0 ∨ j = 1 by omega) with rfl | rfl <;> rfl
theorem iX7 : ∀ w ∈ u_ws RX7 TX7 2, w ∈ lw_all := by
  intro w hw
  have h : w ∈ [(Jvm.Cond.laysFinal "WeirStream$Spans" "WeirStream$Spans" "names" "LWeirStream$Row;"), (Jvm.Cond.laysFinal "WeirStream$Spans" "WeirStream$Spans" "accounts" "LWeirStream$Row;")] := hw
  simp only [List.mem_cons, List.not_mem_nil, or_false] at h
  rcases h with rfl | rfl
  · exact wq1044
  · exact wq1046
theorem dfX7 : ∀ j, j < 2 → defaultValue (tyX7 j) = vp_V [.null, .null] j := by
  intro j hj
  rcases (show j = 0 ∨ j = 1 by omega) with rfl | rfl <;> rfl
theorem iX9 : ∀ w ∈ u_ws RX9 TX9 11, w ∈ lw_all := by
  intro w hw
  have h : w ∈ [(Jvm.Cond.lays "WeirStream$State" "WeirStream$State" "mark" "I"), (Jvm.Cond.lays "WeirStream$State" "WeirStream$State" "firstMark" "I"), (Jvm.Cond.lays "WeirStream$State" "WeirStream$State" "secondMark" "I"), (Jvm.Cond.lays "WeirStream$State" "WeirStream$State" "tookSecond" "Z"), (Jvm.Cond.lays "WeirStream$State" "WeirStream$State" "taken" "I"), (Jvm.Cond.lays "WeirStream$State" "WeirStream$State" "emitted" "I"), (Jvm.Cond.lays "WeirStream$State" "WeirStream$State" "late" "I"), (Jvm.Cond.lays "WeirStream$State" "WeirStream$State" "outputCount" "I"), (Jvm.Cond.laysFinal "WeirStream$State" "WeirStream$State" "spans" "LWeirStream$Spans;"), (Jvm.Cond.laysFinal "WeirStream$State" "WeirStream$State" "left" "LWeirStream$Row;"), (Jvm.Cond.laysFinal "WeirStream$State" "WeirStream$State" "right" "LWeirStream$Row;")] := hw
  simp only [List.mem_cons, List.not_mem_nil, or_false] at h
  rcases h with rfl | rfl | rfl | rfl | rfl | rfl | rfl | rfl | rfl | rfl | rfl
  · exact wq1080
  · exact wq1082
  · exact wq1084
  · exact wq1086
  · exact wq1088
  · exact wq1090
  · exact wq1092
  · exact wq1094
  · exact wq1096
  · exact wq1098
  · exact wq1100
theorem dfX9 : ∀ j, j < 11 → defaultValue (tyX9 j) = vp_V [.int 0, .int 0, .int 0, .int 0, .int 0, .int 0, .int 0, .int 0, .null, .null, .null] j := by
  intro j hj
  rcases (show j = 0 ∨ j = 1 ∨ j = 2 ∨ j = 3 ∨ j = 4 ∨ j = 5 ∨ j = 6 ∨ j = 7 ∨ j = 8 ∨ j = 9 ∨ j = 10 by omega) with rfl | rfl | rfl | rfl | rfl | rfl | rfl | rfl | rfl | rfl | rfl <;> rfl
theorem iJx4a65c : ∀ w ∈ u_ws RJx4a65c TJx4a65c 3, w ∈ lw_all := by
  intro w hw
  have h : w ∈ [(Jvm.Cond.lays "java/util/ArrayList" "java/util/AbstractList" "modCount" "I"), (Jvm.Cond.lays "java/util/ArrayList" "java/util/ArrayList" "elementData" "[Ljava/lang/Object;"), (Jvm.Cond.lays "java/util/ArrayList" "java/util/ArrayList" "size" "I")] := hw
  simp only [List.mem_cons, List.not_mem_nil, or_false] at h
  rcases h with rfl | rfl | rfl
  · exact wq64
  · exact wq60
  · exact wq62
theorem dfJx4a65c : ∀ j, j < 3 → defaultValue (tyJx4a65c j) = vp_V [.int 0, .null, .int 0] j := by
  intro j hj
  rcases (show j = 0 ∨ j = 1 ∨ j = 2 by omega) with rfl | rfl | rfl <;> rfl
end
section
def v_X6_length (S : TS) (F : TF) (G : TG) (q : TQ) (i : Nat) : Int32 := nI (q i).2.length
set_option maxHeartbeats 4000000 in
set_option maxRecDepth 100000 in
theorem k_X6_length (l : Launch) (D : va_G) (yc : Nat → ClassId) (e0 : Nat) (A : Nat → Prop) (S : TS) (Z : Nat × Nat) (F : TF) (G : TG) (q : TQ) (i : Nat) (hi : dr S i) : Met l yX6_length (ws_ yX6_length cX6_length 1 (some .int)) ({ frames := 0, cells := 0, slots := 0, locals := 0 }) (PT D yc e0 A S Z F G q [.ref (zr S i)]) (zQ (some (.int (v_X6_length S F G q i)))) 0 0 zno := by
  refine tk_M (by decide) (Nat.le_of_ble_eq_true rfl) ?_
  intro p e s m args below meth c ls hx hb hml hr hlk hown hts hW hS hA hC hl
  have hK := hC.1
  have hN := hC.2.1
  have hn12 := hW.n12
  have hl : lv_has ls 1 [(0, .ref (zr S i))] := hl
  refine lv_aload_n hx hb dX6_length_0 rfl (lv_at hl 0 rfl) ?_
  obtain ⟨x_i, f_i, hr1_i, hr2_i, hr3_i, hr4_i, hr5_i⟩ := hW.row (i := i) hi
  refine va_get (D := D) (ci := 5) (v := .int (nI (q i).2.length)) (C := RX6) (T := TX6) (N := 2) hx hb hts iX6 hown hK (va_P_one hr1_i) 0 rfl rfl 1 (by decide) (hts _ wq914) (fun _ h9 => h9) rfl dX6_length_1 ?_
  exact ze_i hx hb hr hlk rfl (by rfl) dX6_length_4
def v_X6_at (S : TS) (F : TF) (G : TG) (q : TQ) (i : Nat) (j : Int32) : Int64 := if j < 0 then 0 else if (nI (q i).2.length) ≤ j then 0 else if (nI (q i).1) ≤ j then 0 else (q i).2.getD (j : Int32).toNatClampNeg 0
set_option maxHeartbeats 4000000 in
set_option maxRecDepth 100000 in
theorem k_X6_at (l : Launch) (D : va_G) (yc : Nat → ClassId) (e0 : Nat) (A : Nat → Prop) (S : TS) (Z : Nat × Nat) (F : TF) (G : TG) (q : TQ) (i : Nat) (j : Int32) (hi : dr S i) : Met l yX6_at (ws_ yX6_at cX6_at 2 (some .long)) ({ frames := 0, cells := 0, slots := 0, locals := 0 }) (PT D yc e0 A S Z F G q [.ref (zr S i), .int j]) (zQ (some (.long (v_X6_at S F G q i j)))) 0 0 zno := by
  refine tk_M (by decide) (Nat.le_of_ble_eq_true rfl) ?_
  intro p e s m args below meth c ls hx hb hml hr hlk hown hts hW hS hA hC hl
  have hK := hC.1
  have hN := hC.2.1
  have hn12 := hW.n12
  have hl : lv_has ls 2 [(0, .ref (zr S i)), (1, .int j)] := hl
  refine lv_iload_n hx hb dX6_at_0 rfl (lv_at hl 1 rfl) ?_
  refine lv_if_lt (tgt := 30) hx hb dX6_at_1 (by decide) (fun hb1 => ?_) (fun hb1 => ?_)
  · refine lv_lconst (v := 0) hx hb dX6_at_30 (by decide) ?_
    exact ze_l hx hb hr hlk (by unfold v_X6_at; rw [if_pos hb1]) dX6_at_31
  · refine lv_iload_n hx hb dX6_at_4 rfl (lv_at hl 1 rfl) ?_
    refine lv_aload_n hx hb dX6_at_5 rfl (lv_at hl 0 rfl) ?_
    obtain ⟨x_i, f_i, hr1_i, hr2_i, hr3_i, hr4_i, hr5_i⟩ := hW.row (i := i) hi
    refine va_get (D := D) (ci := 5) (v := .int (nI (q i).2.length)) (C := RX6) (T := TX6) (N := 2) hx hb hts iX6 hown hK (va_P_one hr1_i) 0 rfl rfl 1 (by decide) (hts _ wq914) (fun _ h9 => h9) rfl dX6_at_6 ?_
    refine lv_icmp_ge (tgt := 30) hx hb dX6_at_9 (by decide) (fun hb2 => ?_) (fun hb2 => ?_)
    · refine lv_lconst (v := 0) hx hb dX6_at_30 (by decide) ?_
      exact ze_l hx hb hr hlk (by unfold v_X6_at; rw [if_neg hb1, if_pos hb2]) dX6_at_31
    · refine lv_iload_n hx hb dX6_at_12 rfl (lv_at hl 1 rfl) ?_
      refine lv_aload_n hx hb dX6_at_13 rfl (lv_at hl 0 rfl) ?_
      refine va_get (D := D) (ci := 5) (v := .ref x_i) (C := RX6) (T := TX6) (N := 2) hx hb hts iX6 hown hK (va_P_one hr1_i) 0 rfl rfl 0 (by decide) (hts _ wq913) (fun _ h9 => h9) rfl dX6_at_14 ?_
      refine va_alen hx hb hK (va_P_one hr2_i) 0 1 rfl rfl (v := nI (q i).1) rfl dX6_at_17 ?_
      refine lv_icmp_ge (tgt := 30) hx hb dX6_at_18 (by decide) (fun hb3 => ?_) (fun hb3 => ?_)
      · refine lv_lconst (v := 0) hx hb dX6_at_30 (by decide) ?_
        exact ze_l hx hb hr hlk (by unfold v_X6_at; rw [if_neg hb1, if_neg hb2, if_pos hb3]) dX6_at_31
      · refine lv_aload_n hx hb dX6_at_21 rfl (lv_at hl 0 rfl) ?_
        refine va_get (D := D) (ci := 5) (v := .ref x_i) (C := RX6) (T := TX6) (N := 2) hx hb hts iX6 hown hK (va_P_one hr1_i) 0 rfl rfl 0 (by decide) (hts _ wq913) (fun _ h9 => h9) rfl dX6_at_22 ?_
        refine lv_iload_n hx hb dX6_at_25 rfl (lv_at hl 1 rfl) ?_
        refine va_lald hx hb hK (va_P_one hr2_i) 0 1 rfl rfl (zin (by assumption) (by assumption) (zcap hr5_i)) dX6_at_26 ?_
        refine zk_tl (y := (q i).2.getD (j : Int32).toNatClampNeg 0) (zrow hr4_i (by assumption) (by assumption) (by have h9 := zcap hr5_i; omega)) ?_
        refine lv_goto (tgt := 31) hx hb dX6_at_27 (by decide) ?_
        exact ze_l hx hb hr hlk (by unfold v_X6_at; rw [if_neg hb1, if_neg hb2, if_neg hb3]) dX6_at_31
def v_J3_checkIndex (i1 : Int32) (i2 : Int32) : Int32 := i1
set_option maxHeartbeats 4000000 in
set_option maxRecDepth 100000 in
theorem k_J3_checkIndex (l : Launch) (i1 : Int32) (i2 : Int32) (h1 : ¬ i1 < 0) (h2 : i1 < i2) : Met l yJ3_checkIndex_8e157 (ws_ yJ3_checkIndex_8e157 cJ3_checkIndex_8e157 3 (some .int)) ({ frames := 0, cells := 0, slots := 0, locals := 0 }) (PN [.int i1, .int i2, .null]) (zQ (some (.int (v_J3_checkIndex i1 i2)))) 0 0 zno := by
  refine tk_N (by decide) (Nat.le_of_ble_eq_true rfl) ?_
  intro p e s m args below meth c ls hx hb hml hr hlk hown hts hl
  have hl : lv_has ls 3 [(0, .int i1), (1, .int i2), (2, .null)] := hl
  refine lv_iload_n hx hb dJ3_checkIndex_8e157_0 rfl (lv_at hl 0 rfl) ?_
  refine lv_if_lt (tgt := 9) hx hb dJ3_checkIndex_8e157_1 (by decide) (fun h9 => absurd h9 h1) (fun _ => ?_)
  refine lv_iload_n hx hb dJ3_checkIndex_8e157_4 rfl (lv_at hl 0 rfl) ?_
  refine lv_iload_n hx hb dJ3_checkIndex_8e157_5 rfl (lv_at hl 1 rfl) ?_
  refine lv_icmp_lt (tgt := 16) hx hb dJ3_checkIndex_8e157_6 (by decide) (fun _ => ?_) (fun h9 => absurd h2 h9)
  refine lv_iload_n hx hb dJ3_checkIndex_8e157_16 rfl (lv_at hl 0 rfl) ?_
  exact ze_i hx hb hr hlk rfl (by rfl) dJ3_checkIndex_8e157_17
def v_J15_checkIndex (i1 : Int32) (i2 : Int32) : Int32 := v_J3_checkIndex i1 i2
set_option maxHeartbeats 4000000 in
set_option maxRecDepth 100000 in
theorem k_J15_checkIndex (l : Launch) (i1 : Int32) (i2 : Int32) (h1 : ¬ i1 < 0) (h2 : i1 < i2) : Met l yJ15_checkIndex_7cf53 (ws_ yJ15_checkIndex_7cf53 cJ15_checkIndex_7cf53 2 (some .int)) ({ frames := 1, cells := 0, slots := 0, locals := 22 }) (PN [.int i1, .int i2]) (zQ (some (.int (v_J15_checkIndex i1 i2)))) 0 0 zno := by
  refine tk_N (by decide) (Nat.le_of_ble_eq_true rfl) ?_
  intro p e s m args below meth c ls hx hb hml hr hlk hown hts hl
  have hl : lv_has ls 2 [(0, .int i1), (1, .int i2)] := hl
  refine lv_iload_n hx hb dJ15_checkIndex_7cf53_0 rfl (lv_at hl 0 rfl) ?_
  refine lv_iload_n hx hb dJ15_checkIndex_7cf53_1 rfl (lv_at hl 1 rfl) ?_
  refine lv_null hx hb dJ15_checkIndex_7cf53_2 ?_
  refine zr_i (va_runS (As := [.int i1, .int i2, .null]) (rest := []) ⟨hx, hb, hml, hown, hts⟩ (k_J3_checkIndex l i1 i2 (by first | assumption | omega | decide) (by first | assumption | omega | decide)) (va_cwS 3 hts (lw_S wq234 wq235 wq13 wq236) rfl rfl rfl (by decide +kernel) ⟨(Nat.le_of_ble_eq_true rfl), (Nat.le_of_ble_eq_true rfl)⟩) tp_N rfl rfl hl.1 rfl (lv_room (Nat.le_of_ble_eq_true rfl)) dJ15_checkIndex_7cf53_3 ⟨(Nat.le_of_ble_eq_true rfl), (Nat.le_of_ble_eq_true rfl)⟩) ?_
  exact ze_i hx hb hr hlk rfl (by rfl) dJ15_checkIndex_7cf53_6
def v_AL_size (S : TS) (F : TF) (G : TG) (q : TQ) (b : Nat) (fl : Nat) (k : Nat) : Int32 := nI (lln S b k)
set_option maxHeartbeats 4000000 in
set_option maxRecDepth 100000 in
theorem k_AL_size (l : Launch) (D : va_G) (yc : Nat → ClassId) (e0 : Nat) (A : Nat → Prop) (S : TS) (Z : Nat × Nat) (F : TF) (G : TG) (q : TQ) (b : Nat) (fl : Nat) (k : Nat) (hl0 : dl S b fl k) : Met l yJx4a65c_size_8abf5 (ws_ yJx4a65c_size_8abf5 cJx4a65c_size_8abf5 1 (some .int)) ({ frames := 0, cells := 0, slots := 0, locals := 0 }) (PT D yc e0 A S Z F G q [.ref (zl S b fl k)]) (zQ (some (.int (v_AL_size S F G q b fl k)))) 0 0 zno := by
  refine tk_M (by decide) (Nat.le_of_ble_eq_true rfl) ?_
  intro p e s m args below meth c ls hx hb hml hr hlk hown hts hW hS hA hC hl
  have hK := hC.1
  have hN := hC.2.1
  have hn12 := hW.n12
  have hl : lv_has ls 1 [(0, .ref (zl S b fl k))] := hl
  refine lv_aload_n hx hb dJx4a65c_size_8abf5_0 rfl (lv_at hl 0 rfl) ?_
  obtain ⟨mc9, x9, ho9⟩ := hW.lobj hl0
  refine va_get (D := D) (ci := 0) (v := .int (nI (lln S b k))) (C := RJx4a65c) (T := TJx4a65c) (N := 3) hx hb hts iJx4a65c hown hK (va_P_one ho9) 0 rfl rfl 2 (by decide) (hts _ wq56) (fun _ h9 => h9) rfl dJx4a65c_size_8abf5_1 ?_
  exact ze_i hx hb hr hlk rfl (by rfl) dJx4a65c_size_8abf5_4
def v_AL_elementData (S : TS) (F : TF) (G : TG) (q : TQ) (b : Nat) (fl : Nat) (k : Nat) (i : Nat) : Value := (.ref (lat S b fl k i))
set_option maxHeartbeats 4000000 in
set_option maxRecDepth 100000 in
theorem k_AL_elementData (l : Launch) (D : va_G) (yc : Nat → ClassId) (e0 : Nat) (A : Nat → Prop) (S : TS) (Z : Nat × Nat) (F : TF) (G : TG) (q : TQ) (b : Nat) (fl : Nat) (k : Nat) (i : Nat) (hl0 : dl S b fl k) (hi : i < lln S b k) : Met l yJx4a65c_elementData_915e3 (ws_ yJx4a65c_elementData_915e3 cJx4a65c_elementData_915e3 2 (some (.object "java/lang/Object"))) ({ frames := 0, cells := 0, slots := 0, locals := 0 }) (PT D yc e0 A S Z F G q [.ref (zl S b fl k), .int (nI i)]) (zQ (some ((v_AL_elementData S F G q b fl k i)))) 0 0 zno := by
  refine tk_M (by decide) (Nat.le_of_ble_eq_true rfl) ?_
  intro p e s m args below meth c ls hx hb hml hr hlk hown hts hW hS hA hC hl
  have hK := hC.1
  have hN := hC.2.1
  have hn12 := hW.n12
  have hlln := lln_le (S := S) (b := b) (k := k) hn12
  rcases hW.list hl0 with ⟨h1, -⟩ | ⟨mc9, x9, cap9, f9, ho9, ha9, hlc9, hcp9, hf9⟩
  · exact absurd hi (by omega)
  have hl : lv_has ls 2 [(0, .ref (zl S b fl k)), (1, .int (nI i))] := hl
  refine lv_aload_n hx hb dJx4a65c_elementData_915e3_0 rfl (lv_at hl 0 rfl) ?_
  refine va_get (D := D) (ci := 0) (v := .ref x9) (C := RJx4a65c) (T := TJx4a65c) (N := 3) hx hb hts iJx4a65c hown hK (va_P_one ho9) 0 rfl rfl 1 (by decide) (hts _ wq55) (fun _ h9 => h9) rfl dJx4a65c_elementData_915e3_1 ?_
  refine lv_iload_n hx hb dJx4a65c_elementData_915e3_4 rfl (lv_at hl 1 rfl) ?_
  refine va_aldq hx hb hK (va_P_one ha9) 0 2 rfl rfl (vp_in_nI (by omega) (by omega)) dJx4a65c_elementData_915e3_5 ?_
  refine zk_tv (y := .ref (lat S b fl k i)) (by rw [nI_clamp (by omega), hf9 i (by omega)]; rfl) ?_
  exact ze_q hx hb hr (by first | exact Or.inl ⟨_, rfl⟩ | exact Or.inr ⟨_, rfl⟩) hlk (by first | exact Or.inl rfl | exact Or.inr ⟨_, rfl⟩ | exact zch_or _ _ _ _) (by rfl) dJx4a65c_elementData_915e3_6
def v_AL_get (S : TS) (F : TF) (G : TG) (q : TQ) (b : Nat) (fl : Nat) (k : Nat) (i : Nat) : Value := (.ref (lat S b fl k i))
set_option maxHeartbeats 4000000 in
set_option maxRecDepth 100000 in
theorem k_AL_get (l : Launch) (D : va_G) (yc : Nat → ClassId) (e0 : Nat) (A : Nat → Prop) (S : TS) (Z : Nat × Nat) (F : TF) (G : TG) (q : TQ) (b : Nat) (fl : Nat) (k : Nat) (i : Nat) (hl0 : dl S b fl k) (hi : i < lln S b k) : Met l yJx4a65c_get_915e3 (ws_ yJx4a65c_get_915e3 cJx4a65c_get_915e3 2 (some (.object "java/lang/Object"))) ({ frames := 2, cells := 0, slots := 0, locals := 43 }) (PT D yc e0 A S Z F G q [.ref (zl S b fl k), .int (nI i)]) (zQ (some ((v_AL_get S F G q b fl k i)))) 0 0 zno := by
  refine tk_M (by decide) (Nat.le_of_ble_eq_true rfl) ?_
  intro p e s m args below meth c ls hx hb hml hr hlk hown hts hW hS hA hC hl
  have hK := hC.1
  have hN := hC.2.1
  have hn12 := hW.n12
  have hlln := lln_le (S := S) (b := b) (k := k) hn12
  have hl : lv_has ls 2 [(0, .ref (zl S b fl k)), (1, .int (nI i))] := hl
  refine lv_iload_n hx hb dJx4a65c_get_915e3_0 rfl (lv_at hl 1 rfl) ?_
  refine lv_aload_n hx hb dJx4a65c_get_915e3_1 rfl (lv_at hl 0 rfl) ?_
  obtain ⟨mc9, x9, ho9⟩ := hW.lobj hl0
  refine va_get (D := D) (ci := 0) (v := .int (nI (lln S b k))) (C := RJx4a65c) (T := TJx4a65c) (N := 3) hx hb hts iJx4a65c hown hK (va_P_one ho9) 0 rfl rfl 2 (by decide) (hts _ wq56) (fun _ h9 => h9) rfl dJx4a65c_get_915e3_2 ?_
  refine zr_i (va_runS (As := [.int (nI i), .int (nI (lln S b k))]) (rest := []) ⟨hx, hb, hml, hown, hts⟩ (k_J15_checkIndex l (nI i) (nI (lln S b k)) (nI_pos (by omega)) (nI_lt hi (by omega))) (va_cwS 2 hts (lw_S wq231 wq232 wq12 wq233) rfl rfl rfl (by decide +kernel) ⟨(Nat.le_of_ble_eq_true rfl), (Nat.le_of_ble_eq_true rfl)⟩) tp_N rfl rfl hl.1 rfl (lv_room (Nat.le_of_ble_eq_true rfl)) dJx4a65c_get_915e3_5 ⟨(Nat.le_of_ble_eq_true rfl), (Nat.le_of_ble_eq_true rfl)⟩) ?_
  refine lv_pop hx hb dJx4a65c_get_915e3_8 rfl ?_
  refine lv_aload_n hx hb dJx4a65c_get_915e3_9 rfl (lv_at hl 0 rfl) ?_
  refine lv_iload_n hx hb dJx4a65c_get_915e3_10 rfl (lv_at hl 1 rfl) ?_
  refine zr_q (va_runV (As := [.int (nI i)]) (rest := []) ⟨hx, hb, hml, hown, hts⟩ (k_AL_elementData l D yc e0 A S Z F G q b fl k i hl0 (by first | assumption | omega | decide)) (cwV 1 hts (lw_V wq237 wq238 wq239 wq5 wq240) rfl rfl rfl (by decide +kernel) ⟨(Nat.le_of_ble_eq_true rfl), (Nat.le_of_ble_eq_true rfl)⟩) (tp_L hC hW hS hA b fl k hl0) rfl rfl hl.1 rfl (lv_room (Nat.le_of_ble_eq_true rfl)) dJx4a65c_get_915e3_11 ⟨(Nat.le_of_ble_eq_true rfl), (Nat.le_of_ble_eq_true rfl)⟩) ?_
  exact ze_q hx hb hr (by first | exact Or.inl ⟨_, rfl⟩ | exact Or.inr ⟨_, rfl⟩) hlk (by first | exact Or.inl rfl | exact Or.inr ⟨_, rfl⟩ | exact zch_or _ _ _ _) (by rfl) dJx4a65c_get_915e3_14
def v_X1_length (S : TS) (F : TF) (G : TG) (q : TQ) (kd : Nat) (fl : Nat) (k : Nat) : Int32 := (v_X6_length S F G q (ri fl (zsrc S (kd - 4) k))) - (F kd fl k 1)
set_option maxHeartbeats 4000000 in
set_option maxRecDepth 100000 in
theorem k_X1_length (l : Launch) (D : va_G) (yc : Nat → ClassId) (e0 : Nat) (A : Nat → Prop) (S : TS) (Z : Nat × Nat) (F : TF) (G : TG) (q : TQ) (kd : Nat) (fl : Nat) (k : Nat) (hkd : kd = 4 ∨ kd = 5) (hd : dm S kd fl k) : Met l yX1_length (ws_ yX1_length cX1_length 1 (some .int)) ({ frames := 1, cells := 0, slots := 0, locals := 20 }) (PT D yc e0 A S Z F G q [.ref (zg S kd fl k)]) (zQ (some (.int (v_X1_length S F G q kd fl k)))) 0 0 zno := by
  refine tk_M (by decide) (Nat.le_of_ble_eq_true rfl) ?_
  intro p e s m args below meth c ls hx hb hml hr hlk hown hts hW hS hA hC hl
  have hK := hC.1
  have hN := hC.2.1
  have hn12 := hW.n12
  obtain ⟨hcf, hck, hcs⟩ := hW.csrc hkd hd
  have hl : lv_has ls 1 [(0, .ref (zg S kd fl k))] := hl
  refine lv_aload_n hx hb dX1_length_0 rfl (lv_at hl 0 rfl) ?_
  refine t_get (D := D) (ci := 1) (v := .ref (zr S (ri fl (zsrc S (kd - 4) k)))) (C := RX1) (T := TX1) (N := 3) hx hb hts iX1 hown hK hW kd fl k hd (cel_ch hkd) rfl 0 (by decide) (hts _ wq937) (fun _ h9 => h9) rfl dX1_length_1 ?_
  refine zr_i (va_runV (As := []) (rest := []) ⟨hx, hb, hml, hown, hts⟩ (k_X6_length l D yc e0 A S Z F G q (ri fl (zsrc S (kd - 4) k)) (dr_i hW.n12 (by assumption) (by assumption))) (cwV 0 hts (lw_V wq312 wq266 wq267 wq15 wq268) rfl rfl rfl (by decide +kernel) ⟨(Nat.le_of_ble_eq_true rfl), (Nat.le_of_ble_eq_true rfl)⟩) (tp_R hC hW hS hA (ri fl (zsrc S (kd - 4) k)) (dr_i hW.n12 (by assumption) (by assumption))) rfl rfl hl.1 rfl (lv_room (Nat.le_of_ble_eq_true rfl)) dX1_length_4 ⟨(Nat.le_of_ble_eq_true rfl), (Nat.le_of_ble_eq_true rfl)⟩) ?_
  refine lv_aload_n hx hb dX1_length_7 rfl (lv_at hl 0 rfl) ?_
  refine t_get (D := D) (ci := 1) (v := .int (F kd fl k 1)) (C := RX1) (T := TX1) (N := 3) hx hb hts iX1 hown hK hW kd fl k hd (cel_ch hkd) rfl 1 (by decide) (hts _ wq938) (fun _ h9 => h9) rfl dX1_length_8 ?_
  refine lv_isub hx hb dX1_length_11 ?_
  exact ze_i hx hb hr hlk rfl (by rfl) dX1_length_12
def v_X1_canGive (S : TS) (F : TF) (G : TG) (q : TQ) (kd : Nat) (fl : Nat) (k : Nat) : Int32 := if (F kd fl k 2) = 0 then if (v_X1_length S F G q kd fl k) ≤ 0 then 0 else 1 else 0
set_option maxHeartbeats 4000000 in
set_option maxRecDepth 100000 in
theorem k_X1_canGive (l : Launch) (D : va_G) (yc : Nat → ClassId) (e0 : Nat) (A : Nat → Prop) (S : TS) (Z : Nat × Nat) (F : TF) (G : TG) (q : TQ) (kd : Nat) (fl : Nat) (k : Nat) (hkd : kd = 4 ∨ kd = 5) (hd : dm S kd fl k) : Met l yX1_canGive (ws_ yX1_canGive cX1_canGive 1 (some .boolean)) ({ frames := 2, cells := 0, slots := 0, locals := 40 }) (PT D yc e0 A S Z F G q [.ref (zg S kd fl k)]) (zQ (some (.int (v_X1_canGive S F G q kd fl k)))) 0 0 zno := by
  refine tk_M (by decide) (Nat.le_of_ble_eq_true rfl) ?_
  intro p e s m args below meth c ls hx hb hml hr hlk hown hts hW hS hA hC hl
  have hK := hC.1
  have hN := hC.2.1
  have hn12 := hW.n12
  obtain ⟨hcf, hck, hcs⟩ := hW.csrc hkd hd
  have hl : lv_has ls 1 [(0, .ref (zg S kd fl k))] := hl
  refine lv_aload_n hx hb dX1_canGive_0 rfl (lv_at hl 0 rfl) ?_
  refine t_get (D := D) (ci := 1) (v := .int (F kd fl k 2)) (C := RX1) (T := TX1) (N := 3) hx hb hts iX1 hown hK hW kd fl k hd (cel_ch hkd) rfl 2 (by decide) (hts _ wq940) (fun _ h9 => h9) rfl dX1_canGive_1 ?_
  refine lv_if_ne (tgt := 18) hx hb dX1_canGive_4 (by decide) (fun hb1 => ?_) (fun hb1 => ?_)
  · refine lv_iconst (v := 0) hx hb dX1_canGive_18 (by decide) ?_
    exact ze_i hx hb hr hlk rfl (by unfold v_X1_canGive; rw [if_neg hb1]) dX1_canGive_19
  · refine lv_aload_n hx hb dX1_canGive_7 rfl (lv_at hl 0 rfl) ?_
    refine zr_i (va_runV (As := []) (rest := []) ⟨hx, hb, hml, hown, hts⟩ (k_X1_length l D yc e0 A S Z F G q kd fl k hkd hd) (cwV 0 hts (lw_V wq308 wq309 wq310 wq17 wq311) rfl rfl rfl (by decide +kernel) ⟨(Nat.le_of_ble_eq_true rfl), (Nat.le_of_ble_eq_true rfl)⟩) (tp_V hC hW hS hA kd fl k hd (cel_ch hkd) rfl) rfl rfl hl.1 rfl (lv_room (Nat.le_of_ble_eq_true rfl)) dX1_canGive_8 ⟨(Nat.le_of_ble_eq_true rfl), (Nat.le_of_ble_eq_true rfl)⟩) ?_
    refine lv_if_le (tgt := 18) hx hb dX1_canGive_11 (by decide) (fun hb2 => ?_) (fun hb2 => ?_)
    · refine lv_iconst (v := 0) hx hb dX1_canGive_18 (by decide) ?_
      exact ze_i hx hb hr hlk rfl (by unfold v_X1_canGive; rw [if_pos hb1, if_pos hb2]) dX1_canGive_19
    · refine lv_iconst (v := 1) hx hb dX1_canGive_14 (by decide) ?_
      refine lv_goto (tgt := 19) hx hb dX1_canGive_15 (by decide) ?_
      exact ze_i hx hb hr hlk rfl (by unfold v_X1_canGive; rw [if_pos hb1, if_neg hb2]) dX1_canGive_19
def r_X4_leastGiven (S : TS) (F : TF) (G : TG) (q : TQ) (fl : Nat) (k : Nat) : Nat → Nat → Int32 → Int32
  | 0, _, v => v
  | n + 1, i, v => r_X4_leastGiven S F G q fl k n (i + 1) (zmin v (F (ochd S k i).1 fl (ochd S k i).2 1))
set_option maxHeartbeats 4000000 in
set_option maxRecDepth 100000 in
theorem lp_X4_leastGiven {p : Program} {l : Launch} {e : Env} {s : State} {m : MethodId} {args : Array Value} {below : List Frame} {meth : Method} {c : Code} {D : va_G} {yc : Nat → ClassId} {e0 : Nat} {A : Nat → Prop} {S : TS} {Z : Nat × Nat} {F : TF} {G : TG} {q : TQ} (fl : Nat) (k : Nat) (hf : fl < 2) (hk : k < zn S) (hx : p.tables.exec = Jvm.exec) (hb : c.code = cX4_leastGiven) (hml : c.maxLocals = 3) (hr : meth.sig.returnType = (some .int)) (hlk : meth.locks = false) (hown : s.vm.findClass yX4_leastGiven.cls = some m.cls) (hts : ∀ w ∈ lw_all, w.before args s = true) (hW : WT D yc e0 A S Z F G q s.heap) (hS : va_S A s.heap s.heap []) (hA : ∀ a, s.heap.size ≤ a → A a) (hC : CX D yc e0 A s) : ∀ (n : Nat) (i : Nat) (v : Int32) (ls : Array Slot), i + n = (och S k).length → lv_has ls 3 [(2, .int (nI i)), (1, .int v), (0, .ref (zg S 3 fl k))] → W p l e ({ frames := 3, cells := 0, slots := 0, locals := 64 }) s m args below meth c s.heap [] 0 0 (MQ below (zQ (some (.int (r_X4_leastGiven S F G q fl k n i v)))) args s 0 0 zno) (F0 m 10 ls []) := by
  have hK := hC.1
  have hN := hC.2.1
  have hn12 := hW.n12
  have hol := och_len S k
  intro n
  induction n with
  | zero =>
    intro i v ls hinv hl
    refine lv_iload_n hx hb dX4_leastGiven_10 rfl (lv_at hl 0 rfl) ?_
    refine lv_aload_n hx hb dX4_leastGiven_11 rfl (lv_at hl 2 rfl) ?_
    refine t_get (D := D) (ci := 3) (v := .ref (zl S 1 fl k)) (C := RX4) (T := TX4) (N := 2) hx hb hts iX4 hown hK hW 3 fl k (dm3 (by omega) (by omega)) rfl rfl 1 (by decide) (hts _ wq1018) (fun _ h9 => h9) rfl dX4_leastGiven_12 ?_
    refine zr_i (va_runV (As := []) (rest := [.int (nI i)]) ⟨hx, hb, hml, hown, hts⟩ (k_AL_size l D yc e0 A S Z F G q 1 fl k (dl1 (by omega) (by omega))) (cwV 0 hts (lw_V wq296 wq120 wq121 wq5 wq122) rfl rfl rfl (by decide +kernel) ⟨(Nat.le_of_ble_eq_true rfl), (Nat.le_of_ble_eq_true rfl)⟩) (tp_L hC hW hS hA 1 fl k (dl1 (by omega) (by omega))) rfl rfl hl.1 rfl (lv_room (Nat.le_of_ble_eq_true rfl)) dX4_leastGiven_15 ⟨(Nat.le_of_ble_eq_true rfl), (Nat.le_of_ble_eq_true rfl)⟩) ?_
    refine zk_ti (y := nI (och S k).length) rfl ?_
    refine lv_icmp_ge (tgt := 46) hx hb dX4_leastGiven_18 (by decide) (fun _ => ?_) (fun h9 => absurd (nI_le (by omega) (by omega)) h9)
    refine lv_iload_n hx hb dX4_leastGiven_46 rfl (lv_at hl 1 rfl) ?_
    exact ze_i hx hb hr hlk rfl (by rfl) dX4_leastGiven_47
  | succ n ih =>
    intro i v ls hinv hl
    refine lv_iload_n hx hb dX4_leastGiven_10 rfl (lv_at hl 0 rfl) ?_
    refine lv_aload_n hx hb dX4_leastGiven_11 rfl (lv_at hl 2 rfl) ?_
    refine t_get (D := D) (ci := 3) (v := .ref (zl S 1 fl k)) (C := RX4) (T := TX4) (N := 2) hx hb hts iX4 hown hK hW 3 fl k (dm3 (by omega) (by omega)) rfl rfl 1 (by decide) (hts _ wq1018) (fun _ h9 => h9) rfl dX4_leastGiven_12 ?_
    refine zr_i (va_runV (As := []) (rest := [.int (nI i)]) ⟨hx, hb, hml, hown, hts⟩ (k_AL_size l D yc e0 A S Z F G q 1 fl k (dl1 (by omega) (by omega))) (cwV 0 hts (lw_V wq296 wq120 wq121 wq5 wq122) rfl rfl rfl (by decide +kernel) ⟨(Nat.le_of_ble_eq_true rfl), (Nat.le_of_ble_eq_true rfl)⟩) (tp_L hC hW hS hA 1 fl k (dl1 (by omega) (by omega))) rfl rfl hl.1 rfl (lv_room (Nat.le_of_ble_eq_true rfl)) dX4_leastGiven_15 ⟨(Nat.le_of_ble_eq_true rfl), (Nat.le_of_ble_eq_true rfl)⟩) ?_
    refine zk_ti (y := nI (och S k).length) rfl ?_
    refine lv_icmp_ge (tgt := 46) hx hb dX4_leastGiven_18 (by decide) (fun h9 => absurd h9 (nI_ge (by omega) (by omega))) (fun _ => ?_)
    refine lv_iload_n hx hb dX4_leastGiven_21 rfl (lv_at hl 1 rfl) ?_
    refine lv_aload_n hx hb dX4_leastGiven_22 rfl (lv_at hl 2 rfl) ?_
    refine t_get (D := D) (ci := 3) (v := .ref (zl S 1 fl k)) (C := RX4) (T := TX4) (N := 2) hx hb hts iX4 hown hK hW 3 fl k (dm3 (by omega) (by omega)) rfl rfl 1 (by decide) (hts _ wq1018) (fun _ h9 => h9) rfl dX4_leastGiven_23 ?_
    refine lv_iload_n hx hb dX4_leastGiven_26 rfl (lv_at hl 0 rfl) ?_
    refine zr_q (va_runV (As := [.int (nI i)]) (rest := [.int v]) ⟨hx, hb, hml, hown, hts⟩ (k_AL_get l D yc e0 A S Z F G q 1 fl k i (dl1 (by omega) (by omega)) (show i < (och S k).length by omega)) (cwV 1 hts (lw_V wq297 wq228 wq229 wq5 wq230) rfl rfl rfl (by decide +kernel) ⟨(Nat.le_of_ble_eq_true rfl), (Nat.le_of_ble_eq_true rfl)⟩) (tp_L hC hW hS hA 1 fl k (dl1 (by omega) (by omega))) rfl rfl hl.1 rfl (lv_room (Nat.le_of_ble_eq_true rfl)) dX4_leastGiven_27 ⟨(Nat.le_of_ble_eq_true rfl), (Nat.le_of_ble_eq_true rfl)⟩) ?_
    obtain ⟨hc1a, hc1b, hc1c⟩ := och_ok (S := S) (k := k) (i := i) (fl := fl) (by omega) (by first | assumption | omega)
    refine zk_tv (y := .ref (zg S ((ochd S k i).1) fl ((ochd S k i).2))) rfl ?_
    refine va_castS hx hb hown (hts _ wq298) (hK.1 1 _ rfl).2 (t_cell hK hW ((ochd S k i).1) fl ((ochd S k i).2) hc1b (cel_ch hc1a) rfl) dX4_leastGiven_30 ?_
    refine t_getN (D := D) (ci := 1) (v := .int (F ((ochd S k i).1) fl ((ochd S k i).2) 1)) (C := RX1) (T := TX1) (N := 3) hx hb hts iX1 hown hK hW ((ochd S k i).1) fl ((ochd S k i).2) hc1b (cel_ch hc1a) rfl 1 (by decide) (zk_tab rfl (hN _ wr939 rfl)) (fun _ h9 => h9) rfl dX4_leastGiven_33 ?_
    refine va_mmin hx hb (by rw [hml]; exact hl.1.symm) hown (hts _ wq299) (hts _ wq300) (hts _ wq14) (hts _ wq301) (Nat.le_of_ble_eq_true rfl) (Nat.le_of_ble_eq_true rfl) (Nat.le_of_ble_eq_true rfl) (Nat.le_of_ble_eq_true rfl) dX4_leastGiven_36 ?_
    refine zk_ti (y := zmin v (F ((ochd S k i).1) fl ((ochd S k i).2) 1)) rfl ?_
    refine lv_istore_n (lv' := [(1, .int (zmin v (F ((ochd S k i).1) fl ((ochd S k i).2) 1))), (2, .int (nI i)), (0, .ref (zg S 3 fl k))]) hx hb dX4_leastGiven_39 rfl hl (by decide) rfl (fun ls hl => ?_)
    refine lv_iinc (v := nI (i + 1)) (lv' := [(2, .int (nI (i + 1))), (1, .int (zmin v (F ((ochd S k i).1) fl ((ochd S k i).2) 1))), (0, .ref (zg S 3 fl k))]) hx hb dX4_leastGiven_40 hl (k := 1) rfl (nI_1 _) (by decide) rfl (fun ls hl => ?_)
    refine lv_goto (tgt := 10) hx hb dX4_leastGiven_43 (by decide) ?_
    exact ih (i + 1) (zmin v (F ((ochd S k i).1) fl ((ochd S k i).2) 1)) _ (by omega) (lv_sub hl [0, 1, 2] rfl)
def v_X4_leastGiven (S : TS) (F : TF) (G : TG) (q : TQ) (fl : Nat) (k : Nat) : Int32 := r_X4_leastGiven S F G q fl k ((och S k).length) 0 (nI (q (ri fl k)).2.length)
set_option maxHeartbeats 4000000 in
set_option maxRecDepth 100000 in
theorem k_X4_leastGiven (l : Launch) (D : va_G) (yc : Nat → ClassId) (e0 : Nat) (A : Nat → Prop) (S : TS) (Z : Nat × Nat) (F : TF) (G : TG) (q : TQ) (fl : Nat) (k : Nat) (hf : fl < 2) (hk : k < zn S) : Met l yX4_leastGiven (ws_ yX4_leastGiven cX4_leastGiven 3 (some .int)) ({ frames := 3, cells := 0, slots := 0, locals := 64 }) (PT D yc e0 A S Z F G q [.ref (zg S 3 fl k)]) (zQ (some (.int (v_X4_leastGiven S F G q fl k)))) 0 0 zno := by
  refine tk_M (by decide) (Nat.le_of_ble_eq_true rfl) ?_
  intro p e s m args below meth c ls hx hb hml hr hlk hown hts hW hS hA hC hl
  have hK := hC.1
  have hN := hC.2.1
  have hn12 := hW.n12
  have hl : lv_has ls 3 [(0, .ref (zg S 3 fl k))] := hl
  have hol := och_len S k
  refine lv_aload_n hx hb dX4_leastGiven_0 rfl (lv_at hl 0 rfl) ?_
  refine t_get (D := D) (ci := 3) (v := .ref (zr S (ri fl k))) (C := RX4) (T := TX4) (N := 2) hx hb hts iX4 hown hK hW 3 fl k (dm3 (by omega) (by omega)) rfl rfl 0 (by decide) (hts _ wq1016) (fun _ h9 => h9) rfl dX4_leastGiven_1 ?_
  refine zr_i (va_runV (As := []) (rest := []) ⟨hx, hb, hml, hown, hts⟩ (k_X6_length l D yc e0 A S Z F G q (ri fl k) (dr_i hW.n12 (by omega) (by omega))) (cwV 0 hts (lw_V wq290 wq266 wq267 wq15 wq268) rfl rfl rfl (by decide +kernel) ⟨(Nat.le_of_ble_eq_true rfl), (Nat.le_of_ble_eq_true rfl)⟩) (tp_R hC hW hS hA (ri fl k) (dr_i hW.n12 (by omega) (by omega))) rfl rfl hl.1 rfl (lv_room (Nat.le_of_ble_eq_true rfl)) dX4_leastGiven_4 ⟨(Nat.le_of_ble_eq_true rfl), (Nat.le_of_ble_eq_true rfl)⟩) ?_
  refine lv_istore_n (lv' := [(1, .int (v_X6_length S F G q (ri fl k))), (0, .ref (zg S 3 fl k))]) hx hb dX4_leastGiven_7 rfl hl (by decide) rfl (fun ls hl => ?_)
  refine lv_iconst (v := 0) hx hb dX4_leastGiven_8 (by decide) ?_
  refine lv_istore_n (lv' := [(2, .int 0), (1, .int (v_X6_length S F G q (ri fl k))), (0, .ref (zg S 3 fl k))]) hx hb dX4_leastGiven_9 rfl hl (by decide) rfl (fun ls hl => ?_)
  exact lp_X4_leastGiven fl k hf hk hx hb hml hr hlk hown hts hW hS hA hC ((och S k).length) 0 (nI (q (ri fl k)).2.length) _ (by omega) (lv_sub hl [0, 1, 2] rfl)
def v_X4_isBelow (S : TS) (F : TF) (G : TG) (q : TQ) (fl : Nat) (k : Nat) (i1 : Int32) : Int32 := if i1 ≤ ((v_X6_length S F G q (ri fl k)) - (v_X4_leastGiven S F G q fl k)) then 0 else 1
set_option maxHeartbeats 4000000 in
set_option maxRecDepth 100000 in
theorem k_X4_isBelow (l : Launch) (D : va_G) (yc : Nat → ClassId) (e0 : Nat) (A : Nat → Prop) (S : TS) (Z : Nat × Nat) (F : TF) (G : TG) (q : TQ) (fl : Nat) (k : Nat) (i1 : Int32) (hf : fl < 2) (hk : k < zn S) : Met l yX4_isBelow (ws_ yX4_isBelow cX4_isBelow 2 (some .boolean)) ({ frames := 4, cells := 0, slots := 0, locals := 86 }) (PT D yc e0 A S Z F G q [.ref (zg S 3 fl k), .int i1]) (zQ (some (.int (v_X4_isBelow S F G q fl k i1)))) 0 0 zno := by
  refine tk_M (by decide) (Nat.le_of_ble_eq_true rfl) ?_
  intro p e s m args below meth c ls hx hb hml hr hlk hown hts hW hS hA hC hl
  have hK := hC.1
  have hN := hC.2.1
  have hn12 := hW.n12
  have hl : lv_has ls 2 [(0, .ref (zg S 3 fl k)), (1, .int i1)] := hl
  refine lv_aload_n hx hb dX4_isBelow_0 rfl (lv_at hl 0 rfl) ?_
  refine t_get (D := D) (ci := 3) (v := .ref (zr S (ri fl k))) (C := RX4) (T := TX4) (N := 2) hx hb hts iX4 hown hK hW 3 fl k (dm3 (by omega) (by omega)) rfl rfl 0 (by decide) (hts _ wq1016) (fun _ h9 => h9) rfl dX4_isBelow_1 ?_
  refine zr_i (va_runV (As := []) (rest := []) ⟨hx, hb, hml, hown, hts⟩ (k_X6_length l D yc e0 A S Z F G q (ri fl k) (dr_i hW.n12 (by omega) (by omega))) (cwV 0 hts (lw_V wq290 wq266 wq267 wq15 wq268) rfl rfl rfl (by decide +kernel) ⟨(Nat.le_of_ble_eq_true rfl), (Nat.le_of_ble_eq_true rfl)⟩) (tp_R hC hW hS hA (ri fl k) (dr_i hW.n12 (by omega) (by omega))) rfl rfl hl.1 rfl (lv_room (Nat.le_of_ble_eq_true rfl)) dX4_isBelow_4 ⟨(Nat.le_of_ble_eq_true rfl), (Nat.le_of_ble_eq_true rfl)⟩) ?_
  refine lv_aload_n hx hb dX4_isBelow_7 rfl (lv_at hl 0 rfl) ?_
  refine zr_i (va_runV (As := []) (rest := [.int (v_X6_length S F G q (ri fl k))]) ⟨hx, hb, hml, hown, hts⟩ (k_X4_leastGiven l D yc e0 A S Z F G q fl k (by first | assumption | omega | decide) (by first | assumption | omega | decide)) (cwV 0 hts (lw_V wq291 wq293 ws5 wq21 wq295) rfl rfl rfl (by decide +kernel) ⟨(Nat.le_of_ble_eq_true rfl), (Nat.le_of_ble_eq_true rfl)⟩) (tp_V hC hW hS hA 3 fl k (dm3 (by omega) (by omega)) rfl rfl) rfl rfl hl.1 rfl (lv_room (Nat.le_of_ble_eq_true rfl)) dX4_isBelow_8 ⟨(Nat.le_of_ble_eq_true rfl), (Nat.le_of_ble_eq_true rfl)⟩) ?_
  refine lv_isub hx hb dX4_isBelow_11 ?_
  refine lv_iload_n hx hb dX4_isBelow_12 rfl (lv_at hl 1 rfl) ?_
  refine lv_icmp_ge (tgt := 20) hx hb dX4_isBelow_13 (by decide) (fun hb1 => ?_) (fun hb1 => ?_)
  · refine lv_iconst (v := 0) hx hb dX4_isBelow_20 (by decide) ?_
    exact ze_i hx hb hr hlk rfl (by unfold v_X4_isBelow; rw [if_pos hb1]) dX4_isBelow_21
  · refine lv_iconst (v := 1) hx hb dX4_isBelow_16 (by decide) ?_
    refine lv_goto (tgt := 21) hx hb dX4_isBelow_17 (by decide) ?_
    exact ze_i hx hb hr hlk rfl (by unfold v_X4_isBelow; rw [if_neg hb1]) dX4_isBelow_21
def v_X7_length (S : TS) (F : TF) (G : TG) (q : TQ) (fl : Nat) (k : Nat) : Int32 := v_X6_length S F G q (rs 0 fl k)
set_option maxHeartbeats 4000000 in
set_option maxRecDepth 100000 in
theorem k_X7_length (l : Launch) (D : va_G) (yc : Nat → ClassId) (e0 : Nat) (A : Nat → Prop) (S : TS) (Z : Nat × Nat) (F : TF) (G : TG) (q : TQ) (fl : Nat) (k : Nat) (hf : fl < 2) (hk : k < 3 * zn S) : Met l yX7_length (ws_ yX7_length cX7_length 1 (some .int)) ({ frames := 1, cells := 0, slots := 0, locals := 20 }) (PT D yc e0 A S Z F G q [.ref (zg S 1 fl k)]) (zQ (some (.int (v_X7_length S F G q fl k)))) 0 0 zno := by
  refine tk_M (by decide) (Nat.le_of_ble_eq_true rfl) ?_
  intro p e s m args below meth c ls hx hb hml hr hlk hown hts hW hS hA hC hl
  have hK := hC.1
  have hN := hC.2.1
  have hn12 := hW.n12
  have hl : lv_has ls 1 [(0, .ref (zg S 1 fl k))] := hl
  refine lv_aload_n hx hb dX7_length_0 rfl (lv_at hl 0 rfl) ?_
  refine t_get (D := D) (ci := 6) (v := .ref (zr S (rs 0 fl k))) (C := RX7) (T := TX7) (N := 2) hx hb hts iX7 hown hK hW 1 fl k (dm1 (by omega) (by omega)) rfl rfl 0 (by decide) (hts _ wq1042) (fun _ h9 => h9) rfl dX7_length_1 ?_
  refine zr_i (va_runV (As := []) (rest := []) ⟨hx, hb, hml, hown, hts⟩ (k_X6_length l D yc e0 A S Z F G q (rs 0 fl k) (dr_s hW.n12 (by omega) (by omega) (by omega))) (cwV 0 hts (lw_V wq416 wq266 wq267 wq15 wq268) rfl rfl rfl (by decide +kernel) ⟨(Nat.le_of_ble_eq_true rfl), (Nat.le_of_ble_eq_true rfl)⟩) (tp_R hC hW hS hA (rs 0 fl k) (dr_s hW.n12 (by omega) (by omega) (by omega))) rfl rfl hl.1 rfl (lv_room (Nat.le_of_ble_eq_true rfl)) dX7_length_4 ⟨(Nat.le_of_ble_eq_true rfl), (Nat.le_of_ble_eq_true rfl)⟩) ?_
  exact ze_i hx hb hr hlk rfl (by rfl) dX7_length_7
def v_X7_endAt (S : TS) (F : TF) (G : TG) (q : TQ) (fl : Nat) (k : Nat) (i1 : Int32) : Int32 := ((v_X6_at S F G q (rs 0 fl k) i1) >>> ((29 : Int32).toInt64 &&& 63)).toInt32
set_option maxHeartbeats 4000000 in
set_option maxRecDepth 100000 in
theorem k_X7_endAt (l : Launch) (D : va_G) (yc : Nat → ClassId) (e0 : Nat) (A : Nat → Prop) (S : TS) (Z : Nat × Nat) (F : TF) (G : TG) (q : TQ) (fl : Nat) (k : Nat) (i1 : Int32) (hf : fl < 2) (hk : k < 3 * zn S) : Met l yX7_endAt (ws_ yX7_endAt cX7_endAt 2 (some .int)) ({ frames := 1, cells := 0, slots := 0, locals := 21 }) (PT D yc e0 A S Z F G q [.ref (zg S 1 fl k), .int i1]) (zQ (some (.int (v_X7_endAt S F G q fl k i1)))) 0 0 zno := by
  refine tk_M (by decide) (Nat.le_of_ble_eq_true rfl) ?_
  intro p e s m args below meth c ls hx hb hml hr hlk hown hts hW hS hA hC hl
  have hK := hC.1
  have hN := hC.2.1
  have hn12 := hW.n12
  have hl : lv_has ls 2 [(0, .ref (zg S 1 fl k)), (1, .int i1)] := hl
  refine lv_aload_n hx hb dX7_endAt_0 rfl (lv_at hl 0 rfl) ?_
  refine t_get (D := D) (ci := 6) (v := .ref (zr S (rs 0 fl k))) (C := RX7) (T := TX7) (N := 2) hx hb hts iX7 hown hK hW 1 fl k (dm1 (by omega) (by omega)) rfl rfl 0 (by decide) (hts _ wq1042) (fun _ h9 => h9) rfl dX7_endAt_1 ?_
  refine lv_iload_n hx hb dX7_endAt_4 rfl (lv_at hl 1 rfl) ?_
  refine zr_l (va_runV (As := [.int i1]) (rest := []) ⟨hx, hb, hml, hown, hts⟩ (k_X6_at l D yc e0 A S Z F G q (rs 0 fl k) i1 (dr_s hW.n12 (by omega) (by omega) (by omega))) (cwV 1 hts (lw_V wq417 wq391 wq392 wq15 wq393) rfl rfl rfl (by decide +kernel) ⟨(Nat.le_of_ble_eq_true rfl), (Nat.le_of_ble_eq_true rfl)⟩) (tp_R hC hW hS hA (rs 0 fl k) (dr_s hW.n12 (by omega) (by omega) (by omega))) rfl rfl hl.1 rfl (lv_room (Nat.le_of_ble_eq_true rfl)) dX7_endAt_5 ⟨(Nat.le_of_ble_eq_true rfl), (Nat.le_of_ble_eq_true rfl)⟩) ?_
  refine lv_bipush (v := 29) hx hb dX7_endAt_8 (by decide) ?_
  refine lv_lshr (v := (v_X6_at S F G q (rs 0 fl k) i1) >>> ((29 : Int32).toInt64 &&& 63)) hx hb dX7_endAt_10 rfl ?_
  refine lv_l2i (v := ((v_X6_at S F G q (rs 0 fl k) i1) >>> ((29 : Int32).toInt64 &&& 63)).toInt32) hx hb dX7_endAt_11 rfl ?_
  exact ze_i hx hb hr hlk rfl (by rfl) dX7_endAt_12
def v_X7_keyAtPlace (S : TS) (F : TF) (G : TG) (q : TQ) (fl : Nat) (k : Nat) (i1 : Int32) : Int32 := (((v_X6_at S F G q (rs 0 fl k) i1) >>> ((21 : Int32).toInt64 &&& 63)) &&& 255).toInt32
set_option maxHeartbeats 4000000 in
set_option maxRecDepth 100000 in
theorem k_X7_keyAtPlace (l : Launch) (D : va_G) (yc : Nat → ClassId) (e0 : Nat) (A : Nat → Prop) (S : TS) (Z : Nat × Nat) (F : TF) (G : TG) (q : TQ) (fl : Nat) (k : Nat) (i1 : Int32) (hf : fl < 2) (hk : k < 3 * zn S) : Met l yX7_keyAtPlace (ws_ yX7_keyAtPlace cX7_keyAtPlace 2 (some .int)) ({ frames := 1, cells := 0, slots := 0, locals := 21 }) (PT D yc e0 A S Z F G q [.ref (zg S 1 fl k), .int i1]) (zQ (some (.int (v_X7_keyAtPlace S F G q fl k i1)))) 0 0 zno := by
  refine tk_M (by decide) (Nat.le_of_ble_eq_true rfl) ?_
  intro p e s m args below meth c ls hx hb hml hr hlk hown hts hW hS hA hC hl
  have hK := hC.1
  have hN := hC.2.1
  have hn12 := hW.n12
  have hl : lv_has ls 2 [(0, .ref (zg S 1 fl k)), (1, .int i1)] := hl
  refine lv_aload_n hx hb dX7_keyAtPlace_0 rfl (lv_at hl 0 rfl) ?_
  refine t_get (D := D) (ci := 6) (v := .ref (zr S (rs 0 fl k))) (C := RX7) (T := TX7) (N := 2) hx hb hts iX7 hown hK hW 1 fl k (dm1 (by omega) (by omega)) rfl rfl 0 (by decide) (hts _ wq1042) (fun _ h9 => h9) rfl dX7_keyAtPlace_1 ?_
  refine lv_iload_n hx hb dX7_keyAtPlace_4 rfl (lv_at hl 1 rfl) ?_
  refine zr_l (va_runV (As := [.int i1]) (rest := []) ⟨hx, hb, hml, hown, hts⟩ (k_X6_at l D yc e0 A S Z F G q (rs 0 fl k) i1 (dr_s hW.n12 (by omega) (by omega) (by omega))) (cwV 1 hts (lw_V wq417 wq391 wq392 wq15 wq393) rfl rfl rfl (by decide +kernel) ⟨(Nat.le_of_ble_eq_true rfl), (Nat.le_of_ble_eq_true rfl)⟩) (tp_R hC hW hS hA (rs 0 fl k) (dr_s hW.n12 (by omega) (by omega) (by omega))) rfl rfl hl.1 rfl (lv_room (Nat.le_of_ble_eq_true rfl)) dX7_keyAtPlace_5 ⟨(Nat.le_of_ble_eq_true rfl), (Nat.le_of_ble_eq_true rfl)⟩) ?_
  refine lv_bipush (v := 21) hx hb dX7_keyAtPlace_8 (by decide) ?_
  refine lv_lshr (v := (v_X6_at S F G q (rs 0 fl k) i1) >>> ((21 : Int32).toInt64 &&& 63)) hx hb dX7_keyAtPlace_10 rfl ?_
  refine lv_ldc2 hx hb hown (hts _ wq439) dX7_keyAtPlace_11 ?_
  refine lv_land hx hb dX7_keyAtPlace_14 ?_
  refine lv_l2i (v := (((v_X6_at S F G q (rs 0 fl k) i1) >>> ((21 : Int32).toInt64 &&& 63)) &&& 255).toInt32) hx hb dX7_keyAtPlace_15 rfl ?_
  exact ze_i hx hb hr hlk rfl (by rfl) dX7_keyAtPlace_16
def v_X7_beginAt (S : TS) (F : TF) (G : TG) (q : TQ) (fl : Nat) (k : Nat) (i1 : Int32) : Int32 := (((v_X6_at S F G q (rs 0 fl k) i1) &&& 2097151).toInt32) - 1000
set_option maxHeartbeats 4000000 in
set_option maxRecDepth 100000 in
theorem k_X7_beginAt (l : Launch) (D : va_G) (yc : Nat → ClassId) (e0 : Nat) (A : Nat → Prop) (S : TS) (Z : Nat × Nat) (F : TF) (G : TG) (q : TQ) (fl : Nat) (k : Nat) (i1 : Int32) (hf : fl < 2) (hk : k < 3 * zn S) : Met l yX7_beginAt (ws_ yX7_beginAt cX7_beginAt 2 (some .int)) ({ frames := 1, cells := 0, slots := 0, locals := 21 }) (PT D yc e0 A S Z F G q [.ref (zg S 1 fl k), .int i1]) (zQ (some (.int (v_X7_beginAt S F G q fl k i1)))) 0 0 zno := by
  refine tk_M (by decide) (Nat.le_of_ble_eq_true rfl) ?_
  intro p e s m args below meth c ls hx hb hml hr hlk hown hts hW hS hA hC hl
  have hK := hC.1
  have hN := hC.2.1
  have hn12 := hW.n12
  have hl : lv_has ls 2 [(0, .ref (zg S 1 fl k)), (1, .int i1)] := hl
  refine lv_aload_n hx hb dX7_beginAt_0 rfl (lv_at hl 0 rfl) ?_
  refine t_get (D := D) (ci := 6) (v := .ref (zr S (rs 0 fl k))) (C := RX7) (T := TX7) (N := 2) hx hb hts iX7 hown hK hW 1 fl k (dm1 (by omega) (by omega)) rfl rfl 0 (by decide) (hts _ wq1042) (fun _ h9 => h9) rfl dX7_beginAt_1 ?_
  refine lv_iload_n hx hb dX7_beginAt_4 rfl (lv_at hl 1 rfl) ?_
  refine zr_l (va_runV (As := [.int i1]) (rest := []) ⟨hx, hb, hml, hown, hts⟩ (k_X6_at l D yc e0 A S Z F G q (rs 0 fl k) i1 (dr_s hW.n12 (by omega) (by omega) (by omega))) (cwV 1 hts (lw_V wq417 wq391 wq392 wq15 wq393) rfl rfl rfl (by decide +kernel) ⟨(Nat.le_of_ble_eq_true rfl), (Nat.le_of_ble_eq_true rfl)⟩) (tp_R hC hW hS hA (rs 0 fl k) (dr_s hW.n12 (by omega) (by omega) (by omega))) rfl rfl hl.1 rfl (lv_room (Nat.le_of_ble_eq_true rfl)) dX7_beginAt_5 ⟨(Nat.le_of_ble_eq_true rfl), (Nat.le_of_ble_eq_true rfl)⟩) ?_
  refine lv_ldc2 hx hb hown (hts _ wq559) dX7_beginAt_8 ?_
  refine lv_land hx hb dX7_beginAt_11 ?_
  refine lv_l2i (v := ((v_X6_at S F G q (rs 0 fl k) i1) &&& 2097151).toInt32) hx hb dX7_beginAt_12 rfl ?_
  refine lv_sipush (v := 1000) hx hb dX7_beginAt_13 (by decide) ?_
  refine lv_isub hx hb dX7_beginAt_16 ?_
  exact ze_i hx hb hr hlk rfl (by rfl) dX7_beginAt_17
def v_X7_accountAtPlace (S : TS) (F : TF) (G : TG) (q : TQ) (fl : Nat) (k : Nat) (i1 : Int32) : Int64 := v_X6_at S F G q (rs 1 fl k) i1
set_option maxHeartbeats 4000000 in
set_option maxRecDepth 100000 in
theorem k_X7_accountAtPlace (l : Launch) (D : va_G) (yc : Nat → ClassId) (e0 : Nat) (A : Nat → Prop) (S : TS) (Z : Nat × Nat) (F : TF) (G : TG) (q : TQ) (fl : Nat) (k : Nat) (i1 : Int32) (hf : fl < 2) (hk : k < 3 * zn S) : Met l yX7_accountAtPlace (ws_ yX7_accountAtPlace cX7_accountAtPlace 2 (some .long)) ({ frames := 1, cells := 0, slots := 0, locals := 21 }) (PT D yc e0 A S Z F G q [.ref (zg S 1 fl k), .int i1]) (zQ (some (.long (v_X7_accountAtPlace S F G q fl k i1)))) 0 0 zno := by
  refine tk_M (by decide) (Nat.le_of_ble_eq_true rfl) ?_
  intro p e s m args below meth c ls hx hb hml hr hlk hown hts hW hS hA hC hl
  have hK := hC.1
  have hN := hC.2.1
  have hn12 := hW.n12
  have hl : lv_has ls 2 [(0, .ref (zg S 1 fl k)), (1, .int i1)] := hl
  refine lv_aload_n hx hb dX7_accountAtPlace_0 rfl (lv_at hl 0 rfl) ?_
  refine t_get (D := D) (ci := 6) (v := .ref (zr S (rs 1 fl k))) (C := RX7) (T := TX7) (N := 2) hx hb hts iX7 hown hK hW 1 fl k (dm1 (by omega) (by omega)) rfl rfl 1 (by decide) (hts _ wq1043) (fun _ h9 => h9) rfl dX7_accountAtPlace_1 ?_
  refine lv_iload_n hx hb dX7_accountAtPlace_4 rfl (lv_at hl 1 rfl) ?_
  refine zr_l (va_runV (As := [.int i1]) (rest := []) ⟨hx, hb, hml, hown, hts⟩ (k_X6_at l D yc e0 A S Z F G q (rs 1 fl k) i1 (dr_s hW.n12 (by omega) (by omega) (by omega))) (cwV 1 hts (lw_V wq417 wq391 wq392 wq15 wq393) rfl rfl rfl (by decide +kernel) ⟨(Nat.le_of_ble_eq_true rfl), (Nat.le_of_ble_eq_true rfl)⟩) (tp_R hC hW hS hA (rs 1 fl k) (dr_s hW.n12 (by omega) (by omega) (by omega))) rfl rfl hl.1 rfl (lv_room (Nat.le_of_ble_eq_true rfl)) dX7_accountAtPlace_5 ⟨(Nat.le_of_ble_eq_true rfl), (Nat.le_of_ble_eq_true rfl)⟩) ?_
  exact ze_l hx hb hr hlk (by rfl) dX7_accountAtPlace_8
def v_X7_isAt (S : TS) (F : TF) (G : TG) (q : TQ) (fl : Nat) (k : Nat) (i1 : Int32) (l1 : Int64) : Int32 := if (v_X6_length S F G q (rs 0 fl k)) ≤ i1 then 0 else if (lg_cmp (v_X6_at S F G q (rs 0 fl k) i1) l1) = 0 then 1 else 0
set_option maxHeartbeats 4000000 in
set_option maxRecDepth 100000 in
theorem k_X7_isAt (l : Launch) (D : va_G) (yc : Nat → ClassId) (e0 : Nat) (A : Nat → Prop) (S : TS) (Z : Nat × Nat) (F : TF) (G : TG) (q : TQ) (fl : Nat) (k : Nat) (i1 : Int32) (l1 : Int64) (hf : fl < 2) (hk : k < 3 * zn S) : Met l yX7_isAt (ws_ yX7_isAt cX7_isAt 4 (some .boolean)) ({ frames := 1, cells := 0, slots := 0, locals := 21 }) (PT D yc e0 A S Z F G q [.ref (zg S 1 fl k), .int i1, .long l1]) (zQ (some (.int (v_X7_isAt S F G q fl k i1 l1)))) 0 0 zno := by
  refine tk_M (by decide) (Nat.le_of_ble_eq_true rfl) ?_
  intro p e s m args below meth c ls hx hb hml hr hlk hown hts hW hS hA hC hl
  have hK := hC.1
  have hN := hC.2.1
  have hn12 := hW.n12
  have hl : lv_has ls 4 [(0, .ref (zg S 1 fl k)), (1, .int i1), (2, .long l1)] := hl
  refine lv_iload_n hx hb dX7_isAt_0 rfl (lv_at hl 1 rfl) ?_
  refine lv_aload_n hx hb dX7_isAt_1 rfl (lv_at hl 0 rfl) ?_
  refine t_get (D := D) (ci := 6) (v := .ref (zr S (rs 0 fl k))) (C := RX7) (T := TX7) (N := 2) hx hb hts iX7 hown hK hW 1 fl k (dm1 (by omega) (by omega)) rfl rfl 0 (by decide) (hts _ wq1042) (fun _ h9 => h9) rfl dX7_isAt_2 ?_
  refine zr_i (va_runV (As := []) (rest := [.int i1]) ⟨hx, hb, hml, hown, hts⟩ (k_X6_length l D yc e0 A S Z F G q (rs 0 fl k) (dr_s hW.n12 (by omega) (by omega) (by omega))) (cwV 0 hts (lw_V wq416 wq266 wq267 wq15 wq268) rfl rfl rfl (by decide +kernel) ⟨(Nat.le_of_ble_eq_true rfl), (Nat.le_of_ble_eq_true rfl)⟩) (tp_R hC hW hS hA (rs 0 fl k) (dr_s hW.n12 (by omega) (by omega) (by omega))) rfl rfl hl.1 rfl (lv_room (Nat.le_of_ble_eq_true rfl)) dX7_isAt_5 ⟨(Nat.le_of_ble_eq_true rfl), (Nat.le_of_ble_eq_true rfl)⟩) ?_
  refine lv_icmp_ge (tgt := 28) hx hb dX7_isAt_8 (by decide) (fun hb1 => ?_) (fun hb1 => ?_)
  · refine lv_iconst (v := 0) hx hb dX7_isAt_28 (by decide) ?_
    exact ze_i hx hb hr hlk rfl (by unfold v_X7_isAt; rw [if_pos hb1]) dX7_isAt_29
  · refine lv_aload_n hx hb dX7_isAt_11 rfl (lv_at hl 0 rfl) ?_
    refine t_get (D := D) (ci := 6) (v := .ref (zr S (rs 0 fl k))) (C := RX7) (T := TX7) (N := 2) hx hb hts iX7 hown hK hW 1 fl k (dm1 (by omega) (by omega)) rfl rfl 0 (by decide) (hts _ wq1042) (fun _ h9 => h9) rfl dX7_isAt_12 ?_
    refine lv_iload_n hx hb dX7_isAt_15 rfl (lv_at hl 1 rfl) ?_
    refine zr_l (va_runV (As := [.int i1]) (rest := []) ⟨hx, hb, hml, hown, hts⟩ (k_X6_at l D yc e0 A S Z F G q (rs 0 fl k) i1 (dr_s hW.n12 (by omega) (by omega) (by omega))) (cwV 1 hts (lw_V wq417 wq391 wq392 wq15 wq393) rfl rfl rfl (by decide +kernel) ⟨(Nat.le_of_ble_eq_true rfl), (Nat.le_of_ble_eq_true rfl)⟩) (tp_R hC hW hS hA (rs 0 fl k) (dr_s hW.n12 (by omega) (by omega) (by omega))) rfl rfl hl.1 rfl (lv_room (Nat.le_of_ble_eq_true rfl)) dX7_isAt_16 ⟨(Nat.le_of_ble_eq_true rfl), (Nat.le_of_ble_eq_true rfl)⟩) ?_
    refine lv_lload_n hx hb dX7_isAt_19 rfl (lv_at hl 2 rfl) ?_
    refine W.lcmp hx hb dX7_isAt_20 ?_
    refine lv_if_ne (tgt := 28) hx hb dX7_isAt_21 (by decide) (fun hb2 => ?_) (fun hb2 => ?_)
    · refine lv_iconst (v := 0) hx hb dX7_isAt_28 (by decide) ?_
      exact ze_i hx hb hr hlk rfl (by unfold v_X7_isAt; rw [if_neg hb1, if_neg hb2]) dX7_isAt_29
    · refine lv_iconst (v := 1) hx hb dX7_isAt_24 (by decide) ?_
      refine lv_goto (tgt := 29) hx hb dX7_isAt_25 (by decide) ?_
      exact ze_i hx hb hr hlk rfl (by unfold v_X7_isAt; rw [if_neg hb1, if_pos hb2]) dX7_isAt_29
def v_X9_keptCount (S : TS) (F : TF) (G : TG) (q : TQ) (fl : Nat) (k : Nat) : Int32 := ((v_X7_length S F G q fl k) + (v_X6_length S F G q (rs 2 fl k))) + (v_X6_length S F G q (rs 3 fl k))
set_option maxHeartbeats 4000000 in
set_option maxRecDepth 100000 in
theorem k_X9_keptCount (l : Launch) (D : va_G) (yc : Nat → ClassId) (e0 : Nat) (A : Nat → Prop) (S : TS) (Z : Nat × Nat) (F : TF) (G : TG) (q : TQ) (fl : Nat) (k : Nat) (hf : fl < 2) (hk : k < 3 * zn S) : Met l yX9_keptCount (ws_ yX9_keptCount cX9_keptCount 1 (some .int)) ({ frames := 2, cells := 0, slots := 0, locals := 40 }) (PT D yc e0 A S Z F G q [.ref (zg S 0 fl k)]) (zQ (some (.int (v_X9_keptCount S F G q fl k)))) 0 0 zno := by
  refine tk_M (by decide) (Nat.le_of_ble_eq_true rfl) ?_
  intro p e s m args below meth c ls hx hb hml hr hlk hown hts hW hS hA hC hl
  have hK := hC.1
  have hN := hC.2.1
  have hn12 := hW.n12
  have hl : lv_has ls 1 [(0, .ref (zg S 0 fl k))] := hl
  refine lv_aload_n hx hb dX9_keptCount_0 rfl (lv_at hl 0 rfl) ?_
  refine t_get (D := D) (ci := 8) (v := .ref (zg S 1 fl k)) (C := RX9) (T := TX9) (N := 11) hx hb hts iX9 hown hK hW 0 fl k (dm0 (by omega) (by omega)) rfl rfl 8 (by decide) (hts _ wq1073) (fun _ h9 => h9) rfl dX9_keptCount_1 ?_
  refine zr_i (va_runV (As := []) (rest := []) ⟨hx, hb, hml, hown, hts⟩ (k_X7_length l D yc e0 A S Z F G q fl k (by first | assumption | omega | decide) (by first | assumption | omega | decide)) (cwV 0 hts (lw_V wq647 wq552 wq553 wq23 wq554) rfl rfl rfl (by decide +kernel) ⟨(Nat.le_of_ble_eq_true rfl), (Nat.le_of_ble_eq_true rfl)⟩) (tp_V hC hW hS hA 1 fl k (dm1 (by omega) (by omega)) rfl rfl) rfl rfl hl.1 rfl (lv_room (Nat.le_of_ble_eq_true rfl)) dX9_keptCount_4 ⟨(Nat.le_of_ble_eq_true rfl), (Nat.le_of_ble_eq_true rfl)⟩) ?_
  refine lv_aload_n hx hb dX9_keptCount_7 rfl (lv_at hl 0 rfl) ?_
  refine t_get (D := D) (ci := 8) (v := .ref (zr S (rs 2 fl k))) (C := RX9) (T := TX9) (N := 11) hx hb hts iX9 hown hK hW 0 fl k (dm0 (by omega) (by omega)) rfl rfl 9 (by decide) (hts _ wq1076) (fun _ h9 => h9) rfl dX9_keptCount_8 ?_
  refine zr_i (va_runV (As := []) (rest := [.int (v_X7_length S F G q fl k)]) ⟨hx, hb, hml, hown, hts⟩ (k_X6_length l D yc e0 A S Z F G q (rs 2 fl k) (dr_s hW.n12 (by omega) (by omega) (by omega))) (cwV 0 hts (lw_V wq648 wq266 wq267 wq15 wq268) rfl rfl rfl (by decide +kernel) ⟨(Nat.le_of_ble_eq_true rfl), (Nat.le_of_ble_eq_true rfl)⟩) (tp_R hC hW hS hA (rs 2 fl k) (dr_s hW.n12 (by omega) (by omega) (by omega))) rfl rfl hl.1 rfl (lv_room (Nat.le_of_ble_eq_true rfl)) dX9_keptCount_11 ⟨(Nat.le_of_ble_eq_true rfl), (Nat.le_of_ble_eq_true rfl)⟩) ?_
  refine lv_iadd hx hb dX9_keptCount_14 ?_
  refine lv_aload_n hx hb dX9_keptCount_15 rfl (lv_at hl 0 rfl) ?_
  refine t_get (D := D) (ci := 8) (v := .ref (zr S (rs 3 fl k))) (C := RX9) (T := TX9) (N := 11) hx hb hts iX9 hown hK hW 0 fl k (dm0 (by omega) (by omega)) rfl rfl 10 (by decide) (hts _ wq1078) (fun _ h9 => h9) rfl dX9_keptCount_16 ?_
  refine zr_i (va_runV (As := []) (rest := [.int ((v_X7_length S F G q fl k) + (v_X6_length S F G q (rs 2 fl k)))]) ⟨hx, hb, hml, hown, hts⟩ (k_X6_length l D yc e0 A S Z F G q (rs 3 fl k) (dr_s hW.n12 (by omega) (by omega) (by omega))) (cwV 0 hts (lw_V wq648 wq266 wq267 wq15 wq268) rfl rfl rfl (by decide +kernel) ⟨(Nat.le_of_ble_eq_true rfl), (Nat.le_of_ble_eq_true rfl)⟩) (tp_R hC hW hS hA (rs 3 fl k) (dr_s hW.n12 (by omega) (by omega) (by omega))) rfl rfl hl.1 rfl (lv_room (Nat.le_of_ble_eq_true rfl)) dX9_keptCount_19 ⟨(Nat.le_of_ble_eq_true rfl), (Nat.le_of_ble_eq_true rfl)⟩) ?_
  refine lv_iadd hx hb dX9_keptCount_22 ?_
  exact ze_i hx hb hr hlk rfl (by rfl) dX9_keptCount_23
end
section
theorem wq16 : (Jvm.Cond.initialized "WeirStream$Stage") ∈ lw_all := lw_in (lw_tb (List.mem_of_getElem? (i := 16) (by decide +kernel))) rfl
theorem wq68 : (Jvm.Cond.fieldLink "WeirStream$Flow" (12 : Nat) "WeirStream$Flow" "stages" "Ljava/util/ArrayList;") ∈ lw_all := lw_in (lw_tb (List.mem_of_getElem? (i := 68) (by decide +kernel))) rfl
theorem wq78 : (Jvm.Cond.laysFinal "WeirStream$Flow" "WeirStream$Flow" "isTrial" "Z") ∈ lw_all := lw_in (lw_tb (List.mem_of_getElem? (i := 78) (by decide +kernel))) rfl
theorem wq80 : (Jvm.Cond.laysFinal "WeirStream$Flow" "WeirStream$Flow" "stages" "Ljava/util/ArrayList;") ∈ lw_all := lw_in (lw_tb (List.mem_of_getElem? (i := 80) (by decide +kernel))) rfl
theorem wq82 : (Jvm.Cond.lays "WeirStream$Flow" "WeirStream$Flow" "capacity" "I") ∈ lw_all := lw_in (lw_tb (List.mem_of_getElem? (i := 82) (by decide +kernel))) rfl
theorem wq84 : (Jvm.Cond.lays "WeirStream$Flow" "WeirStream$Flow" "lastWorked" "I") ∈ lw_all := lw_in (lw_tb (List.mem_of_getElem? (i := 84) (by decide +kernel))) rfl
theorem wq86 : (Jvm.Cond.lays "WeirStream$Flow" "WeirStream$Flow" "begunCount" "I") ∈ lw_all := lw_in (lw_tb (List.mem_of_getElem? (i := 86) (by decide +kernel))) rfl
theorem wq88 : (Jvm.Cond.lays "WeirStream$Flow" "WeirStream$Flow" "begunNumber" "I") ∈ lw_all := lw_in (lw_tb (List.mem_of_getElem? (i := 88) (by decide +kernel))) rfl
theorem wq90 : (Jvm.Cond.lays "WeirStream$Flow" "WeirStream$Flow" "completeNumber" "I") ∈ lw_all := lw_in (lw_tb (List.mem_of_getElem? (i := 90) (by decide +kernel))) rfl
theorem wq92 : (Jvm.Cond.lays "WeirStream$Flow" "WeirStream$Flow" "unsaved" "I") ∈ lw_all := lw_in (lw_tb (List.mem_of_getElem? (i := 92) (by decide +kernel))) rfl
theorem wq119 : (Jvm.Cond.methodLink "WeirStream$Flow" (29 : Nat) ({ cls := "java/util/ArrayList", name := "size", desc := "()I" } : Jvm.MethodName)) ∈ lw_all := lw_in (lw_tb (List.mem_of_getElem? (i := 119) (by decide +kernel))) rfl
theorem wq227 : (Jvm.Cond.methodLink "WeirStream$Flow" (33 : Nat) ({ cls := "java/util/ArrayList", name := "get", desc := "(I)Ljava/lang/Object;" } : Jvm.MethodName)) ∈ lw_all := lw_in (lw_tb (List.mem_of_getElem? (i := 227) (by decide +kernel))) rfl
theorem wq241 : (Jvm.Cond.classLink "WeirStream$Flow" (37 : Nat) "WeirStream$Stage") ∈ lw_all := lw_in (lw_tb (List.mem_of_getElem? (i := 241) (by decide +kernel))) rfl
theorem wq262 : (Jvm.Cond.instanceMethod ({ cls := "WeirStream$Stage", name := "unread", desc := "()I" } : Jvm.MethodName)) ∈ lw_all := lw_in (lw_tb (List.mem_of_getElem? (i := 262) (by decide +kernel))) rfl
theorem wq263 : (Jvm.Cond.selects "WeirStream$Stage" ({ cls := "WeirStream$Stage", name := "unread", desc := "()I" } : Jvm.MethodName) ({ cls := "WeirStream$Stage", name := "unread", desc := "()I" } : Jvm.MethodName)) ∈ lw_all := lw_in (lw_tb (List.mem_of_getElem? (i := 263) (by decide +kernel))) rfl
theorem wq264 : (Jvm.Cond.code ({ cls := "WeirStream$Stage", name := "unread", desc := "()I" } : Jvm.MethodName) prog_10_method_3_code (1 : Nat) (Option.some Jvm.ClassFile.FieldType.int)) ∈ lw_all := lw_in (lw_tb (List.mem_of_getElem? (i := 264) (by decide +kernel))) rfl
theorem wq265 : (Jvm.Cond.methodLink "WeirStream$Stage" (56 : Nat) ({ cls := "WeirStream$Row", name := "length", desc := "()I" } : Jvm.MethodName)) ∈ lw_all := lw_in (lw_tb (List.mem_of_getElem? (i := 265) (by decide +kernel))) rfl
theorem wq286 : (Jvm.Cond.methodLink "WeirStream$Stage" (64 : Nat) ({ cls := "WeirStream$Outlet", name := "isBelow", desc := "(I)Z" } : Jvm.MethodName)) ∈ lw_all := lw_in (lw_tb (List.mem_of_getElem? (i := 286) (by decide +kernel))) rfl
theorem wq287 : (Jvm.Cond.instanceMethod ({ cls := "WeirStream$Outlet", name := "isBelow", desc := "(I)Z" } : Jvm.MethodName)) ∈ lw_all := lw_in (lw_tb (List.mem_of_getElem? (i := 287) (by decide +kernel))) rfl
theorem wq288 : (Jvm.Cond.selects "WeirStream$Outlet" ({ cls := "WeirStream$Outlet", name := "isBelow", desc := "(I)Z" } : Jvm.MethodName) ({ cls := "WeirStream$Outlet", name := "isBelow", desc := "(I)Z" } : Jvm.MethodName)) ∈ lw_all := lw_in (lw_tb (List.mem_of_getElem? (i := 288) (by decide +kernel))) rfl
theorem wq289 : (Jvm.Cond.code ({ cls := "WeirStream$Outlet", name := "isBelow", desc := "(I)Z" } : Jvm.MethodName) prog_6_method_3_code (2 : Nat) (Option.some Jvm.ClassFile.FieldType.boolean)) ∈ lw_all := lw_in (lw_tb (List.mem_of_getElem? (i := 289) (by decide +kernel))) rfl
theorem wq302 : (Jvm.Cond.methodLink "WeirStream$Stage" (76 : Nat) ({ cls := "WeirStream$Stage", name := "unread", desc := "()I" } : Jvm.MethodName)) ∈ lw_all := lw_in (lw_tb (List.mem_of_getElem? (i := 302) (by decide +kernel))) rfl
theorem wq303 : (Jvm.Cond.constant "WeirStream$Stage" (85 : Nat) (1000000 : Int32)) ∈ lw_all := lw_in (lw_tb (List.mem_of_getElem? (i := 303) (by decide +kernel))) rfl
theorem wq304 : (Jvm.Cond.methodLink "WeirStream$Stage" (86 : Nat) ({ cls := "WeirStream$Channel", name := "canGive", desc := "()Z" } : Jvm.MethodName)) ∈ lw_all := lw_in (lw_tb (List.mem_of_getElem? (i := 304) (by decide +kernel))) rfl
theorem wq305 : (Jvm.Cond.instanceMethod ({ cls := "WeirStream$Channel", name := "canGive", desc := "()Z" } : Jvm.MethodName)) ∈ lw_all := lw_in (lw_tb (List.mem_of_getElem? (i := 305) (by decide +kernel))) rfl
theorem wq306 : (Jvm.Cond.selects "WeirStream$Channel" ({ cls := "WeirStream$Channel", name := "canGive", desc := "()Z" } : Jvm.MethodName) ({ cls := "WeirStream$Channel", name := "canGive", desc := "()Z" } : Jvm.MethodName)) ∈ lw_all := lw_in (lw_tb (List.mem_of_getElem? (i := 306) (by decide +kernel))) rfl
theorem wq307 : (Jvm.Cond.code ({ cls := "WeirStream$Channel", name := "canGive", desc := "()Z" } : Jvm.MethodName) prog_3_method_3_code (1 : Nat) (Option.some Jvm.ClassFile.FieldType.boolean)) ∈ lw_all := lw_in (lw_tb (List.mem_of_getElem? (i := 307) (by decide +kernel))) rfl
theorem wq395 : (Jvm.Cond.methodLink "WeirStream$Stage" (127 : Nat) ({ cls := "WeirStream$Item", name := "time", desc := "(J)I" } : Jvm.MethodName)) ∈ lw_all := lw_in (lw_tb (List.mem_of_getElem? (i := 395) (by decide +kernel))) rfl
theorem wq412 : (Jvm.Cond.methodLink "WeirStream$Spans" (33 : Nat) ({ cls := "WeirStream$Spans", name := "placeFor", desc := "(J)I" } : Jvm.MethodName)) ∈ lw_all := lw_in (lw_tb (List.mem_of_getElem? (i := 412) (by decide +kernel))) rfl
theorem wq413 : (Jvm.Cond.instanceMethod ({ cls := "WeirStream$Spans", name := "placeFor", desc := "(J)I" } : Jvm.MethodName)) ∈ lw_all := lw_in (lw_tb (List.mem_of_getElem? (i := 413) (by decide +kernel))) rfl
theorem wq414 : (Jvm.Cond.selects "WeirStream$Spans" ({ cls := "WeirStream$Spans", name := "placeFor", desc := "(J)I" } : Jvm.MethodName) ({ cls := "WeirStream$Spans", name := "placeFor", desc := "(J)I" } : Jvm.MethodName)) ∈ lw_all := lw_in (lw_tb (List.mem_of_getElem? (i := 414) (by decide +kernel))) rfl
theorem wq415 : (Jvm.Cond.code ({ cls := "WeirStream$Spans", name := "placeFor", desc := "(J)I" } : Jvm.MethodName) prog_9_method_8_code (7 : Nat) (Option.some Jvm.ClassFile.FieldType.int)) ∈ lw_all := lw_in (lw_tb (List.mem_of_getElem? (i := 415) (by decide +kernel))) rfl
theorem wq444 : (Jvm.Cond.methodLink "WeirStream$Stage" (172 : Nat) ({ cls := "WeirStream$Item", name := "event", desc := "(III)J" } : Jvm.MethodName)) ∈ lw_all := lw_in (lw_tb (List.mem_of_getElem? (i := 444) (by decide +kernel))) rfl
theorem wq445 : (Jvm.Cond.static ({ cls := "WeirStream$Item", name := "event", desc := "(III)J" } : Jvm.MethodName)) ∈ lw_all := lw_in (lw_tb (List.mem_of_getElem? (i := 445) (by decide +kernel))) rfl
theorem wq446 : (Jvm.Cond.code ({ cls := "WeirStream$Item", name := "event", desc := "(III)J" } : Jvm.MethodName) prog_5_method_2_code (3 : Nat) (Option.some Jvm.ClassFile.FieldType.long)) ∈ lw_all := lw_in (lw_tb (List.mem_of_getElem? (i := 446) (by decide +kernel))) rfl
theorem wq484 : (Jvm.Cond.methodLink "WeirStream$Stage" (154 : Nat) ({ cls := "WeirStream$Item", name := "value", desc := "(J)I" } : Jvm.MethodName)) ∈ lw_all := lw_in (lw_tb (List.mem_of_getElem? (i := 484) (by decide +kernel))) rfl
theorem wq487 : (Jvm.Cond.methodLink "WeirStream$Stage" (163 : Nat) ({ cls := "WeirStream$Item", name := "key", desc := "(J)I" } : Jvm.MethodName)) ∈ lw_all := lw_in (lw_tb (List.mem_of_getElem? (i := 487) (by decide +kernel))) rfl
theorem wq488 : (Jvm.Cond.static ({ cls := "WeirStream$Item", name := "key", desc := "(J)I" } : Jvm.MethodName)) ∈ lw_all := lw_in (lw_tb (List.mem_of_getElem? (i := 488) (by decide +kernel))) rfl
theorem wq489 : (Jvm.Cond.code ({ cls := "WeirStream$Item", name := "key", desc := "(J)I" } : Jvm.MethodName) prog_5_method_7_code (2 : Nat) (Option.some Jvm.ClassFile.FieldType.int)) ∈ lw_all := lw_in (lw_tb (List.mem_of_getElem? (i := 489) (by decide +kernel))) rfl
theorem wq491 : (Jvm.Cond.methodLink "WeirStream$Stage" (166 : Nat) ({ cls := "java/lang/Math", name := "floorMod", desc := "(II)I" } : Jvm.MethodName)) ∈ lw_all := lw_in (lw_tb (List.mem_of_getElem? (i := 491) (by decide +kernel))) rfl
theorem wq492 : (Jvm.Cond.static ({ cls := "java/lang/Math", name := "floorMod", desc := "(II)I" } : Jvm.MethodName)) ∈ lw_all := lw_in (lw_tb (List.mem_of_getElem? (i := 492) (by decide +kernel))) rfl
theorem wq493 : (Jvm.Cond.code ({ cls := "java/lang/Math", name := "floorMod", desc := "(II)I" } : Jvm.MethodName) prog_24_method_50_code (3 : Nat) (Option.some Jvm.ClassFile.FieldType.int)) ∈ lw_all := lw_in (lw_tb (List.mem_of_getElem? (i := 493) (by decide +kernel))) rfl
theorem wq863 : (Jvm.Cond.laysFinal "WeirStream$Plan" "WeirStream$Plan" "sort" "I") ∈ lw_all := lw_in (lw_tb (List.mem_of_getElem? (i := 863) (by decide +kernel))) rfl
theorem wq865 : (Jvm.Cond.laysFinal "WeirStream$Plan" "WeirStream$Plan" "first" "I") ∈ lw_all := lw_in (lw_tb (List.mem_of_getElem? (i := 865) (by decide +kernel))) rfl
theorem wq867 : (Jvm.Cond.laysFinal "WeirStream$Plan" "WeirStream$Plan" "second" "I") ∈ lw_all := lw_in (lw_tb (List.mem_of_getElem? (i := 867) (by decide +kernel))) rfl
theorem wq869 : (Jvm.Cond.lays "WeirStream$Plan" "WeirStream$Plan" "slack" "I") ∈ lw_all := lw_in (lw_tb (List.mem_of_getElem? (i := 869) (by decide +kernel))) rfl
theorem wq871 : (Jvm.Cond.lays "WeirStream$Plan" "WeirStream$Plan" "rule" "I") ∈ lw_all := lw_in (lw_tb (List.mem_of_getElem? (i := 871) (by decide +kernel))) rfl
theorem wq873 : (Jvm.Cond.lays "WeirStream$Plan" "WeirStream$Plan" "n" "I") ∈ lw_all := lw_in (lw_tb (List.mem_of_getElem? (i := 873) (by decide +kernel))) rfl
theorem wq875 : (Jvm.Cond.lays "WeirStream$Plan" "WeirStream$Plan" "size" "I") ∈ lw_all := lw_in (lw_tb (List.mem_of_getElem? (i := 875) (by decide +kernel))) rfl
theorem wq877 : (Jvm.Cond.lays "WeirStream$Plan" "WeirStream$Plan" "step" "I") ∈ lw_all := lw_in (lw_tb (List.mem_of_getElem? (i := 877) (by decide +kernel))) rfl
theorem wq879 : (Jvm.Cond.lays "WeirStream$Plan" "WeirStream$Plan" "lateness" "I") ∈ lw_all := lw_in (lw_tb (List.mem_of_getElem? (i := 879) (by decide +kernel))) rfl
theorem wq881 : (Jvm.Cond.lays "WeirStream$Plan" "WeirStream$Plan" "gap" "I") ∈ lw_all := lw_in (lw_tb (List.mem_of_getElem? (i := 881) (by decide +kernel))) rfl
theorem wq883 : (Jvm.Cond.lays "WeirStream$Plan" "WeirStream$Plan" "before" "I") ∈ lw_all := lw_in (lw_tb (List.mem_of_getElem? (i := 883) (by decide +kernel))) rfl
theorem wq885 : (Jvm.Cond.lays "WeirStream$Plan" "WeirStream$Plan" "after" "I") ∈ lw_all := lw_in (lw_tb (List.mem_of_getElem? (i := 885) (by decide +kernel))) rfl
theorem wq887 : (Jvm.Cond.lays "WeirStream$Plan" "WeirStream$Plan" "account" "I") ∈ lw_all := lw_in (lw_tb (List.mem_of_getElem? (i := 887) (by decide +kernel))) rfl
theorem wq889 : (Jvm.Cond.lays "WeirStream$Plan" "WeirStream$Plan" "depth" "I") ∈ lw_all := lw_in (lw_tb (List.mem_of_getElem? (i := 889) (by decide +kernel))) rfl
theorem wq891 : (Jvm.Cond.lays "WeirStream$Plan" "WeirStream$Plan" "upstream" "I") ∈ lw_all := lw_in (lw_tb (List.mem_of_getElem? (i := 891) (by decide +kernel))) rfl
theorem wq1103 : (Jvm.Cond.fieldLink "WeirStream$Stage" (38 : Nat) "WeirStream$Stage" "plan" "LWeirStream$Plan;") ∈ lw_all := lw_in (lw_tb (List.mem_of_getElem? (i := 1103) (by decide +kernel))) rfl
theorem wq1106 : (Jvm.Cond.fieldLink "WeirStream$Stage" (42 : Nat) "WeirStream$Stage" "log" "LWeirStream$Row;") ∈ lw_all := lw_in (lw_tb (List.mem_of_getElem? (i := 1106) (by decide +kernel))) rfl
theorem wq1108 : (Jvm.Cond.fieldLink "WeirStream$Stage" (45 : Nat) "WeirStream$Stage" "first" "LWeirStream$Channel;") ∈ lw_all := lw_in (lw_tb (List.mem_of_getElem? (i := 1108) (by decide +kernel))) rfl
theorem wq1110 : (Jvm.Cond.fieldLink "WeirStream$Stage" (49 : Nat) "WeirStream$Stage" "second" "LWeirStream$Channel;") ∈ lw_all := lw_in (lw_tb (List.mem_of_getElem? (i := 1110) (by decide +kernel))) rfl
theorem wq1113 : (Jvm.Cond.fieldLink "WeirStream$Stage" (12 : Nat) "WeirStream$Stage" "outlet" "LWeirStream$Outlet;") ∈ lw_all := lw_in (lw_tb (List.mem_of_getElem? (i := 1113) (by decide +kernel))) rfl
theorem wq1118 : (Jvm.Cond.fieldLink "WeirStream$Stage" (28 : Nat) "WeirStream$Stage" "now" "LWeirStream$State;") ∈ lw_all := lw_in (lw_tb (List.mem_of_getElem? (i := 1118) (by decide +kernel))) rfl
theorem wq1125 : (Jvm.Cond.fieldLink "WeirStream$Stage" (79 : Nat) "WeirStream$Stage" "isClosed" "Z") ∈ lw_all := lw_in (lw_tb (List.mem_of_getElem? (i := 1125) (by decide +kernel))) rfl
theorem wq1127 : (Jvm.Cond.fieldLink "WeirStream$Stage" (73 : Nat) "WeirStream$Stage" "owesBarrier" "Z") ∈ lw_all := lw_in (lw_tb (List.mem_of_getElem? (i := 1127) (by decide +kernel))) rfl
theorem wq1129 : (Jvm.Cond.laysFinal "WeirStream$Stage" "WeirStream$Stage" "plan" "LWeirStream$Plan;") ∈ lw_all := lw_in (lw_tb (List.mem_of_getElem? (i := 1129) (by decide +kernel))) rfl
theorem wq1131 : (Jvm.Cond.laysFinal "WeirStream$Stage" "WeirStream$Stage" "log" "LWeirStream$Row;") ∈ lw_all := lw_in (lw_tb (List.mem_of_getElem? (i := 1131) (by decide +kernel))) rfl
theorem wq1133 : (Jvm.Cond.laysFinal "WeirStream$Stage" "WeirStream$Stage" "first" "LWeirStream$Channel;") ∈ lw_all := lw_in (lw_tb (List.mem_of_getElem? (i := 1133) (by decide +kernel))) rfl
theorem wq1135 : (Jvm.Cond.laysFinal "WeirStream$Stage" "WeirStream$Stage" "second" "LWeirStream$Channel;") ∈ lw_all := lw_in (lw_tb (List.mem_of_getElem? (i := 1135) (by decide +kernel))) rfl
theorem wq1137 : (Jvm.Cond.laysFinal "WeirStream$Stage" "WeirStream$Stage" "isTrial" "Z") ∈ lw_all := lw_in (lw_tb (List.mem_of_getElem? (i := 1137) (by decide +kernel))) rfl
theorem wq1139 : (Jvm.Cond.laysFinal "WeirStream$Stage" "WeirStream$Stage" "outlet" "LWeirStream$Outlet;") ∈ lw_all := lw_in (lw_tb (List.mem_of_getElem? (i := 1139) (by decide +kernel))) rfl
theorem wq1141 : (Jvm.Cond.laysFinal "WeirStream$Stage" "WeirStream$Stage" "output" "LWeirStream$Row;") ∈ lw_all := lw_in (lw_tb (List.mem_of_getElem? (i := 1141) (by decide +kernel))) rfl
theorem wq1143 : (Jvm.Cond.laysFinal "WeirStream$Stage" "WeirStream$Stage" "now" "LWeirStream$State;") ∈ lw_all := lw_in (lw_tb (List.mem_of_getElem? (i := 1143) (by decide +kernel))) rfl
theorem wq1145 : (Jvm.Cond.lays "WeirStream$Stage" "WeirStream$Stage" "latest" "LWeirStream$State;") ∈ lw_all := lw_in (lw_tb (List.mem_of_getElem? (i := 1145) (by decide +kernel))) rfl
theorem wq1147 : (Jvm.Cond.lays "WeirStream$Stage" "WeirStream$Stage" "coming" "LWeirStream$State;") ∈ lw_all := lw_in (lw_tb (List.mem_of_getElem? (i := 1147) (by decide +kernel))) rfl
theorem wq1149 : (Jvm.Cond.lays "WeirStream$Stage" "WeirStream$Stage" "isClosed" "Z") ∈ lw_all := lw_in (lw_tb (List.mem_of_getElem? (i := 1149) (by decide +kernel))) rfl
theorem wq1151 : (Jvm.Cond.lays "WeirStream$Stage" "WeirStream$Stage" "owesBarrier" "Z") ∈ lw_all := lw_in (lw_tb (List.mem_of_getElem? (i := 1151) (by decide +kernel))) rfl
theorem wr832 : (Jvm.Cond.fieldLinkNest "WeirStream$Stage" (68 : Nat) "WeirStream$Plan" "sort" "I" "WeirStream") ∈ lw_tbl := lw_tb (List.mem_of_getElem? (i := 832) (by decide +kernel))
theorem wr843 : (Jvm.Cond.fieldLinkNest "WeirStream$Stage" (160 : Nat) "WeirStream$Plan" "rule" "I" "WeirStream") ∈ lw_tbl := lw_tb (List.mem_of_getElem? (i := 843) (by decide +kernel))
theorem wr845 : (Jvm.Cond.fieldLinkNest "WeirStream$Stage" (157 : Nat) "WeirStream$Plan" "n" "I" "WeirStream") ∈ lw_tbl := lw_tb (List.mem_of_getElem? (i := 845) (by decide +kernel))
theorem wr855 : (Jvm.Cond.fieldLinkNest "WeirStream$Stage" (283 : Nat) "WeirStream$Plan" "before" "I" "WeirStream") ∈ lw_tbl := lw_tb (List.mem_of_getElem? (i := 855) (by decide +kernel))
theorem wr857 : (Jvm.Cond.fieldLinkNest "WeirStream$Stage" (286 : Nat) "WeirStream$Plan" "after" "I" "WeirStream") ∈ lw_tbl := lw_tb (List.mem_of_getElem? (i := 857) (by decide +kernel))
theorem wr1020 : (Jvm.Cond.fieldLinkNest "WeirStream$Flow" (72 : Nat) "WeirStream$Outlet" "channels" "Ljava/util/ArrayList;" "WeirStream") ∈ lw_tbl := lw_tb (List.mem_of_getElem? (i := 1020) (by decide +kernel))
theorem wr1052 : (Jvm.Cond.fieldLinkNest "WeirStream$Stage" (82 : Nat) "WeirStream$State" "mark" "I" "WeirStream") ∈ lw_tbl := lw_tb (List.mem_of_getElem? (i := 1052) (by decide +kernel))
theorem wr1059 : (Jvm.Cond.fieldLinkNest "WeirStream$Stage" (92 : Nat) "WeirStream$State" "tookSecond" "Z" "WeirStream") ∈ lw_tbl := lw_tb (List.mem_of_getElem? (i := 1059) (by decide +kernel))
theorem wr1061 : (Jvm.Cond.fieldLinkNest "WeirStream$Stage" (60 : Nat) "WeirStream$State" "taken" "I" "WeirStream") ∈ lw_tbl := lw_tb (List.mem_of_getElem? (i := 1061) (by decide +kernel))
theorem wr1114 : (Jvm.Cond.fieldLinkNest "WeirStream$Flow" (62 : Nat) "WeirStream$Stage" "outlet" "LWeirStream$Outlet;" "WeirStream") ∈ lw_tbl := lw_tb (List.mem_of_getElem? (i := 1114) (by decide +kernel))
theorem dJ9_floorMod_7cf53_0 : decode cJ9_floorMod_7cf53 0 = .ok (.iload_n 0, 1) := by decide +kernel
theorem dJ9_floorMod_7cf53_1 : decode cJ9_floorMod_7cf53 1 = .ok (.iload_n 1, 1) := by decide +kernel
theorem dJ9_floorMod_7cf53_2 : decode cJ9_floorMod_7cf53 2 = .ok (.irem, 1) := by decide +kernel
theorem dJ9_floorMod_7cf53_3 : decode cJ9_floorMod_7cf53 3 = .ok (.istore_n 2, 1) := by decide +kernel
theorem dJ9_floorMod_7cf53_4 : decode cJ9_floorMod_7cf53 4 = .ok (.iload_n 0, 1) := by decide +kernel
theorem dJ9_floorMod_7cf53_5 : decode cJ9_floorMod_7cf53 5 = .ok (.iload_n 1, 1) := by decide +kernel
theorem dJ9_floorMod_7cf53_6 : decode cJ9_floorMod_7cf53 6 = .ok (.ixor, 1) := by decide +kernel
theorem dJ9_floorMod_7cf53_7 : decode cJ9_floorMod_7cf53 7 = .ok (.ifCond .ge 11, 3) := by decide +kernel
theorem dJ9_floorMod_7cf53_18 : decode cJ9_floorMod_7cf53 18 = .ok (.iload_n 2, 1) := by decide +kernel
theorem dJ9_floorMod_7cf53_19 : decode cJ9_floorMod_7cf53 19 = .ok (.ireturn, 1) := by decide +kernel
theorem dJ9_floorMod_7cf53_10 : decode cJ9_floorMod_7cf53 10 = .ok (.iload_n 2, 1) := by decide +kernel
theorem dJ9_floorMod_7cf53_11 : decode cJ9_floorMod_7cf53 11 = .ok (.ifCond .eq 7, 3) := by decide +kernel
theorem dJ9_floorMod_7cf53_14 : decode cJ9_floorMod_7cf53 14 = .ok (.iload_n 2, 1) := by decide +kernel
theorem dJ9_floorMod_7cf53_15 : decode cJ9_floorMod_7cf53 15 = .ok (.iload_n 1, 1) := by decide +kernel
theorem dJ9_floorMod_7cf53_16 : decode cJ9_floorMod_7cf53 16 = .ok (.iadd, 1) := by decide +kernel
theorem dJ9_floorMod_7cf53_17 : decode cJ9_floorMod_7cf53 17 = .ok (.ireturn, 1) := by decide +kernel
theorem dJ9_floorDiv_7cf53_0 : decode cJ9_floorDiv_7cf53 0 = .ok (.iload_n 0, 1) := by decide +kernel
theorem dJ9_floorDiv_7cf53_1 : decode cJ9_floorDiv_7cf53 1 = .ok (.iload_n 1, 1) := by decide +kernel
theorem dJ9_floorDiv_7cf53_2 : decode cJ9_floorDiv_7cf53 2 = .ok (.idiv, 1) := by decide +kernel
theorem dJ9_floorDiv_7cf53_3 : decode cJ9_floorDiv_7cf53 3 = .ok (.istore_n 2, 1) := by decide +kernel
theorem dJ9_floorDiv_7cf53_4 : decode cJ9_floorDiv_7cf53 4 = .ok (.iload_n 0, 1) := by decide +kernel
theorem dJ9_floorDiv_7cf53_5 : decode cJ9_floorDiv_7cf53 5 = .ok (.iload_n 1, 1) := by decide +kernel
theorem dJ9_floorDiv_7cf53_6 : decode cJ9_floorDiv_7cf53 6 = .ok (.ixor, 1) := by decide +kernel
theorem dJ9_floorDiv_7cf53_7 : decode cJ9_floorDiv_7cf53 7 = .ok (.ifCond .ge 14, 3) := by decide +kernel
theorem dJ9_floorDiv_7cf53_21 : decode cJ9_floorDiv_7cf53 21 = .ok (.iload_n 2, 1) := by decide +kernel
theorem dJ9_floorDiv_7cf53_22 : decode cJ9_floorDiv_7cf53 22 = .ok (.ireturn, 1) := by decide +kernel
theorem dJ9_floorDiv_7cf53_10 : decode cJ9_floorDiv_7cf53 10 = .ok (.iload_n 2, 1) := by decide +kernel
theorem dJ9_floorDiv_7cf53_11 : decode cJ9_floorDiv_7cf53 11 = .ok (.iload_n 1, 1) := by decide +kernel
theorem dJ9_floorDiv_7cf53_12 : decode cJ9_floorDiv_7cf53 12 = .ok (.imul, 1) := by decide +kernel
theorem dJ9_floorDiv_7cf53_13 : decode cJ9_floorDiv_7cf53 13 = .ok (.iload_n 0, 1) := by decide +kernel
theorem dJ9_floorDiv_7cf53_14 : decode cJ9_floorDiv_7cf53 14 = .ok (.if_icmp .eq 7, 3) := by decide +kernel
theorem dJ9_floorDiv_7cf53_17 : decode cJ9_floorDiv_7cf53 17 = .ok (.iload_n 2, 1) := by decide +kernel
theorem dJ9_floorDiv_7cf53_18 : decode cJ9_floorDiv_7cf53 18 = .ok (.iconst 1, 1) := by decide +kernel
theorem dJ9_floorDiv_7cf53_19 : decode cJ9_floorDiv_7cf53 19 = .ok (.isub, 1) := by decide +kernel
theorem dJ9_floorDiv_7cf53_20 : decode cJ9_floorDiv_7cf53 20 = .ok (.ireturn, 1) := by decide +kernel
theorem dX10_isWithin_0 : decode cX10_isWithin 0 = .ok (.iload_n 0, 1) := by decide +kernel
theorem dX10_isWithin_1 : decode cX10_isWithin 1 = .ok (.iload_n 1, 1) := by decide +kernel
theorem dX10_isWithin_2 : decode cX10_isWithin 2 = .ok (.if_icmp .lt 12, 3) := by decide +kernel
theorem dX10_isWithin_14 : decode cX10_isWithin 14 = .ok (.iconst 0, 1) := by decide +kernel
theorem dX10_isWithin_15 : decode cX10_isWithin 15 = .ok (.ireturn, 1) := by decide +kernel
theorem dX10_isWithin_5 : decode cX10_isWithin 5 = .ok (.iload_n 0, 1) := by decide +kernel
theorem dX10_isWithin_6 : decode cX10_isWithin 6 = .ok (.iload_n 2, 1) := by decide +kernel
theorem dX10_isWithin_7 : decode cX10_isWithin 7 = .ok (.if_icmp .gt 7, 3) := by decide +kernel
theorem dX10_isWithin_10 : decode cX10_isWithin 10 = .ok (.iconst 1, 1) := by decide +kernel
theorem dX10_isWithin_11 : decode cX10_isWithin 11 = .ok (.goto 4, 3) := by decide +kernel
theorem dX10_bit_0 : decode cX10_bit 0 = .ok (.iload_n 0, 1) := by decide +kernel
theorem dX10_bit_1 : decode cX10_bit 1 = .ok (.ifCond .eq 7, 3) := by decide +kernel
theorem dX10_bit_8 : decode cX10_bit 8 = .ok (.iconst 0, 1) := by decide +kernel
theorem dX10_bit_9 : decode cX10_bit 9 = .ok (.ireturn, 1) := by decide +kernel
theorem dX10_bit_4 : decode cX10_bit 4 = .ok (.iconst 1, 1) := by decide +kernel
theorem dX10_bit_5 : decode cX10_bit 5 = .ok (.goto 4, 3) := by decide +kernel
theorem dX10_refuseUnless_0 : decode cX10_refuseUnless 0 = .ok (.iload_n 0, 1) := by decide +kernel
theorem dX10_refuseUnless_1 : decode cX10_refuseUnless 1 = .ok (.ifCond .ne 11, 3) := by decide +kernel
theorem dX10_refuseUnless_12 : decode cX10_refuseUnless 12 = .ok (.return_, 1) := by decide +kernel
theorem dX7_placeFor_14 : decode cX7_placeFor 14 = .ok (.iload 5, 2) := by decide +kernel
theorem dX7_placeFor_16 : decode cX7_placeFor 16 = .ok (.bipush 40, 2) := by decide +kernel
theorem dX7_placeFor_18 : decode cX7_placeFor 18 = .ok (.if_icmp .ge 49, 3) := by decide +kernel
theorem dX7_placeFor_67 : decode cX7_placeFor 67 = .ok (.iload_n 3, 1) := by decide +kernel
theorem dX7_placeFor_68 : decode cX7_placeFor 68 = .ok (.ireturn, 1) := by decide +kernel
theorem dX7_placeFor_21 : decode cX7_placeFor 21 = .ok (.iload_n 3, 1) := by decide +kernel
theorem dX7_placeFor_22 : decode cX7_placeFor 22 = .ok (.iload 4, 2) := by decide +kernel
theorem dX7_placeFor_24 : decode cX7_placeFor 24 = .ok (.if_icmp .ge 43, 3) := by decide +kernel
theorem dX7_placeFor_27 : decode cX7_placeFor 27 = .ok (.iload_n 3, 1) := by decide +kernel
theorem dX7_placeFor_28 : decode cX7_placeFor 28 = .ok (.iload 4, 2) := by decide +kernel
theorem dX7_placeFor_30 : decode cX7_placeFor 30 = .ok (.iadd, 1) := by decide +kernel
theorem dX7_placeFor_31 : decode cX7_placeFor 31 = .ok (.iconst 1, 1) := by decide +kernel
theorem dX7_placeFor_32 : decode cX7_placeFor 32 = .ok (.iushr, 1) := by decide +kernel
theorem dX7_placeFor_33 : decode cX7_placeFor 33 = .ok (.istore 6, 2) := by decide +kernel
theorem dX7_placeFor_35 : decode cX7_placeFor 35 = .ok (.aload_n 0, 1) := by decide +kernel
theorem dX7_placeFor_36 : decode cX7_placeFor 36 = .ok (.getfield 12, 3) := by decide +kernel
theorem dX7_placeFor_39 : decode cX7_placeFor 39 = .ok (.iload 6, 2) := by decide +kernel
theorem dX7_placeFor_41 : decode cX7_placeFor 41 = .ok (.invokevirtual 25, 3) := by decide +kernel
theorem dX7_placeFor_44 : decode cX7_placeFor 44 = .ok (.lload_n 1, 1) := by decide +kernel
theorem dX7_placeFor_45 : decode cX7_placeFor 45 = .ok (.lcmp, 1) := by decide +kernel
theorem dX7_placeFor_46 : decode cX7_placeFor 46 = .ok (.ifCond .ge 11, 3) := by decide +kernel
theorem dX7_placeFor_57 : decode cX7_placeFor 57 = .ok (.iload 6, 2) := by decide +kernel
theorem dX7_placeFor_59 : decode cX7_placeFor 59 = .ok (.istore 4, 2) := by decide +kernel
theorem dX7_placeFor_61 : decode cX7_placeFor 61 = .ok (.iinc 5 1, 3) := by decide +kernel
theorem dX7_placeFor_64 : decode cX7_placeFor 64 = .ok (.goto (-50), 3) := by decide +kernel
theorem dX7_placeFor_49 : decode cX7_placeFor 49 = .ok (.iload 6, 2) := by decide +kernel
theorem dX7_placeFor_51 : decode cX7_placeFor 51 = .ok (.iconst 1, 1) := by decide +kernel
theorem dX7_placeFor_52 : decode cX7_placeFor 52 = .ok (.iadd, 1) := by decide +kernel
theorem dX7_placeFor_53 : decode cX7_placeFor 53 = .ok (.istore_n 3, 1) := by decide +kernel
theorem dX7_placeFor_54 : decode cX7_placeFor 54 = .ok (.goto 7, 3) := by decide +kernel
theorem dX7_placeFor_0 : decode cX7_placeFor 0 = .ok (.iconst 0, 1) := by decide +kernel
theorem dX7_placeFor_1 : decode cX7_placeFor 1 = .ok (.istore_n 3, 1) := by decide +kernel
theorem dX7_placeFor_2 : decode cX7_placeFor 2 = .ok (.aload_n 0, 1) := by decide +kernel
theorem dX7_placeFor_3 : decode cX7_placeFor 3 = .ok (.getfield 12, 3) := by decide +kernel
theorem dX7_placeFor_6 : decode cX7_placeFor 6 = .ok (.invokevirtual 21, 3) := by decide +kernel
theorem dX7_placeFor_9 : decode cX7_placeFor 9 = .ok (.istore 4, 2) := by decide +kernel
theorem dX7_placeFor_11 : decode cX7_placeFor 11 = .ok (.iconst 0, 1) := by decide +kernel
theorem dX7_placeFor_12 : decode cX7_placeFor 12 = .ok (.istore 5, 2) := by decide +kernel
theorem dX7_firstEndingAbove_0 : decode cX7_firstEndingAbove 0 = .ok (.aload_n 0, 1) := by decide +kernel
theorem dX7_firstEndingAbove_1 : decode cX7_firstEndingAbove 1 = .ok (.iload_n 1, 1) := by decide +kernel
theorem dX7_firstEndingAbove_2 : decode cX7_firstEndingAbove 2 = .ok (.iconst 1, 1) := by decide +kernel
theorem dX7_firstEndingAbove_3 : decode cX7_firstEndingAbove 3 = .ok (.iadd, 1) := by decide +kernel
theorem dX7_firstEndingAbove_4 : decode cX7_firstEndingAbove 4 = .ok (.i2l, 1) := by decide +kernel
theorem dX7_firstEndingAbove_5 : decode cX7_firstEndingAbove 5 = .ok (.bipush 29, 2) := by decide +kernel
theorem dX7_firstEndingAbove_7 : decode cX7_firstEndingAbove 7 = .ok (.lshl, 1) := by decide +kernel
theorem dX7_firstEndingAbove_8 : decode cX7_firstEndingAbove 8 = .ok (.invokevirtual 33, 3) := by decide +kernel
theorem dX7_firstEndingAbove_11 : decode cX7_firstEndingAbove 11 = .ok (.ireturn, 1) := by decide +kernel
theorem dX8_channel_0 : decode cX8_channel 0 = .ok (.iload_n 1, 1) := by decide +kernel
theorem dX8_channel_1 : decode cX8_channel 1 = .ok (.ifCond .eq 10, 3) := by decide +kernel
theorem dX8_channel_11 : decode cX8_channel 11 = .ok (.aload_n 0, 1) := by decide +kernel
theorem dX8_channel_12 : decode cX8_channel 12 = .ok (.getfield 45, 3) := by decide +kernel
theorem dX8_channel_15 : decode cX8_channel 15 = .ok (.areturn, 1) := by decide +kernel
theorem dX8_channel_4 : decode cX8_channel 4 = .ok (.aload_n 0, 1) := by decide +kernel
theorem dX8_channel_5 : decode cX8_channel 5 = .ok (.getfield 49, 3) := by decide +kernel
theorem dX8_channel_8 : decode cX8_channel 8 = .ok (.goto 7, 3) := by decide +kernel
theorem dX8_unread_0 : decode cX8_unread 0 = .ok (.aload_n 0, 1) := by decide +kernel
theorem dX8_unread_1 : decode cX8_unread 1 = .ok (.getfield 42, 3) := by decide +kernel
theorem dX8_unread_4 : decode cX8_unread 4 = .ok (.invokevirtual 56, 3) := by decide +kernel
theorem dX8_unread_7 : decode cX8_unread 7 = .ok (.aload_n 0, 1) := by decide +kernel
theorem dX8_unread_8 : decode cX8_unread 8 = .ok (.getfield 28, 3) := by decide +kernel
theorem dX8_unread_11 : decode cX8_unread 11 = .ok (.getfield 60, 3) := by decide +kernel
theorem dX8_unread_14 : decode cX8_unread 14 = .ok (.isub, 1) := by decide +kernel
theorem dX8_unread_15 : decode cX8_unread 15 = .ok (.ireturn, 1) := by decide +kernel
theorem dX8_canWork_0 : decode cX8_canWork 0 = .ok (.aload_n 0, 1) := by decide +kernel
theorem dX8_canWork_1 : decode cX8_canWork 1 = .ok (.getfield 12, 3) := by decide +kernel
theorem dX8_canWork_4 : decode cX8_canWork 4 = .ok (.iload_n 1, 1) := by decide +kernel
theorem dX8_canWork_5 : decode cX8_canWork 5 = .ok (.invokevirtual 64, 3) := by decide +kernel
theorem dX8_canWork_8 : decode cX8_canWork 8 = .ok (.ifCond .ne 5, 3) := by decide +kernel
theorem dX8_canWork_11 : decode cX8_canWork 11 = .ok (.iconst 0, 1) := by decide +kernel
theorem dX8_canWork_12 : decode cX8_canWork 12 = .ok (.ireturn, 1) := by decide +kernel
theorem dX8_canWork_13 : decode cX8_canWork 13 = .ok (.aload_n 0, 1) := by decide +kernel
theorem dX8_canWork_14 : decode cX8_canWork 14 = .ok (.getfield 38, 3) := by decide +kernel
theorem dX8_canWork_17 : decode cX8_canWork 17 = .ok (.getfield 68, 3) := by decide +kernel
theorem dX8_canWork_20 : decode cX8_canWork 20 = .ok (.ifCond .ne 42, 3) := by decide +kernel
theorem dX8_canWork_23 : decode cX8_canWork 23 = .ok (.aload_n 0, 1) := by decide +kernel
theorem dX8_canWork_24 : decode cX8_canWork 24 = .ok (.getfield 73, 3) := by decide +kernel
theorem dX8_canWork_27 : decode cX8_canWork 27 = .ok (.ifCond .ne 29, 3) := by decide +kernel
theorem dX8_canWork_30 : decode cX8_canWork 30 = .ok (.aload_n 0, 1) := by decide +kernel
theorem dX8_canWork_31 : decode cX8_canWork 31 = .ok (.invokevirtual 76, 3) := by decide +kernel
theorem dX8_canWork_34 : decode cX8_canWork 34 = .ok (.ifCond .gt 22, 3) := by decide +kernel
theorem dX8_canWork_56 : decode cX8_canWork 56 = .ok (.iconst 1, 1) := by decide +kernel
theorem dX8_canWork_57 : decode cX8_canWork 57 = .ok (.goto 4, 3) := by decide +kernel
theorem dX8_canWork_61 : decode cX8_canWork 61 = .ok (.ireturn, 1) := by decide +kernel
theorem dX8_canWork_37 : decode cX8_canWork 37 = .ok (.aload_n 0, 1) := by decide +kernel
theorem dX8_canWork_38 : decode cX8_canWork 38 = .ok (.getfield 79, 3) := by decide +kernel
theorem dX8_canWork_41 : decode cX8_canWork 41 = .ok (.ifCond .eq 19, 3) := by decide +kernel
theorem dX8_canWork_60 : decode cX8_canWork 60 = .ok (.iconst 0, 1) := by decide +kernel
theorem dX8_canWork_44 : decode cX8_canWork 44 = .ok (.aload_n 0, 1) := by decide +kernel
theorem dX8_canWork_45 : decode cX8_canWork 45 = .ok (.getfield 28, 3) := by decide +kernel
theorem dX8_canWork_48 : decode cX8_canWork 48 = .ok (.getfield 82, 3) := by decide +kernel
theorem dX8_canWork_51 : decode cX8_canWork 51 = .ok (.ldc 85, 2) := by decide +kernel
theorem dX8_canWork_53 : decode cX8_canWork 53 = .ok (.if_icmp .eq 7, 3) := by decide +kernel
theorem dX8_canWork_62 : decode cX8_canWork 62 = .ok (.aload_n 0, 1) := by decide +kernel
theorem dX8_canWork_63 : decode cX8_canWork 63 = .ok (.getfield 45, 3) := by decide +kernel
theorem dX8_canWork_66 : decode cX8_canWork 66 = .ok (.ifnull 13, 3) := by decide +kernel
theorem dX8_canWork_69 : decode cX8_canWork 69 = .ok (.aload_n 0, 1) := by decide +kernel
theorem dX8_canWork_70 : decode cX8_canWork 70 = .ok (.getfield 45, 3) := by decide +kernel
theorem dX8_canWork_73 : decode cX8_canWork 73 = .ok (.invokevirtual 86, 3) := by decide +kernel
theorem dX8_canWork_76 : decode cX8_canWork 76 = .ok (.ifCond .ne 20, 3) := by decide +kernel
theorem dX8_canWork_79 : decode cX8_canWork 79 = .ok (.aload_n 0, 1) := by decide +kernel
theorem dX8_canWork_80 : decode cX8_canWork 80 = .ok (.getfield 49, 3) := by decide +kernel
theorem dX8_canWork_83 : decode cX8_canWork 83 = .ok (.ifnull 17, 3) := by decide +kernel
theorem dX8_canWork_86 : decode cX8_canWork 86 = .ok (.aload_n 0, 1) := by decide +kernel
theorem dX8_canWork_87 : decode cX8_canWork 87 = .ok (.getfield 49, 3) := by decide +kernel
theorem dX8_canWork_90 : decode cX8_canWork 90 = .ok (.invokevirtual 86, 3) := by decide +kernel
theorem dX8_canWork_93 : decode cX8_canWork 93 = .ok (.ifCond .eq 7, 3) := by decide +kernel
theorem dX8_canWork_100 : decode cX8_canWork 100 = .ok (.iconst 0, 1) := by decide +kernel
theorem dX8_canWork_101 : decode cX8_canWork 101 = .ok (.ireturn, 1) := by decide +kernel
theorem dX8_canWork_96 : decode cX8_canWork 96 = .ok (.iconst 1, 1) := by decide +kernel
theorem dX8_canWork_97 : decode cX8_canWork 97 = .ok (.goto 4, 3) := by decide +kernel
theorem dX8_turnsToSecond_0 : decode cX8_turnsToSecond 0 = .ok (.aload_n 0, 1) := by decide +kernel
theorem dX8_turnsToSecond_1 : decode cX8_turnsToSecond 1 = .ok (.getfield 49, 3) := by decide +kernel
theorem dX8_turnsToSecond_4 : decode cX8_turnsToSecond 4 = .ok (.ifnull 13, 3) := by decide +kernel
theorem dX8_turnsToSecond_7 : decode cX8_turnsToSecond 7 = .ok (.aload_n 0, 1) := by decide +kernel
theorem dX8_turnsToSecond_8 : decode cX8_turnsToSecond 8 = .ok (.getfield 49, 3) := by decide +kernel
theorem dX8_turnsToSecond_11 : decode cX8_turnsToSecond 11 = .ok (.invokevirtual 86, 3) := by decide +kernel
theorem dX8_turnsToSecond_14 : decode cX8_turnsToSecond 14 = .ok (.ifCond .ne 5, 3) := by decide +kernel
theorem dX8_turnsToSecond_17 : decode cX8_turnsToSecond 17 = .ok (.iconst 0, 1) := by decide +kernel
theorem dX8_turnsToSecond_18 : decode cX8_turnsToSecond 18 = .ok (.ireturn, 1) := by decide +kernel
theorem dX8_turnsToSecond_19 : decode cX8_turnsToSecond 19 = .ok (.aload_n 0, 1) := by decide +kernel
theorem dX8_turnsToSecond_20 : decode cX8_turnsToSecond 20 = .ok (.getfield 28, 3) := by decide +kernel
theorem dX8_turnsToSecond_23 : decode cX8_turnsToSecond 23 = .ok (.getfield 92, 3) := by decide +kernel
theorem dX8_turnsToSecond_26 : decode cX8_turnsToSecond 26 = .ok (.ifCond .eq 20, 3) := by decide +kernel
theorem dX8_turnsToSecond_46 : decode cX8_turnsToSecond 46 = .ok (.iconst 1, 1) := by decide +kernel
theorem dX8_turnsToSecond_47 : decode cX8_turnsToSecond 47 = .ok (.goto 4, 3) := by decide +kernel
theorem dX8_turnsToSecond_51 : decode cX8_turnsToSecond 51 = .ok (.ireturn, 1) := by decide +kernel
theorem dX8_turnsToSecond_29 : decode cX8_turnsToSecond 29 = .ok (.aload_n 0, 1) := by decide +kernel
theorem dX8_turnsToSecond_30 : decode cX8_turnsToSecond 30 = .ok (.getfield 45, 3) := by decide +kernel
theorem dX8_turnsToSecond_33 : decode cX8_turnsToSecond 33 = .ok (.ifnull 13, 3) := by decide +kernel
theorem dX8_turnsToSecond_36 : decode cX8_turnsToSecond 36 = .ok (.aload_n 0, 1) := by decide +kernel
theorem dX8_turnsToSecond_37 : decode cX8_turnsToSecond 37 = .ok (.getfield 45, 3) := by decide +kernel
theorem dX8_turnsToSecond_40 : decode cX8_turnsToSecond 40 = .ok (.invokevirtual 86, 3) := by decide +kernel
theorem dX8_turnsToSecond_43 : decode cX8_turnsToSecond 43 = .ok (.ifCond .ne 7, 3) := by decide +kernel
theorem dX8_turnsToSecond_50 : decode cX8_turnsToSecond 50 = .ok (.iconst 0, 1) := by decide +kernel
theorem dX8_passes_0 : decode cX8_passes 0 = .ok (.lload_n 1, 1) := by decide +kernel
theorem dX8_passes_1 : decode cX8_passes 1 = .ok (.invokestatic 154, 3) := by decide +kernel
theorem dX8_passes_4 : decode cX8_passes 4 = .ok (.istore_n 3, 1) := by decide +kernel
theorem dX8_passes_5 : decode cX8_passes 5 = .ok (.aload_n 0, 1) := by decide +kernel
theorem dX8_passes_6 : decode cX8_passes 6 = .ok (.getfield 38, 3) := by decide +kernel
theorem dX8_passes_9 : decode cX8_passes 9 = .ok (.getfield 157, 3) := by decide +kernel
theorem dX8_passes_12 : decode cX8_passes 12 = .ok (.istore 4, 2) := by decide +kernel
theorem dX8_passes_14 : decode cX8_passes 14 = .ok (.aload_n 0, 1) := by decide +kernel
theorem dX8_passes_15 : decode cX8_passes 15 = .ok (.getfield 38, 3) := by decide +kernel
theorem dX8_passes_18 : decode cX8_passes 18 = .ok (.getfield 160, 3) := by decide +kernel
theorem dX8_passes_21 : decode cX8_passes 21 = .ok (.tableswitch 66 0 2 #[27, 39, 51], 27) := by decide +kernel
theorem dX8_passes_48 : decode cX8_passes 48 = .ok (.iload_n 3, 1) := by decide +kernel
theorem dX8_passes_49 : decode cX8_passes 49 = .ok (.iload 4, 2) := by decide +kernel
theorem dX8_passes_51 : decode cX8_passes 51 = .ok (.if_icmp .lt 7, 3) := by decide +kernel
theorem dX8_passes_58 : decode cX8_passes 58 = .ok (.iconst 0, 1) := by decide +kernel
theorem dX8_passes_59 : decode cX8_passes 59 = .ok (.ireturn, 1) := by decide +kernel
theorem dX8_passes_54 : decode cX8_passes 54 = .ok (.iconst 1, 1) := by decide +kernel
theorem dX8_passes_55 : decode cX8_passes 55 = .ok (.goto 4, 3) := by decide +kernel
theorem dX8_passes_60 : decode cX8_passes 60 = .ok (.iload_n 3, 1) := by decide +kernel
theorem dX8_passes_61 : decode cX8_passes 61 = .ok (.iload 4, 2) := by decide +kernel
theorem dX8_passes_63 : decode cX8_passes 63 = .ok (.if_icmp .ge 7, 3) := by decide +kernel
theorem dX8_passes_70 : decode cX8_passes 70 = .ok (.iconst 0, 1) := by decide +kernel
theorem dX8_passes_71 : decode cX8_passes 71 = .ok (.ireturn, 1) := by decide +kernel
theorem dX8_passes_66 : decode cX8_passes 66 = .ok (.iconst 1, 1) := by decide +kernel
theorem dX8_passes_67 : decode cX8_passes 67 = .ok (.goto 4, 3) := by decide +kernel
theorem dX8_passes_72 : decode cX8_passes 72 = .ok (.lload_n 1, 1) := by decide +kernel
theorem dX8_passes_73 : decode cX8_passes 73 = .ok (.invokestatic 163, 3) := by decide +kernel
theorem dX8_passes_76 : decode cX8_passes 76 = .ok (.iload 4, 2) := by decide +kernel
theorem dX8_passes_78 : decode cX8_passes 78 = .ok (.if_icmp .ne 7, 3) := by decide +kernel
theorem dX8_passes_81 : decode cX8_passes 81 = .ok (.iconst 1, 1) := by decide +kernel
theorem dX8_passes_82 : decode cX8_passes 82 = .ok (.goto 4, 3) := by decide +kernel
theorem dX8_passes_86 : decode cX8_passes 86 = .ok (.ireturn, 1) := by decide +kernel
theorem dX8_passes_85 : decode cX8_passes 85 = .ok (.iconst 0, 1) := by decide +kernel
theorem dX8_passes_87 : decode cX8_passes 87 = .ok (.iload 4, 2) := by decide +kernel
theorem dX8_passes_89 : decode cX8_passes 89 = .ok (.ifCond .eq 16, 3) := by decide +kernel
theorem dX8_passes_105 : decode cX8_passes 105 = .ok (.iconst 0, 1) := by decide +kernel
theorem dX8_passes_106 : decode cX8_passes 106 = .ok (.ireturn, 1) := by decide +kernel
theorem dX8_passes_92 : decode cX8_passes 92 = .ok (.iload_n 3, 1) := by decide +kernel
theorem dX8_passes_93 : decode cX8_passes 93 = .ok (.iload 4, 2) := by decide +kernel
theorem dX8_passes_95 : decode cX8_passes 95 = .ok (.invokestatic 166, 3) := by decide +kernel
theorem dX8_passes_98 : decode cX8_passes 98 = .ok (.ifCond .ne 7, 3) := by decide +kernel
theorem dX8_passes_101 : decode cX8_passes 101 = .ok (.iconst 1, 1) := by decide +kernel
theorem dX8_passes_102 : decode cX8_passes 102 = .ok (.goto 4, 3) := by decide +kernel
theorem dX8_mapped_0 : decode cX8_mapped 0 = .ok (.lload_n 1, 1) := by decide +kernel
theorem dX8_mapped_1 : decode cX8_mapped 1 = .ok (.invokestatic 163, 3) := by decide +kernel
theorem dX8_mapped_4 : decode cX8_mapped 4 = .ok (.istore_n 3, 1) := by decide +kernel
theorem dX8_mapped_5 : decode cX8_mapped 5 = .ok (.lload_n 1, 1) := by decide +kernel
theorem dX8_mapped_6 : decode cX8_mapped 6 = .ok (.invokestatic 154, 3) := by decide +kernel
theorem dX8_mapped_9 : decode cX8_mapped 9 = .ok (.istore 4, 2) := by decide +kernel
theorem dX8_mapped_11 : decode cX8_mapped 11 = .ok (.lload_n 1, 1) := by decide +kernel
theorem dX8_mapped_12 : decode cX8_mapped 12 = .ok (.invokestatic 127, 3) := by decide +kernel
theorem dX8_mapped_15 : decode cX8_mapped 15 = .ok (.istore 5, 2) := by decide +kernel
theorem dX8_mapped_17 : decode cX8_mapped 17 = .ok (.aload_n 0, 1) := by decide +kernel
theorem dX8_mapped_18 : decode cX8_mapped 18 = .ok (.getfield 38, 3) := by decide +kernel
theorem dX8_mapped_21 : decode cX8_mapped 21 = .ok (.getfield 157, 3) := by decide +kernel
theorem dX8_mapped_24 : decode cX8_mapped 24 = .ok (.istore 6, 2) := by decide +kernel
theorem dX8_mapped_26 : decode cX8_mapped 26 = .ok (.aload_n 0, 1) := by decide +kernel
theorem dX8_mapped_27 : decode cX8_mapped 27 = .ok (.getfield 38, 3) := by decide +kernel
theorem dX8_mapped_30 : decode cX8_mapped 30 = .ok (.getfield 160, 3) := by decide +kernel
theorem dX8_mapped_33 : decode cX8_mapped 33 = .ok (.tableswitch 76 0 2 #[27, 39, 51], 27) := by decide +kernel
theorem dX8_mapped_60 : decode cX8_mapped 60 = .ok (.iload_n 3, 1) := by decide +kernel
theorem dX8_mapped_61 : decode cX8_mapped 61 = .ok (.iload 4, 2) := by decide +kernel
theorem dX8_mapped_63 : decode cX8_mapped 63 = .ok (.iload 6, 2) := by decide +kernel
theorem dX8_mapped_65 : decode cX8_mapped 65 = .ok (.iadd, 1) := by decide +kernel
theorem dX8_mapped_66 : decode cX8_mapped 66 = .ok (.iload 5, 2) := by decide +kernel
theorem dX8_mapped_68 : decode cX8_mapped 68 = .ok (.invokestatic 172, 3) := by decide +kernel
theorem dX8_mapped_71 : decode cX8_mapped 71 = .ok (.lreturn, 1) := by decide +kernel
theorem dX8_mapped_72 : decode cX8_mapped 72 = .ok (.iload_n 3, 1) := by decide +kernel
theorem dX8_mapped_73 : decode cX8_mapped 73 = .ok (.iload 4, 2) := by decide +kernel
theorem dX8_mapped_75 : decode cX8_mapped 75 = .ok (.iload 6, 2) := by decide +kernel
theorem dX8_mapped_77 : decode cX8_mapped 77 = .ok (.imul, 1) := by decide +kernel
theorem dX8_mapped_78 : decode cX8_mapped 78 = .ok (.iload 5, 2) := by decide +kernel
theorem dX8_mapped_80 : decode cX8_mapped 80 = .ok (.invokestatic 172, 3) := by decide +kernel
theorem dX8_mapped_83 : decode cX8_mapped 83 = .ok (.lreturn, 1) := by decide +kernel
theorem dX8_mapped_84 : decode cX8_mapped 84 = .ok (.iload 6, 2) := by decide +kernel
theorem dX8_mapped_86 : decode cX8_mapped 86 = .ok (.iconst 1, 1) := by decide +kernel
theorem dX8_mapped_87 : decode cX8_mapped 87 = .ok (.if_icmp .ge 7, 3) := by decide +kernel
theorem dX8_mapped_94 : decode cX8_mapped 94 = .ok (.iload 4, 2) := by decide +kernel
theorem dX8_mapped_96 : decode cX8_mapped 96 = .ok (.iload 6, 2) := by decide +kernel
theorem dX8_mapped_98 : decode cX8_mapped 98 = .ok (.invokestatic 166, 3) := by decide +kernel
theorem dX8_mapped_101 : decode cX8_mapped 101 = .ok (.iload 4, 2) := by decide +kernel
theorem dX8_mapped_103 : decode cX8_mapped 103 = .ok (.iload 5, 2) := by decide +kernel
theorem dX8_mapped_105 : decode cX8_mapped 105 = .ok (.invokestatic 172, 3) := by decide +kernel
theorem dX8_mapped_108 : decode cX8_mapped 108 = .ok (.lreturn, 1) := by decide +kernel
theorem dX8_mapped_90 : decode cX8_mapped 90 = .ok (.iload_n 3, 1) := by decide +kernel
theorem dX8_mapped_91 : decode cX8_mapped 91 = .ok (.goto 10, 3) := by decide +kernel
theorem dX8_mapped_109 : decode cX8_mapped 109 = .ok (.iload_n 3, 1) := by decide +kernel
theorem dX8_mapped_110 : decode cX8_mapped 110 = .ok (.iload_n 3, 1) := by decide +kernel
theorem dX8_mapped_111 : decode cX8_mapped 111 = .ok (.iload 5, 2) := by decide +kernel
theorem dX8_mapped_113 : decode cX8_mapped 113 = .ok (.invokestatic 172, 3) := by decide +kernel
theorem dX8_mapped_116 : decode cX8_mapped 116 = .ok (.lreturn, 1) := by decide +kernel
theorem dX8_meets_0 : decode cX8_meets 0 = .ok (.lload_n 1, 1) := by decide +kernel
theorem dX8_meets_1 : decode cX8_meets 1 = .ok (.invokestatic 127, 3) := by decide +kernel
theorem dX8_meets_4 : decode cX8_meets 4 = .ok (.istore 5, 2) := by decide +kernel
theorem dX8_meets_6 : decode cX8_meets 6 = .ok (.lload_n 3, 1) := by decide +kernel
theorem dX8_meets_7 : decode cX8_meets 7 = .ok (.invokestatic 127, 3) := by decide +kernel
theorem dX8_meets_10 : decode cX8_meets 10 = .ok (.istore 6, 2) := by decide +kernel
theorem dX8_meets_12 : decode cX8_meets 12 = .ok (.lload_n 1, 1) := by decide +kernel
theorem dX8_meets_13 : decode cX8_meets 13 = .ok (.invokestatic 163, 3) := by decide +kernel
theorem dX8_meets_16 : decode cX8_meets 16 = .ok (.lload_n 3, 1) := by decide +kernel
theorem dX8_meets_17 : decode cX8_meets 17 = .ok (.invokestatic 163, 3) := by decide +kernel
theorem dX8_meets_20 : decode cX8_meets 20 = .ok (.if_icmp .ne 37, 3) := by decide +kernel
theorem dX8_meets_23 : decode cX8_meets 23 = .ok (.iload 5, 2) := by decide +kernel
theorem dX8_meets_25 : decode cX8_meets 25 = .ok (.aload_n 0, 1) := by decide +kernel
theorem dX8_meets_26 : decode cX8_meets 26 = .ok (.getfield 38, 3) := by decide +kernel
theorem dX8_meets_29 : decode cX8_meets 29 = .ok (.getfield 283, 3) := by decide +kernel
theorem dX8_meets_32 : decode cX8_meets 32 = .ok (.isub, 1) := by decide +kernel
theorem dX8_meets_33 : decode cX8_meets 33 = .ok (.iload 6, 2) := by decide +kernel
theorem dX8_meets_35 : decode cX8_meets 35 = .ok (.if_icmp .gt 22, 3) := by decide +kernel
theorem dX8_meets_57 : decode cX8_meets 57 = .ok (.iconst 0, 1) := by decide +kernel
theorem dX8_meets_58 : decode cX8_meets 58 = .ok (.ireturn, 1) := by decide +kernel
theorem dX8_meets_38 : decode cX8_meets 38 = .ok (.iload 6, 2) := by decide +kernel
theorem dX8_meets_40 : decode cX8_meets 40 = .ok (.iload 5, 2) := by decide +kernel
theorem dX8_meets_42 : decode cX8_meets 42 = .ok (.aload_n 0, 1) := by decide +kernel
theorem dX8_meets_43 : decode cX8_meets 43 = .ok (.getfield 38, 3) := by decide +kernel
theorem dX8_meets_46 : decode cX8_meets 46 = .ok (.getfield 286, 3) := by decide +kernel
theorem dX8_meets_49 : decode cX8_meets 49 = .ok (.iadd, 1) := by decide +kernel
theorem dX8_meets_50 : decode cX8_meets 50 = .ok (.if_icmp .gt 7, 3) := by decide +kernel
theorem dX8_meets_53 : decode cX8_meets 53 = .ok (.iconst 1, 1) := by decide +kernel
theorem dX8_meets_54 : decode cX8_meets 54 = .ok (.goto 4, 3) := by decide +kernel
theorem dX8_joined_0 : decode cX8_joined 0 = .ok (.aload_n 0, 1) := by decide +kernel
theorem dX8_joined_1 : decode cX8_joined 1 = .ok (.getfield 38, 3) := by decide +kernel
theorem dX8_joined_4 : decode cX8_joined 4 = .ok (.getfield 160, 3) := by decide +kernel
theorem dX8_joined_7 : decode cX8_joined 7 = .ok (.tableswitch 37 0 2 #[25, 29, 33], 25) := by decide +kernel
theorem dX8_joined_32 : decode cX8_joined 32 = .ok (.iload_n 1, 1) := by decide +kernel
theorem dX8_joined_33 : decode cX8_joined 33 = .ok (.iload_n 2, 1) := by decide +kernel
theorem dX8_joined_34 : decode cX8_joined 34 = .ok (.iadd, 1) := by decide +kernel
theorem dX8_joined_35 : decode cX8_joined 35 = .ok (.ireturn, 1) := by decide +kernel
theorem dX8_joined_36 : decode cX8_joined 36 = .ok (.iload_n 1, 1) := by decide +kernel
theorem dX8_joined_37 : decode cX8_joined 37 = .ok (.iload_n 2, 1) := by decide +kernel
theorem dX8_joined_38 : decode cX8_joined 38 = .ok (.isub, 1) := by decide +kernel
theorem dX8_joined_39 : decode cX8_joined 39 = .ok (.ireturn, 1) := by decide +kernel
theorem dX8_joined_40 : decode cX8_joined 40 = .ok (.iload_n 1, 1) := by decide +kernel
theorem dX8_joined_41 : decode cX8_joined 41 = .ok (.iload_n 2, 1) := by decide +kernel
theorem dX8_joined_42 : decode cX8_joined 42 = .ok (.imul, 1) := by decide +kernel
theorem dX8_joined_43 : decode cX8_joined 43 = .ok (.ireturn, 1) := by decide +kernel
theorem dX8_joined_44 : decode cX8_joined 44 = .ok (.iload_n 1, 1) := by decide +kernel
theorem dX8_joined_45 : decode cX8_joined 45 = .ok (.ireturn, 1) := by decide +kernel
theorem dX2_size_0 : decode cX2_size 0 = .ok (.aload_n 0, 1) := by decide +kernel
theorem dX2_size_1 : decode cX2_size 1 = .ok (.getfield 12, 3) := by decide +kernel
theorem dX2_size_4 : decode cX2_size 4 = .ok (.invokevirtual 29, 3) := by decide +kernel
theorem dX2_size_7 : decode cX2_size 7 = .ok (.ireturn, 1) := by decide +kernel
theorem dX2_at_0 : decode cX2_at 0 = .ok (.iload_n 1, 1) := by decide +kernel
theorem dX2_at_1 : decode cX2_at 1 = .ok (.ifCond .lt 28, 3) := by decide +kernel
theorem dX2_at_29 : decode cX2_at 29 = .ok (.aconst_null, 1) := by decide +kernel
theorem dX2_at_30 : decode cX2_at 30 = .ok (.areturn, 1) := by decide +kernel
theorem dX2_at_4 : decode cX2_at 4 = .ok (.iload_n 1, 1) := by decide +kernel
theorem dX2_at_5 : decode cX2_at 5 = .ok (.aload_n 0, 1) := by decide +kernel
theorem dX2_at_6 : decode cX2_at 6 = .ok (.getfield 12, 3) := by decide +kernel
theorem dX2_at_9 : decode cX2_at 9 = .ok (.invokevirtual 29, 3) := by decide +kernel
theorem dX2_at_12 : decode cX2_at 12 = .ok (.if_icmp .ge 17, 3) := by decide +kernel
theorem dX2_at_15 : decode cX2_at 15 = .ok (.aload_n 0, 1) := by decide +kernel
theorem dX2_at_16 : decode cX2_at 16 = .ok (.getfield 12, 3) := by decide +kernel
theorem dX2_at_19 : decode cX2_at 19 = .ok (.iload_n 1, 1) := by decide +kernel
theorem dX2_at_20 : decode cX2_at 20 = .ok (.invokevirtual 33, 3) := by decide +kernel
theorem dX2_at_23 : decode cX2_at 23 = .ok (.checkcast 37, 3) := by decide +kernel
theorem dX2_at_26 : decode cX2_at 26 = .ok (.goto 4, 3) := by decide +kernel
theorem dX2_channels_4 : decode cX2_channels 4 = .ok (.iload_n 2, 1) := by decide +kernel
theorem dX2_channels_5 : decode cX2_channels 5 = .ok (.aload_n 0, 1) := by decide +kernel
theorem dX2_channels_6 : decode cX2_channels 6 = .ok (.getfield 12, 3) := by decide +kernel
theorem dX2_channels_9 : decode cX2_channels 9 = .ok (.invokevirtual 29, 3) := by decide +kernel
theorem dX2_channels_12 : decode cX2_channels 12 = .ok (.if_icmp .ge 32, 3) := by decide +kernel
theorem dX2_channels_44 : decode cX2_channels 44 = .ok (.iload_n 1, 1) := by decide +kernel
theorem dX2_channels_45 : decode cX2_channels 45 = .ok (.ireturn, 1) := by decide +kernel
theorem dX2_channels_15 : decode cX2_channels 15 = .ok (.iload_n 1, 1) := by decide +kernel
theorem dX2_channels_16 : decode cX2_channels 16 = .ok (.aload_n 0, 1) := by decide +kernel
theorem dX2_channels_17 : decode cX2_channels 17 = .ok (.getfield 12, 3) := by decide +kernel
theorem dX2_channels_20 : decode cX2_channels 20 = .ok (.iload_n 2, 1) := by decide +kernel
theorem dX2_channels_21 : decode cX2_channels 21 = .ok (.invokevirtual 33, 3) := by decide +kernel
theorem dX2_channels_24 : decode cX2_channels 24 = .ok (.checkcast 37, 3) := by decide +kernel
theorem dX2_channels_27 : decode cX2_channels 27 = .ok (.getfield 62, 3) := by decide +kernel
theorem dX2_channels_30 : decode cX2_channels 30 = .ok (.getfield 72, 3) := by decide +kernel
theorem dX2_channels_33 : decode cX2_channels 33 = .ok (.invokevirtual 29, 3) := by decide +kernel
theorem dX2_channels_36 : decode cX2_channels 36 = .ok (.iadd, 1) := by decide +kernel
theorem dX2_channels_37 : decode cX2_channels 37 = .ok (.istore_n 1, 1) := by decide +kernel
theorem dX2_channels_38 : decode cX2_channels 38 = .ok (.iinc 2 1, 3) := by decide +kernel
theorem dX2_channels_41 : decode cX2_channels 41 = .ok (.goto (-37), 3) := by decide +kernel
theorem dX2_channels_0 : decode cX2_channels 0 = .ok (.iconst 0, 1) := by decide +kernel
theorem dX2_channels_1 : decode cX2_channels 1 = .ok (.istore_n 1, 1) := by decide +kernel
theorem dX2_channels_2 : decode cX2_channels 2 = .ok (.iconst 0, 1) := by decide +kernel
theorem dX2_channels_3 : decode cX2_channels 3 = .ok (.istore_n 2, 1) := by decide +kernel
theorem iX2 : ∀ w ∈ u_ws RX2 TX2 8, w ∈ lw_all := by
  intro w hw
  have h : w ∈ [(Jvm.Cond.laysFinal "WeirStream$Flow" "WeirStream$Flow" "isTrial" "Z"), (Jvm.Cond.laysFinal "WeirStream$Flow" "WeirStream$Flow" "stages" "Ljava/util/ArrayList;"), (Jvm.Cond.lays "WeirStream$Flow" "WeirStream$Flow" "capacity" "I"), (Jvm.Cond.lays "WeirStream$Flow" "WeirStream$Flow" "lastWorked" "I"), (Jvm.Cond.lays "WeirStream$Flow" "WeirStream$Flow" "begunCount" "I"), (Jvm.Cond.lays "WeirStream$Flow" "WeirStream$Flow" "begunNumber" "I"), (Jvm.Cond.lays "WeirStream$Flow" "WeirStream$Flow" "completeNumber" "I"), (Jvm.Cond.lays "WeirStream$Flow" "WeirStream$Flow" "unsaved" "I")] := hw
  simp only [List.mem_cons, List.not_mem_nil, or_false] at h
  rcases h with rfl | rfl | rfl | rfl | rfl | rfl | rfl | rfl
  · exact wq78
  · exact wq80
  · exact wq82
  · exact wq84
  · exact wq86
  · exact wq88
  · exact wq90
  · exact wq92
theorem dfX2 : ∀ j, j < 8 → defaultValue (tyX2 j) = vp_V [.int 0, .null, .int 0, .int 0, .int 0, .int 0, .int 0, .int 0] j := by
  intro j hj
  rcases (show j = 0 ∨ j = 1 ∨ j = 2 ∨ j = 3 ∨ j = 4 ∨ j = 5 ∨ j = 6 ∨ j = 7 by omega) with rfl | rfl | rfl | rfl | rfl | rfl | rfl | rfl <;> rfl
theorem iX5 : ∀ w ∈ u_ws RX5 TX5 15, w ∈ lw_all := by
  intro w hw
  have h : w ∈ [(Jvm.Cond.laysFinal "WeirStream$Plan" "WeirStream$Plan" "sort" "I"), (Jvm.Cond.laysFinal "WeirStream$Plan" "WeirStream$Plan" "first" "I"), (Jvm.Cond.laysFinal "WeirStream$Plan" "WeirStream$Plan" "second" "I"), (Jvm.Cond.lays "WeirStream$Plan" "WeirStream$Plan" "slack" "I"), (Jvm.Cond.lays "WeirStream$Plan" "WeirStream$Plan" "rule" "I"), (Jvm.Cond.lays "WeirStream$Plan" "WeirStream$Plan" "n" "I"), (Jvm.Cond.lays "WeirStream$Plan" "WeirStream$Plan" "size" "I"), (Jvm.Cond.lays "WeirStream$Plan" "WeirStream$Plan" "step" "I"), (Jvm.Cond.lays "WeirStream$Plan" "WeirStream$Plan" "lateness" "I"), (Jvm.Cond.lays "WeirStream$Plan" "WeirStream$Plan" "gap" "I"), (Jvm.Cond.lays "WeirStream$Plan" "WeirStream$Plan" "before" "I"), (Jvm.Cond.lays "WeirStream$Plan" "WeirStream$Plan" "after" "I"), (Jvm.Cond.lays "WeirStream$Plan" "WeirStream$Plan" "account" "I"), (Jvm.Cond.lays "WeirStream$Plan" "WeirStream$Plan" "depth" "I"), (Jvm.Cond.lays "WeirStream$Plan" "WeirStream$Plan" "upstream" "I")] := hw
  simp only [List.mem_cons, List.not_mem_nil, or_false] at h
  rcases h with rfl | rfl | rfl | rfl | rfl | rfl | rfl | rfl | rfl | rfl | rfl | rfl | rfl | rfl | rfl
  · exact wq863
  · exact wq865
  · exact wq867
  · exact wq869
  · exact wq871
  · exact wq873
  · exact wq875
  · exact wq877
  · exact wq879
  · exact wq881
  · exact wq883
  · exact wq885
  · exact wq887
  · exact wq889
  · exact wq891
theorem dfX5 : ∀ j, j < 15 → defaultValue (tyX5 j) = vp_V [.int 0, .int 0, .int 0, .int 0, .int 0, .int 0, .int 0, .int 0, .int 0, .int 0, .int 0, .int 0, .int 0, .int 0, .int 0] j := by
  intro j hj
  rcases (show j = 0 ∨ j = 1 ∨ j = 2 ∨ j = 3 ∨ j = 4 ∨ j = 5 ∨ j = 6 ∨ j = 7 ∨ j = 8 ∨ j = 9 ∨ j = 10 ∨ j = 11 ∨ j = 12 ∨ j = 13 ∨ j = 14 by omega) with rfl | rfl | rfl | rfl | rfl | rfl | rfl | rfl | rfl | rfl | rfl | rfl | rfl | rfl | rfl <;> rfl
theorem iX8 : ∀ w ∈ u_ws RX8 TX8 12, w ∈ lw_all := by
  intro w hw
  have h : w ∈ [(Jvm.Cond.laysFinal "WeirStream$Stage" "WeirStream$Stage" "plan" "LWeirStream$Plan;"), (Jvm.Cond.laysFinal "WeirStream$Stage" "WeirStream$Stage" "log" "LWeirStream$Row;"), (Jvm.Cond.laysFinal "WeirStream$Stage" "WeirStream$Stage" "first" "LWeirStream$Channel;"), (Jvm.Cond.laysFinal "WeirStream$Stage" "WeirStream$Stage" "second" "LWeirStream$Channel;"), (Jvm.Cond.laysFinal "WeirStream$Stage" "WeirStream$Stage" "isTrial" "Z"), (Jvm.Cond.laysFinal "WeirStream$Stage" "WeirStream$Stage" "outlet" "LWeirStream$Outlet;"), (Jvm.Cond.laysFinal "WeirStream$Stage" "WeirStream$Stage" "output" "LWeirStream$Row;"), (Jvm.Cond.laysFinal "WeirStream$Stage" "WeirStream$Stage" "now" "LWeirStream$State;"), (Jvm.Cond.lays "WeirStream$Stage" "WeirStream$Stage" "latest" "LWeirStream$State;"), (Jvm.Cond.lays "WeirStream$Stage" "WeirStream$Stage" "coming" "LWeirStream$State;"), (Jvm.Cond.lays "WeirStream$Stage" "WeirStream$Stage" "isClosed" "Z"), (Jvm.Cond.lays "WeirStream$Stage" "WeirStream$Stage" "owesBarrier" "Z")] := hw
  simp only [List.mem_cons, List.not_mem_nil, or_false] at h
  rcases h with rfl | rfl | rfl | rfl | rfl | rfl | rfl | rfl | rfl | rfl | rfl | rfl
  · exact wq1129
  · exact wq1131
  · exact wq1133
  · exact wq1135
  · exact wq1137
  · exact wq1139
  · exact wq1141
  · exact wq1143
  · exact wq1145
  · exact wq1147
  · exact wq1149
  · exact wq1151
theorem dfX8 : ∀ j, j < 12 → defaultValue (tyX8 j) = vp_V [.null, .null, .null, .null, .int 0, .null, .null, .null, .null, .null, .int 0, .int 0] j := by
  intro j hj
  rcases (show j = 0 ∨ j = 1 ∨ j = 2 ∨ j = 3 ∨ j = 4 ∨ j = 5 ∨ j = 6 ∨ j = 7 ∨ j = 8 ∨ j = 9 ∨ j = 10 ∨ j = 11 by omega) with rfl | rfl | rfl | rfl | rfl | rfl | rfl | rfl | rfl | rfl | rfl | rfl <;> rfl
end
section
def v_J9_floorMod (i1 : Int32) (i2 : Int32) : Int32 := if 0 ≤ (i1 ^^^ i2) then i1 - i1 / i2 * i2 else if (i1 - i1 / i2 * i2) = 0 then i1 - i1 / i2 * i2 else (i1 - i1 / i2 * i2) + i2
set_option maxHeartbeats 4000000 in
set_option maxRecDepth 100000 in
theorem k_J9_floorMod (l : Launch) (i1 : Int32) (i2 : Int32) (h0 : ¬ i2 = 0) : Met l yJ9_floorMod_7cf53 (ws_ yJ9_floorMod_7cf53 cJ9_floorMod_7cf53 3 (some .int)) ({ frames := 0, cells := 0, slots := 0, locals := 0 }) (PN [.int i1, .int i2]) (zQ (some (.int (v_J9_floorMod i1 i2)))) 0 0 zno := by
  refine tk_NF (by decide +kernel) (Nat.le_of_ble_eq_true rfl) ?_
  intro p e s m args below meth c ls hx hb hml hr hlk hown hts hl
  have hl : lv_has ls 3 [(0, .int i1), (1, .int i2)] := hl
  refine lv_iload_n hx hb dJ9_floorMod_7cf53_0 rfl (lv_at hl 0 rfl) ?_
  refine lv_iload_n hx hb dJ9_floorMod_7cf53_1 rfl (lv_at hl 1 rfl) ?_
  refine lv_irem hx hb dJ9_floorMod_7cf53_2 (by assumption) ?_
  refine lv_istore_n (lv' := [(2, .int (i1 - i1 / i2 * i2)), (0, .int i1), (1, .int i2)]) hx hb dJ9_floorMod_7cf53_3 rfl hl (by decide) rfl (fun ls hl => ?_)
  refine lv_iload_n hx hb dJ9_floorMod_7cf53_4 rfl (lv_at hl 1 rfl) ?_
  refine lv_iload_n hx hb dJ9_floorMod_7cf53_5 rfl (lv_at hl 2 rfl) ?_
  refine lv_ixor hx hb dJ9_floorMod_7cf53_6 ?_
  refine lv_if_ge (tgt := 18) hx hb dJ9_floorMod_7cf53_7 (by decide) (fun hb1 => ?_) (fun hb1 => ?_)
  · refine lv_iload_n hx hb dJ9_floorMod_7cf53_18 rfl (lv_at hl 0 rfl) ?_
    exact ze_i hx hb hr hlk rfl (by unfold v_J9_floorMod; rw [if_pos hb1]) dJ9_floorMod_7cf53_19
  · refine lv_iload_n hx hb dJ9_floorMod_7cf53_10 rfl (lv_at hl 0 rfl) ?_
    refine lv_if_eq (tgt := 18) hx hb dJ9_floorMod_7cf53_11 (by decide) (fun hb2 => ?_) (fun hb2 => ?_)
    · refine lv_iload_n hx hb dJ9_floorMod_7cf53_18 rfl (lv_at hl 0 rfl) ?_
      exact ze_i hx hb hr hlk rfl (by unfold v_J9_floorMod; rw [if_neg hb1, if_pos hb2]) dJ9_floorMod_7cf53_19
    · refine lv_iload_n hx hb dJ9_floorMod_7cf53_14 rfl (lv_at hl 0 rfl) ?_
      refine lv_iload_n hx hb dJ9_floorMod_7cf53_15 rfl (lv_at hl 2 rfl) ?_
      refine lv_iadd hx hb dJ9_floorMod_7cf53_16 ?_
      exact ze_i hx hb hr hlk rfl (by unfold v_J9_floorMod; rw [if_neg hb1, if_neg hb2]) dJ9_floorMod_7cf53_17
def v_J9_floorDiv (i1 : Int32) (i2 : Int32) : Int32 := if 0 ≤ (i1 ^^^ i2) then i1 / i2 else if ((i1 / i2) * i2) = i1 then i1 / i2 else (i1 / i2) - 1
set_option maxHeartbeats 4000000 in
set_option maxRecDepth 100000 in
theorem k_J9_floorDiv (l : Launch) (i1 : Int32) (i2 : Int32) (h0 : ¬ i2 = 0) : Met l yJ9_floorDiv_7cf53 (ws_ yJ9_floorDiv_7cf53 cJ9_floorDiv_7cf53 3 (some .int)) ({ frames := 0, cells := 0, slots := 0, locals := 0 }) (PN [.int i1, .int i2]) (zQ (some (.int (v_J9_floorDiv i1 i2)))) 0 0 zno := by
  refine tk_NF (by decide +kernel) (Nat.le_of_ble_eq_true rfl) ?_
  intro p e s m args below meth c ls hx hb hml hr hlk hown hts hl
  have hl : lv_has ls 3 [(0, .int i1), (1, .int i2)] := hl
  refine lv_iload_n hx hb dJ9_floorDiv_7cf53_0 rfl (lv_at hl 0 rfl) ?_
  refine lv_iload_n hx hb dJ9_floorDiv_7cf53_1 rfl (lv_at hl 1 rfl) ?_
  refine lv_idiv hx hb dJ9_floorDiv_7cf53_2 (by assumption) ?_
  refine lv_istore_n (lv' := [(2, .int (i1 / i2)), (0, .int i1), (1, .int i2)]) hx hb dJ9_floorDiv_7cf53_3 rfl hl (by decide) rfl (fun ls hl => ?_)
  refine lv_iload_n hx hb dJ9_floorDiv_7cf53_4 rfl (lv_at hl 1 rfl) ?_
  refine lv_iload_n hx hb dJ9_floorDiv_7cf53_5 rfl (lv_at hl 2 rfl) ?_
  refine lv_ixor hx hb dJ9_floorDiv_7cf53_6 ?_
  refine lv_if_ge (tgt := 21) hx hb dJ9_floorDiv_7cf53_7 (by decide) (fun hb1 => ?_) (fun hb1 => ?_)
  · refine lv_iload_n hx hb dJ9_floorDiv_7cf53_21 rfl (lv_at hl 0 rfl) ?_
    exact ze_i hx hb hr hlk rfl (by unfold v_J9_floorDiv; rw [if_pos hb1]) dJ9_floorDiv_7cf53_22
  · refine lv_iload_n hx hb dJ9_floorDiv_7cf53_10 rfl (lv_at hl 0 rfl) ?_
    refine lv_iload_n hx hb dJ9_floorDiv_7cf53_11 rfl (lv_at hl 2 rfl) ?_
    refine lv_imul hx hb dJ9_floorDiv_7cf53_12 ?_
    refine lv_iload_n hx hb dJ9_floorDiv_7cf53_13 rfl (lv_at hl 1 rfl) ?_
    refine lv_icmp_eq (tgt := 21) hx hb dJ9_floorDiv_7cf53_14 (by decide) (fun hb2 => ?_) (fun hb2 => ?_)
    · refine lv_iload_n hx hb dJ9_floorDiv_7cf53_21 rfl (lv_at hl 0 rfl) ?_
      exact ze_i hx hb hr hlk rfl (by unfold v_J9_floorDiv; rw [if_neg hb1, if_pos hb2]) dJ9_floorDiv_7cf53_22
    · refine lv_iload_n hx hb dJ9_floorDiv_7cf53_17 rfl (lv_at hl 0 rfl) ?_
      refine lv_iconst (v := 1) hx hb dJ9_floorDiv_7cf53_18 (by decide) ?_
      refine lv_isub hx hb dJ9_floorDiv_7cf53_19 ?_
      exact ze_i hx hb hr hlk rfl (by unfold v_J9_floorDiv; rw [if_neg hb1, if_neg hb2]) dJ9_floorDiv_7cf53_20
def v_X10_isWithin (i1 : Int32) (i2 : Int32) (i3 : Int32) : Int32 := if i1 < i2 then 0 else if i3 < i1 then 0 else 1
set_option maxHeartbeats 4000000 in
set_option maxRecDepth 100000 in
theorem k_X10_isWithin (l : Launch) (i1 : Int32) (i2 : Int32) (i3 : Int32)  : Met l yX10_isWithin (ws_ yX10_isWithin cX10_isWithin 3 (some .boolean)) ({ frames := 0, cells := 0, slots := 0, locals := 0 }) (PN [.int i1, .int i2, .int i3]) (zQ (some (.int (v_X10_isWithin i1 i2 i3)))) 0 0 zno := by
  refine tk_N (by decide) (Nat.le_of_ble_eq_true rfl) ?_
  intro p e s m args below meth c ls hx hb hml hr hlk hown hts hl
  have hl : lv_has ls 3 [(0, .int i1), (1, .int i2), (2, .int i3)] := hl
  refine lv_iload_n hx hb dX10_isWithin_0 rfl (lv_at hl 0 rfl) ?_
  refine lv_iload_n hx hb dX10_isWithin_1 rfl (lv_at hl 1 rfl) ?_
  refine lv_icmp_lt (tgt := 14) hx hb dX10_isWithin_2 (by decide) (fun hb1 => ?_) (fun hb1 => ?_)
  · refine lv_iconst (v := 0) hx hb dX10_isWithin_14 (by decide) ?_
    exact ze_i hx hb hr hlk rfl (by unfold v_X10_isWithin; rw [if_pos hb1]) dX10_isWithin_15
  · refine lv_iload_n hx hb dX10_isWithin_5 rfl (lv_at hl 0 rfl) ?_
    refine lv_iload_n hx hb dX10_isWithin_6 rfl (lv_at hl 2 rfl) ?_
    refine lv_icmp_gt (tgt := 14) hx hb dX10_isWithin_7 (by decide) (fun hb2 => ?_) (fun hb2 => ?_)
    · refine lv_iconst (v := 0) hx hb dX10_isWithin_14 (by decide) ?_
      exact ze_i hx hb hr hlk rfl (by unfold v_X10_isWithin; rw [if_neg hb1, if_pos hb2]) dX10_isWithin_15
    · refine lv_iconst (v := 1) hx hb dX10_isWithin_10 (by decide) ?_
      refine lv_goto (tgt := 15) hx hb dX10_isWithin_11 (by decide) ?_
      exact ze_i hx hb hr hlk rfl (by unfold v_X10_isWithin; rw [if_neg hb1, if_neg hb2]) dX10_isWithin_15
def v_X10_bit (i1 : Int32) : Int32 := if i1 = 0 then 0 else 1
set_option maxHeartbeats 4000000 in
set_option maxRecDepth 100000 in
theorem k_X10_bit (l : Launch) (i1 : Int32)  : Met l yX10_bit (ws_ yX10_bit cX10_bit 1 (some .int)) ({ frames := 0, cells := 0, slots := 0, locals := 0 }) (PN [.int i1]) (zQ (some (.int (v_X10_bit i1)))) 0 0 zno := by
  refine tk_N (by decide) (Nat.le_of_ble_eq_true rfl) ?_
  intro p e s m args below meth c ls hx hb hml hr hlk hown hts hl
  have hl : lv_has ls 1 [(0, .int i1)] := hl
  refine lv_iload_n hx hb dX10_bit_0 rfl (lv_at hl 0 rfl) ?_
  refine lv_if_eq (tgt := 8) hx hb dX10_bit_1 (by decide) (fun hb1 => ?_) (fun hb1 => ?_)
  · refine lv_iconst (v := 0) hx hb dX10_bit_8 (by decide) ?_
    exact ze_i hx hb hr hlk rfl (by unfold v_X10_bit; rw [if_pos hb1]) dX10_bit_9
  · refine lv_iconst (v := 1) hx hb dX10_bit_4 (by decide) ?_
    refine lv_goto (tgt := 9) hx hb dX10_bit_5 (by decide) ?_
    exact ze_i hx hb hr hlk rfl (by unfold v_X10_bit; rw [if_neg hb1]) dX10_bit_9
set_option maxHeartbeats 4000000 in
set_option maxRecDepth 100000 in
theorem k_X10_refuseUnless (l : Launch) (i1 : Int32) (h1 : ¬ i1 = 0) : Met l yX10_refuseUnless (ws_ yX10_refuseUnless cX10_refuseUnless 1 none) ({ frames := 0, cells := 0, slots := 0, locals := 0 }) (PN [.int i1]) (zQ (none)) 0 0 zno := by
  refine tk_N (by decide) (Nat.le_of_ble_eq_true rfl) ?_
  intro p e s m args below meth c ls hx hb hml hr hlk hown hts hl
  have hl : lv_has ls 1 [(0, .int i1)] := hl
  refine lv_iload_n hx hb dX10_refuseUnless_0 rfl (lv_at hl 0 rfl) ?_
  refine lv_if_ne (tgt := 12) hx hb dX10_refuseUnless_1 (by decide) (fun _ => ?_) (fun h9 => absurd h9 h1)
  exact ze_v hx hb hr hlk dX10_refuseUnless_12
def r_X7_placeFor (S : TS) (F : TF) (G : TG) (q : TQ) (fl : Nat) (k : Nat) (l1 : Int64) : Nat → Nat → Nat → Int32
  | 0, lo, _ => nI lo
  | n + 1, lo, hi => if (nI hi) ≤ (nI lo) then nI lo else if 0 ≤ (lg_cmp (v_X6_at S F G q (rs 0 fl k) (nI ((lo + hi) / 2))) l1) then r_X7_placeFor S F G q fl k l1 n lo ((lo + hi) / 2) else r_X7_placeFor S F G q fl k l1 n ((lo + hi) / 2 + 1) hi
set_option maxHeartbeats 4000000 in
set_option maxRecDepth 100000 in
theorem lp_X7_placeFor {p : Program} {l : Launch} {e : Env} {s : State} {m : MethodId} {args : Array Value} {below : List Frame} {meth : Method} {c : Code} {D : va_G} {yc : Nat → ClassId} {e0 : Nat} {A : Nat → Prop} {S : TS} {Z : Nat × Nat} {F : TF} {G : TG} {q : TQ} (fl : Nat) (k : Nat) (l1 : Int64) (hf : fl < 2) (hk : k < 3 * zn S) (hx : p.tables.exec = Jvm.exec) (hb : c.code = cX7_placeFor) (hml : c.maxLocals = 7) (hr : meth.sig.returnType = (some .int)) (hlk : meth.locks = false) (hown : s.vm.findClass yX7_placeFor.cls = some m.cls) (hts : ∀ w ∈ lw_all, w.before args s = true) (hW : WT D yc e0 A S Z F G q s.heap) (hS : va_S A s.heap s.heap []) (hA : ∀ a, s.heap.size ≤ a → A a) (hC : CX D yc e0 A s) : ∀ (n : Nat) (i : Nat) (lo : Nat) (hi : Nat) (ls : Array Slot), i + n = 40 ∧ lo ≤ 8388608 ∧ hi ≤ 8388608 → lv_has ls 7 [(5, .int (nI i)), (4, .int (nI hi)), (3, .int (nI lo)), (0, .ref (zg S 1 fl k)), (1, .long l1)] → W p l e ({ frames := 1, cells := 0, slots := 0, locals := 21 }) s m args below meth c s.heap [] 0 0 (MQ below (zQ (some (.int (r_X7_placeFor S F G q fl k l1 n lo hi)))) args s 0 0 zno) (F0 m 14 ls []) := by
  have hK := hC.1
  have hN := hC.2.1
  have hn12 := hW.n12
  have hrl := hW.rlen (dr_s (x := 0) hn12 (by omega) hf hk)
  intro n
  induction n with
  | zero =>
    intro i lo hi ls hinv hl
    refine lv_iload hx hb dX7_placeFor_14 (lv_at hl 0 rfl) ?_
    refine lv_bipush (v := 40) hx hb dX7_placeFor_16 (by decide) ?_
    refine lv_icmp_ge (tgt := 67) hx hb dX7_placeFor_18 (by decide) (fun _ => ?_) (fun h9 => absurd (show nI 40 ≤ nI i from nI_le (by omega) (by omega)) h9)
    refine lv_iload_n hx hb dX7_placeFor_67 rfl (lv_at hl 2 rfl) ?_
    exact ze_i hx hb hr hlk rfl (by rfl) dX7_placeFor_68
  | succ n ih =>
    intro i lo hi ls hinv hl
    refine lv_iload hx hb dX7_placeFor_14 (lv_at hl 0 rfl) ?_
    refine lv_bipush (v := 40) hx hb dX7_placeFor_16 (by decide) ?_
    refine lv_icmp_ge (tgt := 67) hx hb dX7_placeFor_18 (by decide) (fun h9 => absurd h9 (show ¬ nI 40 ≤ nI i from nI_ge (by omega) (by omega))) (fun _ => ?_)
    refine lv_iload_n hx hb dX7_placeFor_21 rfl (lv_at hl 2 rfl) ?_
    refine lv_iload hx hb dX7_placeFor_22 (lv_at hl 1 rfl) ?_
    refine lv_icmp_ge (tgt := 67) hx hb dX7_placeFor_24 (by decide) (fun hb1 => ?_) (fun hb1 => ?_)
    · have hb1n : hi ≤ lo := (nI_leI (by omega) (by omega)).mp hb1
      refine lv_iload_n hx hb dX7_placeFor_67 rfl (lv_at hl 2 rfl) ?_
      exact ze_i hx hb hr hlk rfl (by simp only [r_X7_placeFor]; rw [if_pos hb1]) dX7_placeFor_68
    · have hb1n : ¬ (hi ≤ lo) := fun h9 => hb1 ((nI_leI (by omega) (by omega)).mpr h9)
      refine lv_iload_n hx hb dX7_placeFor_27 rfl (lv_at hl 2 rfl) ?_
      refine lv_iload hx hb dX7_placeFor_28 (lv_at hl 1 rfl) ?_
      refine lv_iadd hx hb dX7_placeFor_30 ?_
      refine lv_iconst (v := 1) hx hb dX7_placeFor_31 (by decide) ?_
      refine lv_iushr (v := (((nI lo) + (nI hi)).toUInt32 >>> ((1 : Int32).toUInt32 &&& Int32.toUInt32 31)).toInt32) hx hb dX7_placeFor_32 rfl ?_
      refine zk_ti (y := nI ((lo + hi) / 2)) (zhalf (by omega)) ?_
      refine lv_istore (lv' := [(6, .int (nI ((lo + hi) / 2))), (5, .int (nI i)), (4, .int (nI hi)), (3, .int (nI lo)), (0, .ref (zg S 1 fl k)), (1, .long l1)]) hx hb dX7_placeFor_33 hl (by decide) rfl (fun ls hl => ?_)
      refine lv_aload_n hx hb dX7_placeFor_35 rfl (lv_at hl 4 rfl) ?_
      refine t_get (D := D) (ci := 6) (v := .ref (zr S (rs 0 fl k))) (C := RX7) (T := TX7) (N := 2) hx hb hts iX7 hown hK hW 1 fl k (dm1 (by omega) (by omega)) rfl rfl 0 (by decide) (hts _ wq1042) (fun _ h9 => h9) rfl dX7_placeFor_36 ?_
      refine lv_iload hx hb dX7_placeFor_39 (lv_at hl 0 rfl) ?_
      refine zr_l (va_runV (As := [.int (nI ((lo + hi) / 2))]) (rest := []) ⟨hx, hb, hml, hown, hts⟩ (k_X6_at l D yc e0 A S Z F G q (rs 0 fl k) (nI ((lo + hi) / 2)) (dr_s hW.n12 (by omega) (by omega) (by omega))) (cwV 1 hts (lw_V wq417 wq391 wq392 wq15 wq393) rfl rfl rfl (by decide +kernel) ⟨(Nat.le_of_ble_eq_true rfl), (Nat.le_of_ble_eq_true rfl)⟩) (tp_R hC hW hS hA (rs 0 fl k) (dr_s hW.n12 (by omega) (by omega) (by omega))) rfl rfl hl.1 rfl (lv_room (Nat.le_of_ble_eq_true rfl)) dX7_placeFor_41 ⟨(Nat.le_of_ble_eq_true rfl), (Nat.le_of_ble_eq_true rfl)⟩) ?_
      refine lv_lload_n hx hb dX7_placeFor_44 rfl (lv_at hl 5 rfl) ?_
      refine W.lcmp hx hb dX7_placeFor_45 ?_
      refine lv_if_ge (tgt := 57) hx hb dX7_placeFor_46 (by decide) (fun hb2 => ?_) (fun hb2 => ?_)
      · refine lv_iload hx hb dX7_placeFor_57 (lv_at hl 0 rfl) ?_
        refine lv_istore (lv' := [(4, .int (nI ((lo + hi) / 2))), (6, .int (nI ((lo + hi) / 2))), (5, .int (nI i)), (3, .int (nI lo)), (0, .ref (zg S 1 fl k)), (1, .long l1)]) hx hb dX7_placeFor_59 hl (by decide) rfl (fun ls hl => ?_)
        refine lv_iinc (v := nI (i + 1)) (lv' := [(5, .int (nI (i + 1))), (4, .int (nI ((lo + hi) / 2))), (6, .int (nI ((lo + hi) / 2))), (3, .int (nI lo)), (0, .ref (zg S 1 fl k)), (1, .long l1)]) hx hb dX7_placeFor_61 hl (k := 2) rfl (nI_1 _) (by decide) rfl (fun ls hl => ?_)
        refine lv_goto (tgt := 14) hx hb dX7_placeFor_64 (by decide) ?_
        have e9 : r_X7_placeFor S F G q fl k l1 (n + 1) lo hi = r_X7_placeFor S F G q fl k l1 n lo ((lo + hi) / 2) := by simp only [r_X7_placeFor]; rw [if_neg hb1, if_pos hb2]
        rw [e9]
        exact ih (i + 1) lo ((lo + hi) / 2) _ (by omega) (lv_sub hl [0, 1, 3, 4, 5] rfl)
      · refine lv_iload hx hb dX7_placeFor_49 (lv_at hl 0 rfl) ?_
        refine lv_iconst (v := 1) hx hb dX7_placeFor_51 (by decide) ?_
        refine lv_iadd hx hb dX7_placeFor_52 ?_
        refine zk_ti (y := nI (((lo + hi) / 2) + 1)) (nI_1 _) ?_
        refine lv_istore_n (lv' := [(3, .int (nI (((lo + hi) / 2) + 1))), (6, .int (nI ((lo + hi) / 2))), (5, .int (nI i)), (4, .int (nI hi)), (0, .ref (zg S 1 fl k)), (1, .long l1)]) hx hb dX7_placeFor_53 rfl hl (by decide) rfl (fun ls hl => ?_)
        refine lv_goto (tgt := 61) hx hb dX7_placeFor_54 (by decide) ?_
        refine lv_iinc (v := nI (i + 1)) (lv' := [(5, .int (nI (i + 1))), (3, .int (nI (((lo + hi) / 2) + 1))), (6, .int (nI ((lo + hi) / 2))), (4, .int (nI hi)), (0, .ref (zg S 1 fl k)), (1, .long l1)]) hx hb dX7_placeFor_61 hl (k := 2) rfl (nI_1 _) (by decide) rfl (fun ls hl => ?_)
        refine lv_goto (tgt := 14) hx hb dX7_placeFor_64 (by decide) ?_
        have e9 : r_X7_placeFor S F G q fl k l1 (n + 1) lo hi = r_X7_placeFor S F G q fl k l1 n (((lo + hi) / 2) + 1) hi := by simp only [r_X7_placeFor]; rw [if_neg hb1, if_neg hb2]
        rw [e9]
        exact ih (i + 1) (((lo + hi) / 2) + 1) hi _ (by omega) (lv_sub hl [0, 3, 1, 4, 5] rfl)
def v_X7_placeFor (S : TS) (F : TF) (G : TG) (q : TQ) (fl : Nat) (k : Nat) (l1 : Int64) : Int32 := r_X7_placeFor S F G q fl k l1 40 0 ((q (rs 0 fl k)).2.length)
set_option maxHeartbeats 4000000 in
set_option maxRecDepth 100000 in
theorem k_X7_placeFor (l : Launch) (D : va_G) (yc : Nat → ClassId) (e0 : Nat) (A : Nat → Prop) (S : TS) (Z : Nat × Nat) (F : TF) (G : TG) (q : TQ) (fl : Nat) (k : Nat) (l1 : Int64) (hf : fl < 2) (hk : k < 3 * zn S) : Met l yX7_placeFor (ws_ yX7_placeFor cX7_placeFor 7 (some .int)) ({ frames := 1, cells := 0, slots := 0, locals := 21 }) (PT D yc e0 A S Z F G q [.ref (zg S 1 fl k), .long l1]) (zQ (some (.int (v_X7_placeFor S F G q fl k l1)))) 0 0 zno := by
  refine tk_M (by decide) (Nat.le_of_ble_eq_true rfl) ?_
  intro p e s m args below meth c ls hx hb hml hr hlk hown hts hW hS hA hC hl
  have hK := hC.1
  have hN := hC.2.1
  have hn12 := hW.n12
  have hl : lv_has ls 7 [(0, .ref (zg S 1 fl k)), (1, .long l1)] := hl
  have hrl := hW.rlen (dr_s (x := 0) hn12 (by omega) hf hk)
  refine lv_iconst (v := 0) hx hb dX7_placeFor_0 (by decide) ?_
  refine lv_istore_n (lv' := [(3, .int 0), (0, .ref (zg S 1 fl k)), (1, .long l1)]) hx hb dX7_placeFor_1 rfl hl (by decide) rfl (fun ls hl => ?_)
  refine lv_aload_n hx hb dX7_placeFor_2 rfl (lv_at hl 1 rfl) ?_
  refine t_get (D := D) (ci := 6) (v := .ref (zr S (rs 0 fl k))) (C := RX7) (T := TX7) (N := 2) hx hb hts iX7 hown hK hW 1 fl k (dm1 (by omega) (by omega)) rfl rfl 0 (by decide) (hts _ wq1042) (fun _ h9 => h9) rfl dX7_placeFor_3 ?_
  refine zr_i (va_runV (As := []) (rest := []) ⟨hx, hb, hml, hown, hts⟩ (k_X6_length l D yc e0 A S Z F G q (rs 0 fl k) (dr_s hW.n12 (by omega) (by omega) (by omega))) (cwV 0 hts (lw_V wq416 wq266 wq267 wq15 wq268) rfl rfl rfl (by decide +kernel) ⟨(Nat.le_of_ble_eq_true rfl), (Nat.le_of_ble_eq_true rfl)⟩) (tp_R hC hW hS hA (rs 0 fl k) (dr_s hW.n12 (by omega) (by omega) (by omega))) rfl rfl hl.1 rfl (lv_room (Nat.le_of_ble_eq_true rfl)) dX7_placeFor_6 ⟨(Nat.le_of_ble_eq_true rfl), (Nat.le_of_ble_eq_true rfl)⟩) ?_
  refine lv_istore (lv' := [(4, .int (v_X6_length S F G q (rs 0 fl k))), (3, .int 0), (0, .ref (zg S 1 fl k)), (1, .long l1)]) hx hb dX7_placeFor_9 hl (by decide) rfl (fun ls hl => ?_)
  refine lv_iconst (v := 0) hx hb dX7_placeFor_11 (by decide) ?_
  refine lv_istore (lv' := [(5, .int 0), (4, .int (v_X6_length S F G q (rs 0 fl k))), (3, .int 0), (0, .ref (zg S 1 fl k)), (1, .long l1)]) hx hb dX7_placeFor_12 hl (by decide) rfl (fun ls hl => ?_)
  exact lp_X7_placeFor fl k l1 hf hk hx hb hml hr hlk hown hts hW hS hA hC 40 0 0 ((q (rs 0 fl k)).2.length) _ (by omega) (lv_sub hl [0, 1, 2, 3, 4] rfl)
def v_X7_firstEndingAbove (S : TS) (F : TF) (G : TG) (q : TQ) (fl : Nat) (k : Nat) (i1 : Int32) : Int32 := v_X7_placeFor S F G q fl k (((i1 + 1).toInt64) <<< ((29 : Int32).toInt64 &&& 63))
set_option maxHeartbeats 4000000 in
set_option maxRecDepth 100000 in
theorem k_X7_firstEndingAbove (l : Launch) (D : va_G) (yc : Nat → ClassId) (e0 : Nat) (A : Nat → Prop) (S : TS) (Z : Nat × Nat) (F : TF) (G : TG) (q : TQ) (fl : Nat) (k : Nat) (i1 : Int32) (hf : fl < 2) (hk : k < 3 * zn S) : Met l yX7_firstEndingAbove (ws_ yX7_firstEndingAbove cX7_firstEndingAbove 2 (some .int)) ({ frames := 2, cells := 0, slots := 0, locals := 47 }) (PT D yc e0 A S Z F G q [.ref (zg S 1 fl k), .int i1]) (zQ (some (.int (v_X7_firstEndingAbove S F G q fl k i1)))) 0 0 zno := by
  refine tk_M (by decide) (Nat.le_of_ble_eq_true rfl) ?_
  intro p e s m args below meth c ls hx hb hml hr hlk hown hts hW hS hA hC hl
  have hK := hC.1
  have hN := hC.2.1
  have hn12 := hW.n12
  have hl : lv_has ls 2 [(0, .ref (zg S 1 fl k)), (1, .int i1)] := hl
  refine lv_aload_n hx hb dX7_firstEndingAbove_0 rfl (lv_at hl 0 rfl) ?_
  refine lv_iload_n hx hb dX7_firstEndingAbove_1 rfl (lv_at hl 1 rfl) ?_
  refine lv_iconst (v := 1) hx hb dX7_firstEndingAbove_2 (by decide) ?_
  refine lv_iadd hx hb dX7_firstEndingAbove_3 ?_
  refine lv_i2l (v := (i1 + 1).toInt64) hx hb dX7_firstEndingAbove_4 rfl ?_
  refine lv_bipush (v := 29) hx hb dX7_firstEndingAbove_5 (by decide) ?_
  refine lv_lshl (v := ((i1 + 1).toInt64) <<< ((29 : Int32).toInt64 &&& 63)) hx hb dX7_firstEndingAbove_7 rfl ?_
  refine zr_i (va_runV (As := [.long (((i1 + 1).toInt64) <<< ((29 : Int32).toInt64 &&& 63))]) (rest := []) ⟨hx, hb, hml, hown, hts⟩ (k_X7_placeFor l D yc e0 A S Z F G q fl k (((i1 + 1).toInt64) <<< ((29 : Int32).toInt64 &&& 63)) (by first | assumption | omega | decide) (by first | assumption | omega | decide)) (cwV 1 hts (lw_V wq412 wq413 wq414 wq23 wq415) rfl rfl rfl (by decide +kernel) ⟨(Nat.le_of_ble_eq_true rfl), (Nat.le_of_ble_eq_true rfl)⟩) (tp_V hC hW hS hA 1 fl k (dm1 (by omega) (by omega)) rfl rfl) rfl rfl hl.1 rfl (lv_room (Nat.le_of_ble_eq_true rfl)) dX7_firstEndingAbove_8 ⟨(Nat.le_of_ble_eq_true rfl), (Nat.le_of_ble_eq_true rfl)⟩) ?_
  exact ze_i hx hb hr hlk rfl (by rfl) dX7_firstEndingAbove_11
def v_X8_channel0 (S : TS) (F : TF) (G : TG) (q : TQ) (fl : Nat) (k : Nat) : Value := zch S 0 fl k
set_option maxHeartbeats 4000000 in
set_option maxRecDepth 100000 in
theorem k_X8_channel0 (l : Launch) (D : va_G) (yc : Nat → ClassId) (e0 : Nat) (A : Nat → Prop) (S : TS) (Z : Nat × Nat) (F : TF) (G : TG) (q : TQ) (fl : Nat) (k : Nat) (hf : fl < 2) (hk : k < zn S) : Met l yX8_channel (ws_ yX8_channel cX8_channel 2 (some (.object "WeirStream$Channel"))) ({ frames := 0, cells := 0, slots := 0, locals := 0 }) (PT D yc e0 A S Z F G q [.ref (zg S 2 fl k), .int 0]) (zQ (some ((v_X8_channel0 S F G q fl k)))) 0 0 zno := by
  refine tk_M (by decide) (Nat.le_of_ble_eq_true rfl) ?_
  intro p e s m args below meth c ls hx hb hml hr hlk hown hts hW hS hA hC hl
  have hK := hC.1
  have hN := hC.2.1
  have hn12 := hW.n12
  have hl : lv_has ls 2 [(0, .ref (zg S 2 fl k)), (1, .int 0)] := hl
  refine lv_iload_n hx hb dX8_channel_0 rfl (lv_at hl 1 rfl) ?_
  refine lv_if_eq (tgt := 11) hx hb dX8_channel_1 (by decide) (fun _ => ?_) (fun h9 => absurd (by decide) h9)
  refine lv_aload_n hx hb dX8_channel_11 rfl (lv_at hl 0 rfl) ?_
  refine t_get (D := D) (ci := 7) (v := zch S 0 fl k) (C := RX8) (T := TX8) (N := 12) hx hb hts iX8 hown hK hW 2 fl k (dm2 (by omega) (by omega)) rfl rfl 2 (by decide) (hts _ wq1108) (fun _ h9 => h9) rfl dX8_channel_12 ?_
  exact ze_q hx hb hr (by first | exact Or.inl ⟨_, rfl⟩ | exact Or.inr ⟨_, rfl⟩) hlk (by first | exact Or.inl rfl | exact Or.inr ⟨_, rfl⟩ | exact zch_or _ _ _ _) (by rfl) dX8_channel_15
def v_X8_channel1 (S : TS) (F : TF) (G : TG) (q : TQ) (fl : Nat) (k : Nat) : Value := zch S 1 fl k
set_option maxHeartbeats 4000000 in
set_option maxRecDepth 100000 in
theorem k_X8_channel1 (l : Launch) (D : va_G) (yc : Nat → ClassId) (e0 : Nat) (A : Nat → Prop) (S : TS) (Z : Nat × Nat) (F : TF) (G : TG) (q : TQ) (fl : Nat) (k : Nat) (hf : fl < 2) (hk : k < zn S) : Met l yX8_channel (ws_ yX8_channel cX8_channel 2 (some (.object "WeirStream$Channel"))) ({ frames := 0, cells := 0, slots := 0, locals := 0 }) (PT D yc e0 A S Z F G q [.ref (zg S 2 fl k), .int 1]) (zQ (some ((v_X8_channel1 S F G q fl k)))) 0 0 zno := by
  refine tk_M (by decide) (Nat.le_of_ble_eq_true rfl) ?_
  intro p e s m args below meth c ls hx hb hml hr hlk hown hts hW hS hA hC hl
  have hK := hC.1
  have hN := hC.2.1
  have hn12 := hW.n12
  have hl : lv_has ls 2 [(0, .ref (zg S 2 fl k)), (1, .int 1)] := hl
  refine lv_iload_n hx hb dX8_channel_0 rfl (lv_at hl 1 rfl) ?_
  refine lv_if_eq (tgt := 11) hx hb dX8_channel_1 (by decide) (fun h9 => absurd h9 (by decide)) (fun _ => ?_)
  refine lv_aload_n hx hb dX8_channel_4 rfl (lv_at hl 0 rfl) ?_
  refine t_get (D := D) (ci := 7) (v := zch S 1 fl k) (C := RX8) (T := TX8) (N := 12) hx hb hts iX8 hown hK hW 2 fl k (dm2 (by omega) (by omega)) rfl rfl 3 (by decide) (hts _ wq1110) (fun _ h9 => h9) rfl dX8_channel_5 ?_
  refine lv_goto (tgt := 15) hx hb dX8_channel_8 (by decide) ?_
  exact ze_q hx hb hr (by first | exact Or.inl ⟨_, rfl⟩ | exact Or.inr ⟨_, rfl⟩) hlk (by first | exact Or.inl rfl | exact Or.inr ⟨_, rfl⟩ | exact zch_or _ _ _ _) (by rfl) dX8_channel_15
def v_X8_unread (S : TS) (F : TF) (G : TG) (q : TQ) (fl : Nat) (k : Nat) : Int32 := (v_X6_length S F G q (rl k)) - (F 0 fl (3 * k) 4)
set_option maxHeartbeats 4000000 in
set_option maxRecDepth 100000 in
theorem k_X8_unread (l : Launch) (D : va_G) (yc : Nat → ClassId) (e0 : Nat) (A : Nat → Prop) (S : TS) (Z : Nat × Nat) (F : TF) (G : TG) (q : TQ) (fl : Nat) (k : Nat) (hf : fl < 2) (hk : k < zn S) : Met l yX8_unread (ws_ yX8_unread cX8_unread 1 (some .int)) ({ frames := 1, cells := 0, slots := 0, locals := 20 }) (PT D yc e0 A S Z F G q [.ref (zg S 2 fl k)]) (zQ (some (.int (v_X8_unread S F G q fl k)))) 0 0 zno := by
  refine tk_M (by decide) (Nat.le_of_ble_eq_true rfl) ?_
  intro p e s m args below meth c ls hx hb hml hr hlk hown hts hW hS hA hC hl
  have hK := hC.1
  have hN := hC.2.1
  have hn12 := hW.n12
  have hl : lv_has ls 1 [(0, .ref (zg S 2 fl k))] := hl
  refine lv_aload_n hx hb dX8_unread_0 rfl (lv_at hl 0 rfl) ?_
  refine t_get (D := D) (ci := 7) (v := .ref (zr S (rl k))) (C := RX8) (T := TX8) (N := 12) hx hb hts iX8 hown hK hW 2 fl k (dm2 (by omega) (by omega)) rfl rfl 1 (by decide) (hts _ wq1106) (fun _ h9 => h9) rfl dX8_unread_1 ?_
  refine zr_i (va_runV (As := []) (rest := []) ⟨hx, hb, hml, hown, hts⟩ (k_X6_length l D yc e0 A S Z F G q (rl k) (dr_l hW.n12 (by omega))) (cwV 0 hts (lw_V wq265 wq266 wq267 wq15 wq268) rfl rfl rfl (by decide +kernel) ⟨(Nat.le_of_ble_eq_true rfl), (Nat.le_of_ble_eq_true rfl)⟩) (tp_R hC hW hS hA (rl k) (dr_l hW.n12 (by omega))) rfl rfl hl.1 rfl (lv_room (Nat.le_of_ble_eq_true rfl)) dX8_unread_4 ⟨(Nat.le_of_ble_eq_true rfl), (Nat.le_of_ble_eq_true rfl)⟩) ?_
  refine lv_aload_n hx hb dX8_unread_7 rfl (lv_at hl 0 rfl) ?_
  refine t_get (D := D) (ci := 7) (v := .ref (zg S 0 fl (3 * k))) (C := RX8) (T := TX8) (N := 12) hx hb hts iX8 hown hK hW 2 fl k (dm2 (by omega) (by omega)) rfl rfl 7 (by decide) (hts _ wq1118) (fun _ h9 => h9) rfl dX8_unread_8 ?_
  refine t_getN (D := D) (ci := 8) (v := .int (F 0 fl (3 * k) 4)) (C := RX9) (T := TX9) (N := 11) hx hb hts iX9 hown hK hW 0 fl (3 * k) (dm0 (by omega) (by omega)) rfl rfl 4 (by decide) (zk_tab rfl (hN _ wr1061 rfl)) (fun _ h9 => h9) rfl dX8_unread_11 ?_
  refine lv_isub hx hb dX8_unread_14 ?_
  exact ze_i hx hb hr hlk rfl (by rfl) dX8_unread_15
def v_X8_canWork (S : TS) (F : TF) (G : TG) (q : TQ) (fl : Nat) (k : Nat) (i1 : Int32) : Int32 := if (v_X4_isBelow S F G q fl k i1) = 0 then 0 else if (F 8 0 k 0) = 0 then if (F 2 fl k 11) = 0 then if 0 < (v_X8_unread S F G q fl k) then 1 else if (F 2 fl k 10) = 0 then 0 else if (F 0 fl (3 * k) 0) = 1000000 then 0 else 1 else 1 else if (zp S 0 k).isSome = true then if (v_X1_canGive S F G q 4 fl k) = 0 then if (zp S 1 k).isSome = true then if (v_X1_canGive S F G q 5 fl k) = 0 then 0 else 1 else 0 else 1 else if (zp S 1 k).isSome = true then if (v_X1_canGive S F G q 5 fl k) = 0 then 0 else 1 else 0
set_option maxHeartbeats 4000000 in
set_option maxRecDepth 100000 in
theorem k_X8_canWork (l : Launch) (D : va_G) (yc : Nat → ClassId) (e0 : Nat) (A : Nat → Prop) (S : TS) (Z : Nat × Nat) (F : TF) (G : TG) (q : TQ) (fl : Nat) (k : Nat) (i1 : Int32) (hf : fl < 2) (hk : k < zn S) : Met l yX8_canWork (ws_ yX8_canWork cX8_canWork 2 (some .boolean)) ({ frames := 5, cells := 0, slots := 0, locals := 107 }) (PT D yc e0 A S Z F G q [.ref (zg S 2 fl k), .int i1]) (zQ (some (.int (v_X8_canWork S F G q fl k i1)))) 0 0 zno := by
  refine tk_M (by decide) (Nat.le_of_ble_eq_true rfl) ?_
  intro p e s m args below meth c ls hx hb hml hr hlk hown hts hW hS hA hC hl
  have hK := hC.1
  have hN := hC.2.1
  have hn12 := hW.n12
  have hl : lv_has ls 2 [(0, .ref (zg S 2 fl k)), (1, .int i1)] := hl
  refine lv_aload_n hx hb dX8_canWork_0 rfl (lv_at hl 0 rfl) ?_
  refine t_get (D := D) (ci := 7) (v := .ref (zg S 3 fl k)) (C := RX8) (T := TX8) (N := 12) hx hb hts iX8 hown hK hW 2 fl k (dm2 (by omega) (by omega)) rfl rfl 5 (by decide) (hts _ wq1113) (fun _ h9 => h9) rfl dX8_canWork_1 ?_
  refine lv_iload_n hx hb dX8_canWork_4 rfl (lv_at hl 1 rfl) ?_
  refine zr_i (va_runV (As := [.int i1]) (rest := []) ⟨hx, hb, hml, hown, hts⟩ (k_X4_isBelow l D yc e0 A S Z F G q fl k i1 (by first | assumption | omega | decide) (by first | assumption | omega | decide)) (cwV 1 hts (lw_V wq286 wq287 wq288 wq21 wq289) rfl rfl rfl (by decide +kernel) ⟨(Nat.le_of_ble_eq_true rfl), (Nat.le_of_ble_eq_true rfl)⟩) (tp_V hC hW hS hA 3 fl k (dm3 (by omega) (by omega)) rfl rfl) rfl rfl hl.1 rfl (lv_room (Nat.le_of_ble_eq_true rfl)) dX8_canWork_5 ⟨(Nat.le_of_ble_eq_true rfl), (Nat.le_of_ble_eq_true rfl)⟩) ?_
  refine lv_if_ne (tgt := 13) hx hb dX8_canWork_8 (by decide) (fun hb1 => ?_) (fun hb1 => ?_)
  · refine lv_aload_n hx hb dX8_canWork_13 rfl (lv_at hl 0 rfl) ?_
    refine t_get (D := D) (ci := 7) (v := .ref (zg S 8 0 k)) (C := RX8) (T := TX8) (N := 12) hx hb hts iX8 hown hK hW 2 fl k (dm2 (by omega) (by omega)) rfl rfl 0 (by decide) (hts _ wq1103) (fun _ h9 => h9) rfl dX8_canWork_14 ?_
    refine t_getN (D := D) (ci := 4) (v := .int (F 8 0 k 0)) (C := RX5) (T := TX5) (N := 15) hx hb hts iX5 hown hK hW 8 0 k (dm8 (by omega)) rfl rfl 0 (by decide) (zk_tab rfl (hN _ wr832 rfl)) (fun _ h9 => h9) rfl dX8_canWork_17 ?_
    refine lv_if_ne (tgt := 62) hx hb dX8_canWork_20 (by decide) (fun hb2 => ?_) (fun hb2 => ?_)
    · refine lv_aload_n hx hb dX8_canWork_62 rfl (lv_at hl 0 rfl) ?_
      refine t_get (D := D) (ci := 7) (v := zch S 0 fl k) (C := RX8) (T := TX8) (N := 12) hx hb hts iX8 hown hK hW 2 fl k (dm2 (by omega) (by omega)) rfl rfl 2 (by decide) (hts _ wq1108) (fun _ h9 => h9) rfl dX8_canWork_63 ?_
      by_cases ho7 : (zp S 0 k).isSome = true
      · refine zk_tv (y := .ref (zg S 4 fl k)) (by show zch S 0 fl k = _; unfold zch; rw [if_pos ho7]) ?_
        refine lv_ifnull hx hb dX8_canWork_66 ?_
        refine lv_aload_n hx hb dX8_canWork_69 rfl (lv_at hl 0 rfl) ?_
        refine t_get (D := D) (ci := 7) (v := zch S 0 fl k) (C := RX8) (T := TX8) (N := 12) hx hb hts iX8 hown hK hW 2 fl k (dm2 (by omega) (by omega)) rfl rfl 2 (by decide) (hts _ wq1108) (fun _ h9 => h9) rfl dX8_canWork_70 ?_
        refine zk_tv (y := .ref (zg S 4 fl k)) (by show zch S 0 fl k = _; unfold zch; rw [if_pos ho7]) ?_
        refine zr_i (va_runV (As := []) (rest := []) ⟨hx, hb, hml, hown, hts⟩ (k_X1_canGive l D yc e0 A S Z F G q 4 fl k (Or.inl rfl) (dm4 (by omega) (by omega) (by assumption))) (cwV 0 hts (lw_V wq304 wq305 wq306 wq17 wq307) rfl rfl rfl (by decide +kernel) ⟨(Nat.le_of_ble_eq_true rfl), (Nat.le_of_ble_eq_true rfl)⟩) (tp_V hC hW hS hA 4 fl k (dm4 (by omega) (by omega) (by assumption)) (cel_ch (Or.inl rfl)) rfl) rfl rfl hl.1 rfl (lv_room (Nat.le_of_ble_eq_true rfl)) dX8_canWork_73 ⟨(Nat.le_of_ble_eq_true rfl), (Nat.le_of_ble_eq_true rfl)⟩) ?_
        refine lv_if_ne (tgt := 96) hx hb dX8_canWork_76 (by decide) (fun hb8 => ?_) (fun hb8 => ?_)
        · refine lv_iconst (v := 1) hx hb dX8_canWork_96 (by decide) ?_
          refine lv_goto (tgt := 101) hx hb dX8_canWork_97 (by decide) ?_
          exact ze_i hx hb hr hlk rfl (by unfold v_X8_canWork; rw [if_neg hb1, if_neg hb2, if_pos ho7, if_neg hb8]) dX8_canWork_101
        · refine lv_aload_n hx hb dX8_canWork_79 rfl (lv_at hl 0 rfl) ?_
          refine t_get (D := D) (ci := 7) (v := zch S 1 fl k) (C := RX8) (T := TX8) (N := 12) hx hb hts iX8 hown hK hW 2 fl k (dm2 (by omega) (by omega)) rfl rfl 3 (by decide) (hts _ wq1110) (fun _ h9 => h9) rfl dX8_canWork_80 ?_
          by_cases ho9 : (zp S 1 k).isSome = true
          · refine zk_tv (y := .ref (zg S 5 fl k)) (by show zch S 1 fl k = _; unfold zch; rw [if_pos ho9]) ?_
            refine lv_ifnull hx hb dX8_canWork_83 ?_
            refine lv_aload_n hx hb dX8_canWork_86 rfl (lv_at hl 0 rfl) ?_
            refine t_get (D := D) (ci := 7) (v := zch S 1 fl k) (C := RX8) (T := TX8) (N := 12) hx hb hts iX8 hown hK hW 2 fl k (dm2 (by omega) (by omega)) rfl rfl 3 (by decide) (hts _ wq1110) (fun _ h9 => h9) rfl dX8_canWork_87 ?_
            refine zk_tv (y := .ref (zg S 5 fl k)) (by show zch S 1 fl k = _; unfold zch; rw [if_pos ho9]) ?_
            refine zr_i (va_runV (As := []) (rest := []) ⟨hx, hb, hml, hown, hts⟩ (k_X1_canGive l D yc e0 A S Z F G q 5 fl k (Or.inr rfl) (dm5 (by omega) (by omega) (by assumption))) (cwV 0 hts (lw_V wq304 wq305 wq306 wq17 wq307) rfl rfl rfl (by decide +kernel) ⟨(Nat.le_of_ble_eq_true rfl), (Nat.le_of_ble_eq_true rfl)⟩) (tp_V hC hW hS hA 5 fl k (dm5 (by omega) (by omega) (by assumption)) (cel_ch (Or.inr rfl)) rfl) rfl rfl hl.1 rfl (lv_room (Nat.le_of_ble_eq_true rfl)) dX8_canWork_90 ⟨(Nat.le_of_ble_eq_true rfl), (Nat.le_of_ble_eq_true rfl)⟩) ?_
            refine lv_if_eq (tgt := 100) hx hb dX8_canWork_93 (by decide) (fun hb10 => ?_) (fun hb10 => ?_)
            · refine lv_iconst (v := 0) hx hb dX8_canWork_100 (by decide) ?_
              exact ze_i hx hb hr hlk rfl (by unfold v_X8_canWork; rw [if_neg hb1, if_neg hb2, if_pos ho7, if_pos hb8, if_pos ho9, if_pos hb10]) dX8_canWork_101
            · refine lv_iconst (v := 1) hx hb dX8_canWork_96 (by decide) ?_
              refine lv_goto (tgt := 101) hx hb dX8_canWork_97 (by decide) ?_
              exact ze_i hx hb hr hlk rfl (by unfold v_X8_canWork; rw [if_neg hb1, if_neg hb2, if_pos ho7, if_pos hb8, if_pos ho9, if_neg hb10]) dX8_canWork_101
          · refine zk_tv (y := .null) (by show zch S 1 fl k = _; unfold zch; rw [if_neg ho9]) ?_
            refine lv_ifnullN (tgt := 100) hx hb dX8_canWork_83 (by decide) ?_
            refine lv_iconst (v := 0) hx hb dX8_canWork_100 (by decide) ?_
            exact ze_i hx hb hr hlk rfl (by unfold v_X8_canWork; rw [if_neg hb1, if_neg hb2, if_pos ho7, if_pos hb8, if_neg ho9]) dX8_canWork_101
      · refine zk_tv (y := .null) (by show zch S 0 fl k = _; unfold zch; rw [if_neg ho7]) ?_
        refine lv_ifnullN (tgt := 79) hx hb dX8_canWork_66 (by decide) ?_
        refine lv_aload_n hx hb dX8_canWork_79 rfl (lv_at hl 0 rfl) ?_
        refine t_get (D := D) (ci := 7) (v := zch S 1 fl k) (C := RX8) (T := TX8) (N := 12) hx hb hts iX8 hown hK hW 2 fl k (dm2 (by omega) (by omega)) rfl rfl 3 (by decide) (hts _ wq1110) (fun _ h9 => h9) rfl dX8_canWork_80 ?_
        by_cases ho11 : (zp S 1 k).isSome = true
        · refine zk_tv (y := .ref (zg S 5 fl k)) (by show zch S 1 fl k = _; unfold zch; rw [if_pos ho11]) ?_
          refine lv_ifnull hx hb dX8_canWork_83 ?_
          refine lv_aload_n hx hb dX8_canWork_86 rfl (lv_at hl 0 rfl) ?_
          refine t_get (D := D) (ci := 7) (v := zch S 1 fl k) (C := RX8) (T := TX8) (N := 12) hx hb hts iX8 hown hK hW 2 fl k (dm2 (by omega) (by omega)) rfl rfl 3 (by decide) (hts _ wq1110) (fun _ h9 => h9) rfl dX8_canWork_87 ?_
          refine zk_tv (y := .ref (zg S 5 fl k)) (by show zch S 1 fl k = _; unfold zch; rw [if_pos ho11]) ?_
          refine zr_i (va_runV (As := []) (rest := []) ⟨hx, hb, hml, hown, hts⟩ (k_X1_canGive l D yc e0 A S Z F G q 5 fl k (Or.inr rfl) (dm5 (by omega) (by omega) (by assumption))) (cwV 0 hts (lw_V wq304 wq305 wq306 wq17 wq307) rfl rfl rfl (by decide +kernel) ⟨(Nat.le_of_ble_eq_true rfl), (Nat.le_of_ble_eq_true rfl)⟩) (tp_V hC hW hS hA 5 fl k (dm5 (by omega) (by omega) (by assumption)) (cel_ch (Or.inr rfl)) rfl) rfl rfl hl.1 rfl (lv_room (Nat.le_of_ble_eq_true rfl)) dX8_canWork_90 ⟨(Nat.le_of_ble_eq_true rfl), (Nat.le_of_ble_eq_true rfl)⟩) ?_
          refine lv_if_eq (tgt := 100) hx hb dX8_canWork_93 (by decide) (fun hb12 => ?_) (fun hb12 => ?_)
          · refine lv_iconst (v := 0) hx hb dX8_canWork_100 (by decide) ?_
            exact ze_i hx hb hr hlk rfl (by unfold v_X8_canWork; rw [if_neg hb1, if_neg hb2, if_neg ho7, if_pos ho11, if_pos hb12]) dX8_canWork_101
          · refine lv_iconst (v := 1) hx hb dX8_canWork_96 (by decide) ?_
            refine lv_goto (tgt := 101) hx hb dX8_canWork_97 (by decide) ?_
            exact ze_i hx hb hr hlk rfl (by unfold v_X8_canWork; rw [if_neg hb1, if_neg hb2, if_neg ho7, if_pos ho11, if_neg hb12]) dX8_canWork_101
        · refine zk_tv (y := .null) (by show zch S 1 fl k = _; unfold zch; rw [if_neg ho11]) ?_
          refine lv_ifnullN (tgt := 100) hx hb dX8_canWork_83 (by decide) ?_
          refine lv_iconst (v := 0) hx hb dX8_canWork_100 (by decide) ?_
          exact ze_i hx hb hr hlk rfl (by unfold v_X8_canWork; rw [if_neg hb1, if_neg hb2, if_neg ho7, if_neg ho11]) dX8_canWork_101
    · refine lv_aload_n hx hb dX8_canWork_23 rfl (lv_at hl 0 rfl) ?_
      refine t_get (D := D) (ci := 7) (v := .int (F 2 fl k 11)) (C := RX8) (T := TX8) (N := 12) hx hb hts iX8 hown hK hW 2 fl k (dm2 (by omega) (by omega)) rfl rfl 11 (by decide) (hts _ wq1127) (fun _ h9 => h9) rfl dX8_canWork_24 ?_
      refine lv_if_ne (tgt := 56) hx hb dX8_canWork_27 (by decide) (fun hb3 => ?_) (fun hb3 => ?_)
      · refine lv_iconst (v := 1) hx hb dX8_canWork_56 (by decide) ?_
        refine lv_goto (tgt := 61) hx hb dX8_canWork_57 (by decide) ?_
        exact ze_i hx hb hr hlk rfl (by unfold v_X8_canWork; rw [if_neg hb1, if_pos hb2, if_neg hb3]) dX8_canWork_61
      · refine lv_aload_n hx hb dX8_canWork_30 rfl (lv_at hl 0 rfl) ?_
        refine zr_i (va_runV (As := []) (rest := []) ⟨hx, hb, hml, hown, hts⟩ (k_X8_unread l D yc e0 A S Z F G q fl k (by first | assumption | omega | decide) (by first | assumption | omega | decide)) (cwV 0 hts (lw_V wq302 wq262 wq263 wq16 wq264) rfl rfl rfl (by decide +kernel) ⟨(Nat.le_of_ble_eq_true rfl), (Nat.le_of_ble_eq_true rfl)⟩) (tp_V hC hW hS hA 2 fl k (dm2 (by omega) (by omega)) rfl rfl) rfl rfl hl.1 rfl (lv_room (Nat.le_of_ble_eq_true rfl)) dX8_canWork_31 ⟨(Nat.le_of_ble_eq_true rfl), (Nat.le_of_ble_eq_true rfl)⟩) ?_
        refine lv_if_gt (tgt := 56) hx hb dX8_canWork_34 (by decide) (fun hb4 => ?_) (fun hb4 => ?_)
        · refine lv_iconst (v := 1) hx hb dX8_canWork_56 (by decide) ?_
          refine lv_goto (tgt := 61) hx hb dX8_canWork_57 (by decide) ?_
          exact ze_i hx hb hr hlk rfl (by unfold v_X8_canWork; rw [if_neg hb1, if_pos hb2, if_pos hb3, if_pos hb4]) dX8_canWork_61
        · refine lv_aload_n hx hb dX8_canWork_37 rfl (lv_at hl 0 rfl) ?_
          refine t_get (D := D) (ci := 7) (v := .int (F 2 fl k 10)) (C := RX8) (T := TX8) (N := 12) hx hb hts iX8 hown hK hW 2 fl k (dm2 (by omega) (by omega)) rfl rfl 10 (by decide) (hts _ wq1125) (fun _ h9 => h9) rfl dX8_canWork_38 ?_
          refine lv_if_eq (tgt := 60) hx hb dX8_canWork_41 (by decide) (fun hb5 => ?_) (fun hb5 => ?_)
          · refine lv_iconst (v := 0) hx hb dX8_canWork_60 (by decide) ?_
            exact ze_i hx hb hr hlk rfl (by unfold v_X8_canWork; rw [if_neg hb1, if_pos hb2, if_pos hb3, if_neg hb4, if_pos hb5]) dX8_canWork_61
          · refine lv_aload_n hx hb dX8_canWork_44 rfl (lv_at hl 0 rfl) ?_
            refine t_get (D := D) (ci := 7) (v := .ref (zg S 0 fl (3 * k))) (C := RX8) (T := TX8) (N := 12) hx hb hts iX8 hown hK hW 2 fl k (dm2 (by omega) (by omega)) rfl rfl 7 (by decide) (hts _ wq1118) (fun _ h9 => h9) rfl dX8_canWork_45 ?_
            refine t_getN (D := D) (ci := 8) (v := .int (F 0 fl (3 * k) 0)) (C := RX9) (T := TX9) (N := 11) hx hb hts iX9 hown hK hW 0 fl (3 * k) (dm0 (by omega) (by omega)) rfl rfl 0 (by decide) (zk_tab rfl (hN _ wr1052 rfl)) (fun _ h9 => h9) rfl dX8_canWork_48 ?_
            refine lv_ldc hx hb hown (hts _ wq303) dX8_canWork_51 ?_
            refine lv_icmp_eq (tgt := 60) hx hb dX8_canWork_53 (by decide) (fun hb6 => ?_) (fun hb6 => ?_)
            · refine lv_iconst (v := 0) hx hb dX8_canWork_60 (by decide) ?_
              exact ze_i hx hb hr hlk rfl (by unfold v_X8_canWork; rw [if_neg hb1, if_pos hb2, if_pos hb3, if_neg hb4, if_neg hb5, if_pos hb6]) dX8_canWork_61
            · refine lv_iconst (v := 1) hx hb dX8_canWork_56 (by decide) ?_
              refine lv_goto (tgt := 61) hx hb dX8_canWork_57 (by decide) ?_
              exact ze_i hx hb hr hlk rfl (by unfold v_X8_canWork; rw [if_neg hb1, if_pos hb2, if_pos hb3, if_neg hb4, if_neg hb5, if_neg hb6]) dX8_canWork_61
  · refine lv_iconst (v := 0) hx hb dX8_canWork_11 (by decide) ?_
    exact ze_i hx hb hr hlk rfl (by unfold v_X8_canWork; rw [if_pos hb1]) dX8_canWork_12
def v_X8_turnsToSecond (S : TS) (F : TF) (G : TG) (q : TQ) (fl : Nat) (k : Nat) : Int32 := if (zp S 1 k).isSome = true then if (v_X1_canGive S F G q 5 fl k) = 0 then 0 else if (F 0 fl (3 * k) 3) = 0 then 1 else if (zp S 0 k).isSome = true then if (v_X1_canGive S F G q 4 fl k) = 0 then 1 else 0 else 1 else 0
set_option maxHeartbeats 4000000 in
set_option maxRecDepth 100000 in
theorem k_X8_turnsToSecond (l : Launch) (D : va_G) (yc : Nat → ClassId) (e0 : Nat) (A : Nat → Prop) (S : TS) (Z : Nat × Nat) (F : TF) (G : TG) (q : TQ) (fl : Nat) (k : Nat) (hf : fl < 2) (hk : k < zn S) : Met l yX8_turnsToSecond (ws_ yX8_turnsToSecond cX8_turnsToSecond 1 (some .boolean)) ({ frames := 3, cells := 0, slots := 0, locals := 60 }) (PT D yc e0 A S Z F G q [.ref (zg S 2 fl k)]) (zQ (some (.int (v_X8_turnsToSecond S F G q fl k)))) 0 0 zno := by
  refine tk_M (by decide) (Nat.le_of_ble_eq_true rfl) ?_
  intro p e s m args below meth c ls hx hb hml hr hlk hown hts hW hS hA hC hl
  have hK := hC.1
  have hN := hC.2.1
  have hn12 := hW.n12
  have hl : lv_has ls 1 [(0, .ref (zg S 2 fl k))] := hl
  refine lv_aload_n hx hb dX8_turnsToSecond_0 rfl (lv_at hl 0 rfl) ?_
  refine t_get (D := D) (ci := 7) (v := zch S 1 fl k) (C := RX8) (T := TX8) (N := 12) hx hb hts iX8 hown hK hW 2 fl k (dm2 (by omega) (by omega)) rfl rfl 3 (by decide) (hts _ wq1110) (fun _ h9 => h9) rfl dX8_turnsToSecond_1 ?_
  by_cases ho1 : (zp S 1 k).isSome = true
  · refine zk_tv (y := .ref (zg S 5 fl k)) (by show zch S 1 fl k = _; unfold zch; rw [if_pos ho1]) ?_
    refine lv_ifnull hx hb dX8_turnsToSecond_4 ?_
    refine lv_aload_n hx hb dX8_turnsToSecond_7 rfl (lv_at hl 0 rfl) ?_
    refine t_get (D := D) (ci := 7) (v := zch S 1 fl k) (C := RX8) (T := TX8) (N := 12) hx hb hts iX8 hown hK hW 2 fl k (dm2 (by omega) (by omega)) rfl rfl 3 (by decide) (hts _ wq1110) (fun _ h9 => h9) rfl dX8_turnsToSecond_8 ?_
    refine zk_tv (y := .ref (zg S 5 fl k)) (by show zch S 1 fl k = _; unfold zch; rw [if_pos ho1]) ?_
    refine zr_i (va_runV (As := []) (rest := []) ⟨hx, hb, hml, hown, hts⟩ (k_X1_canGive l D yc e0 A S Z F G q 5 fl k (Or.inr rfl) (dm5 (by omega) (by omega) (by assumption))) (cwV 0 hts (lw_V wq304 wq305 wq306 wq17 wq307) rfl rfl rfl (by decide +kernel) ⟨(Nat.le_of_ble_eq_true rfl), (Nat.le_of_ble_eq_true rfl)⟩) (tp_V hC hW hS hA 5 fl k (dm5 (by omega) (by omega) (by assumption)) (cel_ch (Or.inr rfl)) rfl) rfl rfl hl.1 rfl (lv_room (Nat.le_of_ble_eq_true rfl)) dX8_turnsToSecond_11 ⟨(Nat.le_of_ble_eq_true rfl), (Nat.le_of_ble_eq_true rfl)⟩) ?_
    refine lv_if_ne (tgt := 19) hx hb dX8_turnsToSecond_14 (by decide) (fun hb2 => ?_) (fun hb2 => ?_)
    · refine lv_aload_n hx hb dX8_turnsToSecond_19 rfl (lv_at hl 0 rfl) ?_
      refine t_get (D := D) (ci := 7) (v := .ref (zg S 0 fl (3 * k))) (C := RX8) (T := TX8) (N := 12) hx hb hts iX8 hown hK hW 2 fl k (dm2 (by omega) (by omega)) rfl rfl 7 (by decide) (hts _ wq1118) (fun _ h9 => h9) rfl dX8_turnsToSecond_20 ?_
      refine t_getN (D := D) (ci := 8) (v := .int (F 0 fl (3 * k) 3)) (C := RX9) (T := TX9) (N := 11) hx hb hts iX9 hown hK hW 0 fl (3 * k) (dm0 (by omega) (by omega)) rfl rfl 3 (by decide) (zk_tab rfl (hN _ wr1059 rfl)) (fun _ h9 => h9) rfl dX8_turnsToSecond_23 ?_
      refine lv_if_eq (tgt := 46) hx hb dX8_turnsToSecond_26 (by decide) (fun hb3 => ?_) (fun hb3 => ?_)
      · refine lv_iconst (v := 1) hx hb dX8_turnsToSecond_46 (by decide) ?_
        refine lv_goto (tgt := 51) hx hb dX8_turnsToSecond_47 (by decide) ?_
        exact ze_i hx hb hr hlk rfl (by unfold v_X8_turnsToSecond; rw [if_pos ho1, if_neg hb2, if_pos hb3]) dX8_turnsToSecond_51
      · refine lv_aload_n hx hb dX8_turnsToSecond_29 rfl (lv_at hl 0 rfl) ?_
        refine t_get (D := D) (ci := 7) (v := zch S 0 fl k) (C := RX8) (T := TX8) (N := 12) hx hb hts iX8 hown hK hW 2 fl k (dm2 (by omega) (by omega)) rfl rfl 2 (by decide) (hts _ wq1108) (fun _ h9 => h9) rfl dX8_turnsToSecond_30 ?_
        by_cases ho4 : (zp S 0 k).isSome = true
        · refine zk_tv (y := .ref (zg S 4 fl k)) (by show zch S 0 fl k = _; unfold zch; rw [if_pos ho4]) ?_
          refine lv_ifnull hx hb dX8_turnsToSecond_33 ?_
          refine lv_aload_n hx hb dX8_turnsToSecond_36 rfl (lv_at hl 0 rfl) ?_
          refine t_get (D := D) (ci := 7) (v := zch S 0 fl k) (C := RX8) (T := TX8) (N := 12) hx hb hts iX8 hown hK hW 2 fl k (dm2 (by omega) (by omega)) rfl rfl 2 (by decide) (hts _ wq1108) (fun _ h9 => h9) rfl dX8_turnsToSecond_37 ?_
          refine zk_tv (y := .ref (zg S 4 fl k)) (by show zch S 0 fl k = _; unfold zch; rw [if_pos ho4]) ?_
          refine zr_i (va_runV (As := []) (rest := []) ⟨hx, hb, hml, hown, hts⟩ (k_X1_canGive l D yc e0 A S Z F G q 4 fl k (Or.inl rfl) (dm4 (by omega) (by omega) (by assumption))) (cwV 0 hts (lw_V wq304 wq305 wq306 wq17 wq307) rfl rfl rfl (by decide +kernel) ⟨(Nat.le_of_ble_eq_true rfl), (Nat.le_of_ble_eq_true rfl)⟩) (tp_V hC hW hS hA 4 fl k (dm4 (by omega) (by omega) (by assumption)) (cel_ch (Or.inl rfl)) rfl) rfl rfl hl.1 rfl (lv_room (Nat.le_of_ble_eq_true rfl)) dX8_turnsToSecond_40 ⟨(Nat.le_of_ble_eq_true rfl), (Nat.le_of_ble_eq_true rfl)⟩) ?_
          refine lv_if_ne (tgt := 50) hx hb dX8_turnsToSecond_43 (by decide) (fun hb5 => ?_) (fun hb5 => ?_)
          · refine lv_iconst (v := 0) hx hb dX8_turnsToSecond_50 (by decide) ?_
            exact ze_i hx hb hr hlk rfl (by unfold v_X8_turnsToSecond; rw [if_pos ho1, if_neg hb2, if_neg hb3, if_pos ho4, if_neg hb5]) dX8_turnsToSecond_51
          · refine lv_iconst (v := 1) hx hb dX8_turnsToSecond_46 (by decide) ?_
            refine lv_goto (tgt := 51) hx hb dX8_turnsToSecond_47 (by decide) ?_
            exact ze_i hx hb hr hlk rfl (by unfold v_X8_turnsToSecond; rw [if_pos ho1, if_neg hb2, if_neg hb3, if_pos ho4, if_pos hb5]) dX8_turnsToSecond_51
        · refine zk_tv (y := .null) (by show zch S 0 fl k = _; unfold zch; rw [if_neg ho4]) ?_
          refine lv_ifnullN (tgt := 46) hx hb dX8_turnsToSecond_33 (by decide) ?_
          refine lv_iconst (v := 1) hx hb dX8_turnsToSecond_46 (by decide) ?_
          refine lv_goto (tgt := 51) hx hb dX8_turnsToSecond_47 (by decide) ?_
          exact ze_i hx hb hr hlk rfl (by unfold v_X8_turnsToSecond; rw [if_pos ho1, if_neg hb2, if_neg hb3, if_neg ho4]) dX8_turnsToSecond_51
    · refine lv_iconst (v := 0) hx hb dX8_turnsToSecond_17 (by decide) ?_
      exact ze_i hx hb hr hlk rfl (by unfold v_X8_turnsToSecond; rw [if_pos ho1, if_pos hb2]) dX8_turnsToSecond_18
  · refine zk_tv (y := .null) (by show zch S 1 fl k = _; unfold zch; rw [if_neg ho1]) ?_
    refine lv_ifnullN (tgt := 17) hx hb dX8_turnsToSecond_4 (by decide) ?_
    refine lv_iconst (v := 0) hx hb dX8_turnsToSecond_17 (by decide) ?_
    exact ze_i hx hb hr hlk rfl (by unfold v_X8_turnsToSecond; rw [if_neg ho1]) dX8_turnsToSecond_18
def v_X8_passes (S : TS) (F : TF) (G : TG) (q : TQ) (fl : Nat) (k : Nat) (l1 : Int64) : Int32 := if (F 8 0 k 4) = 0 then if (v_X3_value l1) < (F 8 0 k 5) then 0 else 1 else if (F 8 0 k 4) = 1 then if (F 8 0 k 5) ≤ (v_X3_value l1) then 0 else 1 else if (F 8 0 k 4) = 2 then if (v_X3_key l1) = (F 8 0 k 5) then 1 else 0 else if (F 8 0 k 5) = 0 then 0 else if (v_J9_floorMod (v_X3_value l1) (F 8 0 k 5)) = 0 then 1 else 0
set_option maxHeartbeats 4000000 in
set_option maxRecDepth 100000 in
theorem k_X8_passes (l : Launch) (D : va_G) (yc : Nat → ClassId) (e0 : Nat) (A : Nat → Prop) (S : TS) (Z : Nat × Nat) (F : TF) (G : TG) (q : TQ) (fl : Nat) (k : Nat) (l1 : Int64) (hf : fl < 2) (hk : k < zn S) : Met l yX8_passes (ws_ yX8_passes cX8_passes 5 (some .boolean)) ({ frames := 1, cells := 0, slots := 0, locals := 22 }) (PT D yc e0 A S Z F G q [.ref (zg S 2 fl k), .long l1]) (zQ (some (.int (v_X8_passes S F G q fl k l1)))) 0 0 zno := by
  refine tk_M (by decide) (Nat.le_of_ble_eq_true rfl) ?_
  intro p e s m args below meth c ls hx hb hml hr hlk hown hts hW hS hA hC hl
  have hK := hC.1
  have hN := hC.2.1
  have hn12 := hW.n12
  have hl : lv_has ls 5 [(0, .ref (zg S 2 fl k)), (1, .long l1)] := hl
  refine lv_lload_n hx hb dX8_passes_0 rfl (lv_at hl 1 rfl) ?_
  refine zr_i (va_runS (As := [.long l1]) (rest := []) ⟨hx, hb, hml, hown, hts⟩ (k_X3_value l l1) (va_cwS 1 hts (lw_S wq484 wq485 wq25 wq486) rfl rfl rfl (by decide +kernel) ⟨(Nat.le_of_ble_eq_true rfl), (Nat.le_of_ble_eq_true rfl)⟩) tp_N rfl rfl hl.1 rfl (lv_room (Nat.le_of_ble_eq_true rfl)) dX8_passes_1 ⟨(Nat.le_of_ble_eq_true rfl), (Nat.le_of_ble_eq_true rfl)⟩) ?_
  refine lv_istore_n (lv' := [(3, .int (v_X3_value l1)), (0, .ref (zg S 2 fl k)), (1, .long l1)]) hx hb dX8_passes_4 rfl hl (by decide) rfl (fun ls hl => ?_)
  refine lv_aload_n hx hb dX8_passes_5 rfl (lv_at hl 1 rfl) ?_
  refine t_get (D := D) (ci := 7) (v := .ref (zg S 8 0 k)) (C := RX8) (T := TX8) (N := 12) hx hb hts iX8 hown hK hW 2 fl k (dm2 (by omega) (by omega)) rfl rfl 0 (by decide) (hts _ wq1103) (fun _ h9 => h9) rfl dX8_passes_6 ?_
  refine t_getN (D := D) (ci := 4) (v := .int (F 8 0 k 5)) (C := RX5) (T := TX5) (N := 15) hx hb hts iX5 hown hK hW 8 0 k (dm8 (by omega)) rfl rfl 5 (by decide) (zk_tab rfl (hN _ wr845 rfl)) (fun _ h9 => h9) rfl dX8_passes_9 ?_
  refine lv_istore (lv' := [(4, .int (F 8 0 k 5)), (3, .int (v_X3_value l1)), (0, .ref (zg S 2 fl k)), (1, .long l1)]) hx hb dX8_passes_12 hl (by decide) rfl (fun ls hl => ?_)
  refine lv_aload_n hx hb dX8_passes_14 rfl (lv_at hl 2 rfl) ?_
  refine t_get (D := D) (ci := 7) (v := .ref (zg S 8 0 k)) (C := RX8) (T := TX8) (N := 12) hx hb hts iX8 hown hK hW 2 fl k (dm2 (by omega) (by omega)) rfl rfl 0 (by decide) (hts _ wq1103) (fun _ h9 => h9) rfl dX8_passes_15 ?_
  refine t_getN (D := D) (ci := 4) (v := .int (F 8 0 k 4)) (C := RX5) (T := TX5) (N := 15) hx hb hts iX5 hown hK hW 8 0 k (dm8 (by omega)) rfl rfl 4 (by decide) (zk_tab rfl (hN _ wr843 rfl)) (fun _ h9 => h9) rfl dX8_passes_18 ?_
  by_cases hs1 : (F 8 0 k 4) = 0
  · refine zk_ti (y := 0) hs1 ?_
    refine lv_tableIn (off := 27) (tgt := 48) hx hb dX8_passes_21 (by decide) (by decide) (by decide) (by decide) ?_
    refine lv_iload_n hx hb dX8_passes_48 rfl (lv_at hl 1 rfl) ?_
    refine lv_iload hx hb dX8_passes_49 (lv_at hl 0 rfl) ?_
    refine lv_icmp_lt (tgt := 58) hx hb dX8_passes_51 (by decide) (fun hb2 => ?_) (fun hb2 => ?_)
    · refine lv_iconst (v := 0) hx hb dX8_passes_58 (by decide) ?_
      exact ze_i hx hb hr hlk rfl (by unfold v_X8_passes; rw [if_pos hs1, if_pos hb2]) dX8_passes_59
    · refine lv_iconst (v := 1) hx hb dX8_passes_54 (by decide) ?_
      refine lv_goto (tgt := 59) hx hb dX8_passes_55 (by decide) ?_
      exact ze_i hx hb hr hlk rfl (by unfold v_X8_passes; rw [if_pos hs1, if_neg hb2]) dX8_passes_59
  · by_cases hs3 : (F 8 0 k 4) = 1
    · refine zk_ti (y := 1) hs3 ?_
      refine lv_tableIn (off := 39) (tgt := 60) hx hb dX8_passes_21 (by decide) (by decide) (by decide) (by decide) ?_
      refine lv_iload_n hx hb dX8_passes_60 rfl (lv_at hl 1 rfl) ?_
      refine lv_iload hx hb dX8_passes_61 (lv_at hl 0 rfl) ?_
      refine lv_icmp_ge (tgt := 70) hx hb dX8_passes_63 (by decide) (fun hb4 => ?_) (fun hb4 => ?_)
      · refine lv_iconst (v := 0) hx hb dX8_passes_70 (by decide) ?_
        exact ze_i hx hb hr hlk rfl (by unfold v_X8_passes; rw [if_neg hs1, if_pos hs3, if_pos hb4]) dX8_passes_71
      · refine lv_iconst (v := 1) hx hb dX8_passes_66 (by decide) ?_
        refine lv_goto (tgt := 71) hx hb dX8_passes_67 (by decide) ?_
        exact ze_i hx hb hr hlk rfl (by unfold v_X8_passes; rw [if_neg hs1, if_pos hs3, if_neg hb4]) dX8_passes_71
    · by_cases hs5 : (F 8 0 k 4) = 2
      · refine zk_ti (y := 2) hs5 ?_
        refine lv_tableIn (off := 51) (tgt := 72) hx hb dX8_passes_21 (by decide) (by decide) (by decide) (by decide) ?_
        refine lv_lload_n hx hb dX8_passes_72 rfl (lv_at hl 3 rfl) ?_
        refine zr_i (va_runS (As := [.long l1]) (rest := []) ⟨hx, hb, hml, hown, hts⟩ (k_X3_key l l1) (va_cwS 1 hts (lw_S wq487 wq488 wq25 wq489) rfl rfl rfl (by decide +kernel) ⟨(Nat.le_of_ble_eq_true rfl), (Nat.le_of_ble_eq_true rfl)⟩) tp_N rfl rfl hl.1 rfl (lv_room (Nat.le_of_ble_eq_true rfl)) dX8_passes_73 ⟨(Nat.le_of_ble_eq_true rfl), (Nat.le_of_ble_eq_true rfl)⟩) ?_
        refine lv_iload hx hb dX8_passes_76 (lv_at hl 0 rfl) ?_
        refine lv_icmp_ne (tgt := 85) hx hb dX8_passes_78 (by decide) (fun hb6 => ?_) (fun hb6 => ?_)
        · refine lv_iconst (v := 0) hx hb dX8_passes_85 (by decide) ?_
          exact ze_i hx hb hr hlk rfl (by unfold v_X8_passes; rw [if_neg hs1, if_neg hs3, if_pos hs5, if_neg hb6]) dX8_passes_86
        · refine lv_iconst (v := 1) hx hb dX8_passes_81 (by decide) ?_
          refine lv_goto (tgt := 86) hx hb dX8_passes_82 (by decide) ?_
          exact ze_i hx hb hr hlk rfl (by unfold v_X8_passes; rw [if_neg hs1, if_neg hs3, if_pos hs5, if_pos hb6]) dX8_passes_86
      · refine lv_tableOut (tgt := 87) hx hb dX8_passes_21 (by have a0 := zk_nt hs1; have e0 : (0 : Int32).toInt = 0 := (by decide); rw [e0] at a0; have a1 := zk_nt hs3; have e1 : (1 : Int32).toInt = 1 := (by decide); rw [e1] at a1; have a2 := zk_nt hs5; have e2 : (2 : Int32).toInt = 2 := (by decide); rw [e2] at a2; omega) (by decide) ?_
        refine lv_iload hx hb dX8_passes_87 (lv_at hl 0 rfl) ?_
        refine lv_if_eq (tgt := 105) hx hb dX8_passes_89 (by decide) (fun hb7 => ?_) (fun hb7 => ?_)
        · refine lv_iconst (v := 0) hx hb dX8_passes_105 (by decide) ?_
          exact ze_i hx hb hr hlk rfl (by unfold v_X8_passes; rw [if_neg hs1, if_neg hs3, if_neg hs5, if_pos hb7]) dX8_passes_106
        · refine lv_iload_n hx hb dX8_passes_92 rfl (lv_at hl 1 rfl) ?_
          refine lv_iload hx hb dX8_passes_93 (lv_at hl 0 rfl) ?_
          refine zr_i (va_runS (As := [.int (v_X3_value l1), .int (F 8 0 k 5)]) (rest := []) ⟨hx, hb, hml, hown, hts⟩ (k_J9_floorMod l (v_X3_value l1) (F 8 0 k 5) (by first | assumption | omega | decide)) (va_cwS 2 hts (lw_S wq491 wq492 wq14 wq493) rfl rfl rfl (by decide +kernel) ⟨(Nat.le_of_ble_eq_true rfl), (Nat.le_of_ble_eq_true rfl)⟩) tp_N rfl rfl hl.1 rfl (lv_room (Nat.le_of_ble_eq_true rfl)) dX8_passes_95 ⟨(Nat.le_of_ble_eq_true rfl), (Nat.le_of_ble_eq_true rfl)⟩) ?_
          refine lv_if_ne (tgt := 105) hx hb dX8_passes_98 (by decide) (fun hb8 => ?_) (fun hb8 => ?_)
          · refine lv_iconst (v := 0) hx hb dX8_passes_105 (by decide) ?_
            exact ze_i hx hb hr hlk rfl (by unfold v_X8_passes; rw [if_neg hs1, if_neg hs3, if_neg hs5, if_neg hb7, if_neg hb8]) dX8_passes_106
          · refine lv_iconst (v := 1) hx hb dX8_passes_101 (by decide) ?_
            refine lv_goto (tgt := 106) hx hb dX8_passes_102 (by decide) ?_
            exact ze_i hx hb hr hlk rfl (by unfold v_X8_passes; rw [if_neg hs1, if_neg hs3, if_neg hs5, if_neg hb7, if_pos hb8]) dX8_passes_106
def v_X8_mapped (S : TS) (F : TF) (G : TG) (q : TQ) (fl : Nat) (k : Nat) (l1 : Int64) : Int64 := if (F 8 0 k 4) = 0 then v_X3_event (v_X3_key l1) ((v_X3_value l1) + (F 8 0 k 5)) (v_X3_time l1) else if (F 8 0 k 4) = 1 then v_X3_event (v_X3_key l1) ((v_X3_value l1) * (F 8 0 k 5)) (v_X3_time l1) else if (F 8 0 k 4) = 2 then if 1 ≤ (F 8 0 k 5) then v_X3_event (v_J9_floorMod (v_X3_value l1) (F 8 0 k 5)) (v_X3_value l1) (v_X3_time l1) else v_X3_event (v_X3_key l1) (v_X3_value l1) (v_X3_time l1) else v_X3_event (v_X3_key l1) (v_X3_key l1) (v_X3_time l1)
set_option maxHeartbeats 4000000 in
set_option maxRecDepth 100000 in
theorem k_X8_mapped (l : Launch) (D : va_G) (yc : Nat → ClassId) (e0 : Nat) (A : Nat → Prop) (S : TS) (Z : Nat × Nat) (F : TF) (G : TG) (q : TQ) (fl : Nat) (k : Nat) (l1 : Int64) (hf : fl < 2) (hk : k < zn S) : Met l yX8_mapped (ws_ yX8_mapped cX8_mapped 7 (some .long)) ({ frames := 1, cells := 0, slots := 0, locals := 22 }) (PT D yc e0 A S Z F G q [.ref (zg S 2 fl k), .long l1]) (zQ (some (.long (v_X8_mapped S F G q fl k l1)))) 0 0 zno := by
  refine tk_M (by decide) (Nat.le_of_ble_eq_true rfl) ?_
  intro p e s m args below meth c ls hx hb hml hr hlk hown hts hW hS hA hC hl
  have hK := hC.1
  have hN := hC.2.1
  have hn12 := hW.n12
  have hl : lv_has ls 7 [(0, .ref (zg S 2 fl k)), (1, .long l1)] := hl
  refine lv_lload_n hx hb dX8_mapped_0 rfl (lv_at hl 1 rfl) ?_
  refine zr_i (va_runS (As := [.long l1]) (rest := []) ⟨hx, hb, hml, hown, hts⟩ (k_X3_key l l1) (va_cwS 1 hts (lw_S wq487 wq488 wq25 wq489) rfl rfl rfl (by decide +kernel) ⟨(Nat.le_of_ble_eq_true rfl), (Nat.le_of_ble_eq_true rfl)⟩) tp_N rfl rfl hl.1 rfl (lv_room (Nat.le_of_ble_eq_true rfl)) dX8_mapped_1 ⟨(Nat.le_of_ble_eq_true rfl), (Nat.le_of_ble_eq_true rfl)⟩) ?_
  refine lv_istore_n (lv' := [(3, .int (v_X3_key l1)), (0, .ref (zg S 2 fl k)), (1, .long l1)]) hx hb dX8_mapped_4 rfl hl (by decide) rfl (fun ls hl => ?_)
  refine lv_lload_n hx hb dX8_mapped_5 rfl (lv_at hl 2 rfl) ?_
  refine zr_i (va_runS (As := [.long l1]) (rest := []) ⟨hx, hb, hml, hown, hts⟩ (k_X3_value l l1) (va_cwS 1 hts (lw_S wq484 wq485 wq25 wq486) rfl rfl rfl (by decide +kernel) ⟨(Nat.le_of_ble_eq_true rfl), (Nat.le_of_ble_eq_true rfl)⟩) tp_N rfl rfl hl.1 rfl (lv_room (Nat.le_of_ble_eq_true rfl)) dX8_mapped_6 ⟨(Nat.le_of_ble_eq_true rfl), (Nat.le_of_ble_eq_true rfl)⟩) ?_
  refine lv_istore (lv' := [(4, .int (v_X3_value l1)), (3, .int (v_X3_key l1)), (0, .ref (zg S 2 fl k)), (1, .long l1)]) hx hb dX8_mapped_9 hl (by decide) rfl (fun ls hl => ?_)
  refine lv_lload_n hx hb dX8_mapped_11 rfl (lv_at hl 3 rfl) ?_
  refine zr_i (va_runS (As := [.long l1]) (rest := []) ⟨hx, hb, hml, hown, hts⟩ (k_X3_time l l1) (va_cwS 1 hts (lw_S wq395 wq396 wq25 wq397) rfl rfl rfl (by decide +kernel) ⟨(Nat.le_of_ble_eq_true rfl), (Nat.le_of_ble_eq_true rfl)⟩) tp_N rfl rfl hl.1 rfl (lv_room (Nat.le_of_ble_eq_true rfl)) dX8_mapped_12 ⟨(Nat.le_of_ble_eq_true rfl), (Nat.le_of_ble_eq_true rfl)⟩) ?_
  refine lv_istore (lv' := [(5, .int (v_X3_time l1)), (4, .int (v_X3_value l1)), (3, .int (v_X3_key l1)), (0, .ref (zg S 2 fl k)), (1, .long l1)]) hx hb dX8_mapped_15 hl (by decide) rfl (fun ls hl => ?_)
  refine lv_aload_n hx hb dX8_mapped_17 rfl (lv_at hl 3 rfl) ?_
  refine t_get (D := D) (ci := 7) (v := .ref (zg S 8 0 k)) (C := RX8) (T := TX8) (N := 12) hx hb hts iX8 hown hK hW 2 fl k (dm2 (by omega) (by omega)) rfl rfl 0 (by decide) (hts _ wq1103) (fun _ h9 => h9) rfl dX8_mapped_18 ?_
  refine t_getN (D := D) (ci := 4) (v := .int (F 8 0 k 5)) (C := RX5) (T := TX5) (N := 15) hx hb hts iX5 hown hK hW 8 0 k (dm8 (by omega)) rfl rfl 5 (by decide) (zk_tab rfl (hN _ wr845 rfl)) (fun _ h9 => h9) rfl dX8_mapped_21 ?_
  refine lv_istore (lv' := [(6, .int (F 8 0 k 5)), (5, .int (v_X3_time l1)), (4, .int (v_X3_value l1)), (3, .int (v_X3_key l1)), (0, .ref (zg S 2 fl k)), (1, .long l1)]) hx hb dX8_mapped_24 hl (by decide) rfl (fun ls hl => ?_)
  refine lv_aload_n hx hb dX8_mapped_26 rfl (lv_at hl 4 rfl) ?_
  refine t_get (D := D) (ci := 7) (v := .ref (zg S 8 0 k)) (C := RX8) (T := TX8) (N := 12) hx hb hts iX8 hown hK hW 2 fl k (dm2 (by omega) (by omega)) rfl rfl 0 (by decide) (hts _ wq1103) (fun _ h9 => h9) rfl dX8_mapped_27 ?_
  refine t_getN (D := D) (ci := 4) (v := .int (F 8 0 k 4)) (C := RX5) (T := TX5) (N := 15) hx hb hts iX5 hown hK hW 8 0 k (dm8 (by omega)) rfl rfl 4 (by decide) (zk_tab rfl (hN _ wr843 rfl)) (fun _ h9 => h9) rfl dX8_mapped_30 ?_
  by_cases hs1 : (F 8 0 k 4) = 0
  · refine zk_ti (y := 0) hs1 ?_
    refine lv_tableIn (off := 27) (tgt := 60) hx hb dX8_mapped_33 (by decide) (by decide) (by decide) (by decide) ?_
    refine lv_iload_n hx hb dX8_mapped_60 rfl (lv_at hl 3 rfl) ?_
    refine lv_iload hx hb dX8_mapped_61 (lv_at hl 2 rfl) ?_
    refine lv_iload hx hb dX8_mapped_63 (lv_at hl 0 rfl) ?_
    refine lv_iadd hx hb dX8_mapped_65 ?_
    refine lv_iload hx hb dX8_mapped_66 (lv_at hl 1 rfl) ?_
    refine zr_l (va_runS (As := [.int (v_X3_key l1), .int ((v_X3_value l1) + (F 8 0 k 5)), .int (v_X3_time l1)]) (rest := []) ⟨hx, hb, hml, hown, hts⟩ (k_X3_event l (v_X3_key l1) ((v_X3_value l1) + (F 8 0 k 5)) (v_X3_time l1)) (va_cwS 3 hts (lw_S wq444 wq445 wq25 wq446) rfl rfl rfl (by decide +kernel) ⟨(Nat.le_of_ble_eq_true rfl), (Nat.le_of_ble_eq_true rfl)⟩) tp_N rfl rfl hl.1 rfl (lv_room (Nat.le_of_ble_eq_true rfl)) dX8_mapped_68 ⟨(Nat.le_of_ble_eq_true rfl), (Nat.le_of_ble_eq_true rfl)⟩) ?_
    exact ze_l hx hb hr hlk (by unfold v_X8_mapped; rw [if_pos hs1]) dX8_mapped_71
  · by_cases hs2 : (F 8 0 k 4) = 1
    · refine zk_ti (y := 1) hs2 ?_
      refine lv_tableIn (off := 39) (tgt := 72) hx hb dX8_mapped_33 (by decide) (by decide) (by decide) (by decide) ?_
      refine lv_iload_n hx hb dX8_mapped_72 rfl (lv_at hl 3 rfl) ?_
      refine lv_iload hx hb dX8_mapped_73 (lv_at hl 2 rfl) ?_
      refine lv_iload hx hb dX8_mapped_75 (lv_at hl 0 rfl) ?_
      refine lv_imul hx hb dX8_mapped_77 ?_
      refine lv_iload hx hb dX8_mapped_78 (lv_at hl 1 rfl) ?_
      refine zr_l (va_runS (As := [.int (v_X3_key l1), .int ((v_X3_value l1) * (F 8 0 k 5)), .int (v_X3_time l1)]) (rest := []) ⟨hx, hb, hml, hown, hts⟩ (k_X3_event l (v_X3_key l1) ((v_X3_value l1) * (F 8 0 k 5)) (v_X3_time l1)) (va_cwS 3 hts (lw_S wq444 wq445 wq25 wq446) rfl rfl rfl (by decide +kernel) ⟨(Nat.le_of_ble_eq_true rfl), (Nat.le_of_ble_eq_true rfl)⟩) tp_N rfl rfl hl.1 rfl (lv_room (Nat.le_of_ble_eq_true rfl)) dX8_mapped_80 ⟨(Nat.le_of_ble_eq_true rfl), (Nat.le_of_ble_eq_true rfl)⟩) ?_
      exact ze_l hx hb hr hlk (by unfold v_X8_mapped; rw [if_neg hs1, if_pos hs2]) dX8_mapped_83
    · by_cases hs3 : (F 8 0 k 4) = 2
      · refine zk_ti (y := 2) hs3 ?_
        refine lv_tableIn (off := 51) (tgt := 84) hx hb dX8_mapped_33 (by decide) (by decide) (by decide) (by decide) ?_
        refine lv_iload hx hb dX8_mapped_84 (lv_at hl 0 rfl) ?_
        refine lv_iconst (v := 1) hx hb dX8_mapped_86 (by decide) ?_
        refine lv_icmp_ge (tgt := 94) hx hb dX8_mapped_87 (by decide) (fun hb4 => ?_) (fun hb4 => ?_)
        · refine lv_iload hx hb dX8_mapped_94 (lv_at hl 2 rfl) ?_
          refine lv_iload hx hb dX8_mapped_96 (lv_at hl 0 rfl) ?_
          refine zr_i (va_runS (As := [.int (v_X3_value l1), .int (F 8 0 k 5)]) (rest := []) ⟨hx, hb, hml, hown, hts⟩ (k_J9_floorMod l (v_X3_value l1) (F 8 0 k 5) (zpos1 (by assumption))) (va_cwS 2 hts (lw_S wq491 wq492 wq14 wq493) rfl rfl rfl (by decide +kernel) ⟨(Nat.le_of_ble_eq_true rfl), (Nat.le_of_ble_eq_true rfl)⟩) tp_N rfl rfl hl.1 rfl (lv_room (Nat.le_of_ble_eq_true rfl)) dX8_mapped_98 ⟨(Nat.le_of_ble_eq_true rfl), (Nat.le_of_ble_eq_true rfl)⟩) ?_
          refine lv_iload hx hb dX8_mapped_101 (lv_at hl 2 rfl) ?_
          refine lv_iload hx hb dX8_mapped_103 (lv_at hl 1 rfl) ?_
          refine zr_l (va_runS (As := [.int (v_J9_floorMod (v_X3_value l1) (F 8 0 k 5)), .int (v_X3_value l1), .int (v_X3_time l1)]) (rest := []) ⟨hx, hb, hml, hown, hts⟩ (k_X3_event l (v_J9_floorMod (v_X3_value l1) (F 8 0 k 5)) (v_X3_value l1) (v_X3_time l1)) (va_cwS 3 hts (lw_S wq444 wq445 wq25 wq446) rfl rfl rfl (by decide +kernel) ⟨(Nat.le_of_ble_eq_true rfl), (Nat.le_of_ble_eq_true rfl)⟩) tp_N rfl rfl hl.1 rfl (lv_room (Nat.le_of_ble_eq_true rfl)) dX8_mapped_105 ⟨(Nat.le_of_ble_eq_true rfl), (Nat.le_of_ble_eq_true rfl)⟩) ?_
          exact ze_l hx hb hr hlk (by unfold v_X8_mapped; rw [if_neg hs1, if_neg hs2, if_pos hs3, if_pos hb4]) dX8_mapped_108
        · refine lv_iload_n hx hb dX8_mapped_90 rfl (lv_at hl 3 rfl) ?_
          refine lv_goto (tgt := 101) hx hb dX8_mapped_91 (by decide) ?_
          refine lv_iload hx hb dX8_mapped_101 (lv_at hl 2 rfl) ?_
          refine lv_iload hx hb dX8_mapped_103 (lv_at hl 1 rfl) ?_
          refine zr_l (va_runS (As := [.int (v_X3_key l1), .int (v_X3_value l1), .int (v_X3_time l1)]) (rest := []) ⟨hx, hb, hml, hown, hts⟩ (k_X3_event l (v_X3_key l1) (v_X3_value l1) (v_X3_time l1)) (va_cwS 3 hts (lw_S wq444 wq445 wq25 wq446) rfl rfl rfl (by decide +kernel) ⟨(Nat.le_of_ble_eq_true rfl), (Nat.le_of_ble_eq_true rfl)⟩) tp_N rfl rfl hl.1 rfl (lv_room (Nat.le_of_ble_eq_true rfl)) dX8_mapped_105 ⟨(Nat.le_of_ble_eq_true rfl), (Nat.le_of_ble_eq_true rfl)⟩) ?_
          exact ze_l hx hb hr hlk (by unfold v_X8_mapped; rw [if_neg hs1, if_neg hs2, if_pos hs3, if_neg hb4]) dX8_mapped_108
      · refine lv_tableOut (tgt := 109) hx hb dX8_mapped_33 (by have a0 := zk_nt hs1; have e0 : (0 : Int32).toInt = 0 := (by decide); rw [e0] at a0; have a1 := zk_nt hs2; have e1 : (1 : Int32).toInt = 1 := (by decide); rw [e1] at a1; have a2 := zk_nt hs3; have e2 : (2 : Int32).toInt = 2 := (by decide); rw [e2] at a2; omega) (by decide) ?_
        refine lv_iload_n hx hb dX8_mapped_109 rfl (lv_at hl 3 rfl) ?_
        refine lv_iload_n hx hb dX8_mapped_110 rfl (lv_at hl 3 rfl) ?_
        refine lv_iload hx hb dX8_mapped_111 (lv_at hl 1 rfl) ?_
        refine zr_l (va_runS (As := [.int (v_X3_key l1), .int (v_X3_key l1), .int (v_X3_time l1)]) (rest := []) ⟨hx, hb, hml, hown, hts⟩ (k_X3_event l (v_X3_key l1) (v_X3_key l1) (v_X3_time l1)) (va_cwS 3 hts (lw_S wq444 wq445 wq25 wq446) rfl rfl rfl (by decide +kernel) ⟨(Nat.le_of_ble_eq_true rfl), (Nat.le_of_ble_eq_true rfl)⟩) tp_N rfl rfl hl.1 rfl (lv_room (Nat.le_of_ble_eq_true rfl)) dX8_mapped_113 ⟨(Nat.le_of_ble_eq_true rfl), (Nat.le_of_ble_eq_true rfl)⟩) ?_
        exact ze_l hx hb hr hlk (by unfold v_X8_mapped; rw [if_neg hs1, if_neg hs2, if_neg hs3]) dX8_mapped_116
def v_X8_meets (S : TS) (F : TF) (G : TG) (q : TQ) (fl : Nat) (k : Nat) (l1 : Int64) (l2 : Int64) : Int32 := if (v_X3_key l1) = (v_X3_key l2) then if (v_X3_time l2) < ((v_X3_time l1) - (F 8 0 k 10)) then 0 else if ((v_X3_time l1) + (F 8 0 k 11)) < (v_X3_time l2) then 0 else 1 else 0
set_option maxHeartbeats 4000000 in
set_option maxRecDepth 100000 in
theorem k_X8_meets (l : Launch) (D : va_G) (yc : Nat → ClassId) (e0 : Nat) (A : Nat → Prop) (S : TS) (Z : Nat × Nat) (F : TF) (G : TG) (q : TQ) (fl : Nat) (k : Nat) (l1 : Int64) (l2 : Int64) (hf : fl < 2) (hk : k < zn S) : Met l yX8_meets (ws_ yX8_meets cX8_meets 7 (some .boolean)) ({ frames := 1, cells := 0, slots := 0, locals := 21 }) (PT D yc e0 A S Z F G q [.ref (zg S 2 fl k), .long l1, .long l2]) (zQ (some (.int (v_X8_meets S F G q fl k l1 l2)))) 0 0 zno := by
  refine tk_M (by decide) (Nat.le_of_ble_eq_true rfl) ?_
  intro p e s m args below meth c ls hx hb hml hr hlk hown hts hW hS hA hC hl
  have hK := hC.1
  have hN := hC.2.1
  have hn12 := hW.n12
  have hl : lv_has ls 7 [(0, .ref (zg S 2 fl k)), (1, .long l1), (3, .long l2)] := hl
  refine lv_lload_n hx hb dX8_meets_0 rfl (lv_at hl 1 rfl) ?_
  refine zr_i (va_runS (As := [.long l1]) (rest := []) ⟨hx, hb, hml, hown, hts⟩ (k_X3_time l l1) (va_cwS 1 hts (lw_S wq395 wq396 wq25 wq397) rfl rfl rfl (by decide +kernel) ⟨(Nat.le_of_ble_eq_true rfl), (Nat.le_of_ble_eq_true rfl)⟩) tp_N rfl rfl hl.1 rfl (lv_room (Nat.le_of_ble_eq_true rfl)) dX8_meets_1 ⟨(Nat.le_of_ble_eq_true rfl), (Nat.le_of_ble_eq_true rfl)⟩) ?_
  refine lv_istore (lv' := [(5, .int (v_X3_time l1)), (0, .ref (zg S 2 fl k)), (1, .long l1), (3, .long l2)]) hx hb dX8_meets_4 hl (by decide) rfl (fun ls hl => ?_)
  refine lv_lload_n hx hb dX8_meets_6 rfl (lv_at hl 3 rfl) ?_
  refine zr_i (va_runS (As := [.long l2]) (rest := []) ⟨hx, hb, hml, hown, hts⟩ (k_X3_time l l2) (va_cwS 1 hts (lw_S wq395 wq396 wq25 wq397) rfl rfl rfl (by decide +kernel) ⟨(Nat.le_of_ble_eq_true rfl), (Nat.le_of_ble_eq_true rfl)⟩) tp_N rfl rfl hl.1 rfl (lv_room (Nat.le_of_ble_eq_true rfl)) dX8_meets_7 ⟨(Nat.le_of_ble_eq_true rfl), (Nat.le_of_ble_eq_true rfl)⟩) ?_
  refine lv_istore (lv' := [(6, .int (v_X3_time l2)), (5, .int (v_X3_time l1)), (0, .ref (zg S 2 fl k)), (1, .long l1), (3, .long l2)]) hx hb dX8_meets_10 hl (by decide) rfl (fun ls hl => ?_)
  refine lv_lload_n hx hb dX8_meets_12 rfl (lv_at hl 3 rfl) ?_
  refine zr_i (va_runS (As := [.long l1]) (rest := []) ⟨hx, hb, hml, hown, hts⟩ (k_X3_key l l1) (va_cwS 1 hts (lw_S wq487 wq488 wq25 wq489) rfl rfl rfl (by decide +kernel) ⟨(Nat.le_of_ble_eq_true rfl), (Nat.le_of_ble_eq_true rfl)⟩) tp_N rfl rfl hl.1 rfl (lv_room (Nat.le_of_ble_eq_true rfl)) dX8_meets_13 ⟨(Nat.le_of_ble_eq_true rfl), (Nat.le_of_ble_eq_true rfl)⟩) ?_
  refine lv_lload_n hx hb dX8_meets_16 rfl (lv_at hl 4 rfl) ?_
  refine zr_i (va_runS (As := [.long l2]) (rest := [.int (v_X3_key l1)]) ⟨hx, hb, hml, hown, hts⟩ (k_X3_key l l2) (va_cwS 1 hts (lw_S wq487 wq488 wq25 wq489) rfl rfl rfl (by decide +kernel) ⟨(Nat.le_of_ble_eq_true rfl), (Nat.le_of_ble_eq_true rfl)⟩) tp_N rfl rfl hl.1 rfl (lv_room (Nat.le_of_ble_eq_true rfl)) dX8_meets_17 ⟨(Nat.le_of_ble_eq_true rfl), (Nat.le_of_ble_eq_true rfl)⟩) ?_
  refine lv_icmp_ne (tgt := 57) hx hb dX8_meets_20 (by decide) (fun hb1 => ?_) (fun hb1 => ?_)
  · refine lv_iconst (v := 0) hx hb dX8_meets_57 (by decide) ?_
    exact ze_i hx hb hr hlk rfl (by unfold v_X8_meets; rw [if_neg hb1]) dX8_meets_58
  · refine lv_iload hx hb dX8_meets_23 (lv_at hl 1 rfl) ?_
    refine lv_aload_n hx hb dX8_meets_25 rfl (lv_at hl 2 rfl) ?_
    refine t_get (D := D) (ci := 7) (v := .ref (zg S 8 0 k)) (C := RX8) (T := TX8) (N := 12) hx hb hts iX8 hown hK hW 2 fl k (dm2 (by omega) (by omega)) rfl rfl 0 (by decide) (hts _ wq1103) (fun _ h9 => h9) rfl dX8_meets_26 ?_
    refine t_getN (D := D) (ci := 4) (v := .int (F 8 0 k 10)) (C := RX5) (T := TX5) (N := 15) hx hb hts iX5 hown hK hW 8 0 k (dm8 (by omega)) rfl rfl 10 (by decide) (zk_tab rfl (hN _ wr855 rfl)) (fun _ h9 => h9) rfl dX8_meets_29 ?_
    refine lv_isub hx hb dX8_meets_32 ?_
    refine lv_iload hx hb dX8_meets_33 (lv_at hl 0 rfl) ?_
    refine lv_icmp_gt (tgt := 57) hx hb dX8_meets_35 (by decide) (fun hb2 => ?_) (fun hb2 => ?_)
    · refine lv_iconst (v := 0) hx hb dX8_meets_57 (by decide) ?_
      exact ze_i hx hb hr hlk rfl (by unfold v_X8_meets; rw [if_pos hb1, if_pos hb2]) dX8_meets_58
    · refine lv_iload hx hb dX8_meets_38 (lv_at hl 0 rfl) ?_
      refine lv_iload hx hb dX8_meets_40 (lv_at hl 1 rfl) ?_
      refine lv_aload_n hx hb dX8_meets_42 rfl (lv_at hl 2 rfl) ?_
      refine t_get (D := D) (ci := 7) (v := .ref (zg S 8 0 k)) (C := RX8) (T := TX8) (N := 12) hx hb hts iX8 hown hK hW 2 fl k (dm2 (by omega) (by omega)) rfl rfl 0 (by decide) (hts _ wq1103) (fun _ h9 => h9) rfl dX8_meets_43 ?_
      refine t_getN (D := D) (ci := 4) (v := .int (F 8 0 k 11)) (C := RX5) (T := TX5) (N := 15) hx hb hts iX5 hown hK hW 8 0 k (dm8 (by omega)) rfl rfl 11 (by decide) (zk_tab rfl (hN _ wr857 rfl)) (fun _ h9 => h9) rfl dX8_meets_46 ?_
      refine lv_iadd hx hb dX8_meets_49 ?_
      refine lv_icmp_gt (tgt := 57) hx hb dX8_meets_50 (by decide) (fun hb3 => ?_) (fun hb3 => ?_)
      · refine lv_iconst (v := 0) hx hb dX8_meets_57 (by decide) ?_
        exact ze_i hx hb hr hlk rfl (by unfold v_X8_meets; rw [if_pos hb1, if_neg hb2, if_pos hb3]) dX8_meets_58
      · refine lv_iconst (v := 1) hx hb dX8_meets_53 (by decide) ?_
        refine lv_goto (tgt := 58) hx hb dX8_meets_54 (by decide) ?_
        exact ze_i hx hb hr hlk rfl (by unfold v_X8_meets; rw [if_pos hb1, if_neg hb2, if_neg hb3]) dX8_meets_58
def v_X8_joined (S : TS) (F : TF) (G : TG) (q : TQ) (fl : Nat) (k : Nat) (i1 : Int32) (i2 : Int32) : Int32 := if (F 8 0 k 4) = 0 then i1 + i2 else if (F 8 0 k 4) = 1 then i1 - i2 else if (F 8 0 k 4) = 2 then i1 * i2 else i1
set_option maxHeartbeats 4000000 in
set_option maxRecDepth 100000 in
theorem k_X8_joined (l : Launch) (D : va_G) (yc : Nat → ClassId) (e0 : Nat) (A : Nat → Prop) (S : TS) (Z : Nat × Nat) (F : TF) (G : TG) (q : TQ) (fl : Nat) (k : Nat) (i1 : Int32) (i2 : Int32) (hf : fl < 2) (hk : k < zn S) : Met l yX8_joined (ws_ yX8_joined cX8_joined 3 (some .int)) ({ frames := 0, cells := 0, slots := 0, locals := 0 }) (PT D yc e0 A S Z F G q [.ref (zg S 2 fl k), .int i1, .int i2]) (zQ (some (.int (v_X8_joined S F G q fl k i1 i2)))) 0 0 zno := by
  refine tk_M (by decide) (Nat.le_of_ble_eq_true rfl) ?_
  intro p e s m args below meth c ls hx hb hml hr hlk hown hts hW hS hA hC hl
  have hK := hC.1
  have hN := hC.2.1
  have hn12 := hW.n12
  have hl : lv_has ls 3 [(0, .ref (zg S 2 fl k)), (1, .int i1), (2, .int i2)] := hl
  refine lv_aload_n hx hb dX8_joined_0 rfl (lv_at hl 0 rfl) ?_
  refine t_get (D := D) (ci := 7) (v := .ref (zg S 8 0 k)) (C := RX8) (T := TX8) (N := 12) hx hb hts iX8 hown hK hW 2 fl k (dm2 (by omega) (by omega)) rfl rfl 0 (by decide) (hts _ wq1103) (fun _ h9 => h9) rfl dX8_joined_1 ?_
  refine t_getN (D := D) (ci := 4) (v := .int (F 8 0 k 4)) (C := RX5) (T := TX5) (N := 15) hx hb hts iX5 hown hK hW 8 0 k (dm8 (by omega)) rfl rfl 4 (by decide) (zk_tab rfl (hN _ wr843 rfl)) (fun _ h9 => h9) rfl dX8_joined_4 ?_
  by_cases hs1 : (F 8 0 k 4) = 0
  · refine zk_ti (y := 0) hs1 ?_
    refine lv_tableIn (off := 25) (tgt := 32) hx hb dX8_joined_7 (by decide) (by decide) (by decide) (by decide) ?_
    refine lv_iload_n hx hb dX8_joined_32 rfl (lv_at hl 1 rfl) ?_
    refine lv_iload_n hx hb dX8_joined_33 rfl (lv_at hl 2 rfl) ?_
    refine lv_iadd hx hb dX8_joined_34 ?_
    exact ze_i hx hb hr hlk rfl (by unfold v_X8_joined; rw [if_pos hs1]) dX8_joined_35
  · by_cases hs2 : (F 8 0 k 4) = 1
    · refine zk_ti (y := 1) hs2 ?_
      refine lv_tableIn (off := 29) (tgt := 36) hx hb dX8_joined_7 (by decide) (by decide) (by decide) (by decide) ?_
      refine lv_iload_n hx hb dX8_joined_36 rfl (lv_at hl 1 rfl) ?_
      refine lv_iload_n hx hb dX8_joined_37 rfl (lv_at hl 2 rfl) ?_
      refine lv_isub hx hb dX8_joined_38 ?_
      exact ze_i hx hb hr hlk rfl (by unfold v_X8_joined; rw [if_neg hs1, if_pos hs2]) dX8_joined_39
    · by_cases hs3 : (F 8 0 k 4) = 2
      · refine zk_ti (y := 2) hs3 ?_
        refine lv_tableIn (off := 33) (tgt := 40) hx hb dX8_joined_7 (by decide) (by decide) (by decide) (by decide) ?_
        refine lv_iload_n hx hb dX8_joined_40 rfl (lv_at hl 1 rfl) ?_
        refine lv_iload_n hx hb dX8_joined_41 rfl (lv_at hl 2 rfl) ?_
        refine lv_imul hx hb dX8_joined_42 ?_
        exact ze_i hx hb hr hlk rfl (by unfold v_X8_joined; rw [if_neg hs1, if_neg hs2, if_pos hs3]) dX8_joined_43
      · refine lv_tableOut (tgt := 44) hx hb dX8_joined_7 (by have a0 := zk_nt hs1; have e0 : (0 : Int32).toInt = 0 := (by decide); rw [e0] at a0; have a1 := zk_nt hs2; have e1 : (1 : Int32).toInt = 1 := (by decide); rw [e1] at a1; have a2 := zk_nt hs3; have e2 : (2 : Int32).toInt = 2 := (by decide); rw [e2] at a2; omega) (by decide) ?_
        refine lv_iload_n hx hb dX8_joined_44 rfl (lv_at hl 1 rfl) ?_
        exact ze_i hx hb hr hlk rfl (by unfold v_X8_joined; rw [if_neg hs1, if_neg hs2, if_neg hs3]) dX8_joined_45
def v_X2_size (S : TS) (F : TF) (G : TG) (q : TQ) (fl : Nat) : Int32 := nI (zn S)
set_option maxHeartbeats 4000000 in
set_option maxRecDepth 100000 in
theorem k_X2_size (l : Launch) (D : va_G) (yc : Nat → ClassId) (e0 : Nat) (A : Nat → Prop) (S : TS) (Z : Nat × Nat) (F : TF) (G : TG) (q : TQ) (fl : Nat) (hf : fl < 2) : Met l yX2_size (ws_ yX2_size cX2_size 1 (some .int)) ({ frames := 1, cells := 0, slots := 0, locals := 20 }) (PT D yc e0 A S Z F G q [.ref (zg S 6 fl 0)]) (zQ (some (.int (v_X2_size S F G q fl)))) 0 0 zno := by
  refine tk_M (by decide) (Nat.le_of_ble_eq_true rfl) ?_
  intro p e s m args below meth c ls hx hb hml hr hlk hown hts hW hS hA hC hl
  have hK := hC.1
  have hN := hC.2.1
  have hn12 := hW.n12
  have hl : lv_has ls 1 [(0, .ref (zg S 6 fl 0))] := hl
  refine lv_aload_n hx hb dX2_size_0 rfl (lv_at hl 0 rfl) ?_
  refine t_get (D := D) (ci := 2) (v := .ref (zl S 0 fl 0)) (C := RX2) (T := TX2) (N := 8) hx hb hts iX2 hown hK hW 6 fl 0 (dm6 (by omega)) rfl rfl 1 (by decide) (hts _ wq68) (fun _ h9 => h9) rfl dX2_size_1 ?_
  refine zr_i (va_runV (As := []) (rest := []) ⟨hx, hb, hml, hown, hts⟩ (k_AL_size l D yc e0 A S Z F G q 0 fl 0 (dl0 (by omega))) (cwV 0 hts (lw_V wq119 wq120 wq121 wq5 wq122) rfl rfl rfl (by decide +kernel) ⟨(Nat.le_of_ble_eq_true rfl), (Nat.le_of_ble_eq_true rfl)⟩) (tp_L hC hW hS hA 0 fl 0 (dl0 (by omega))) rfl rfl hl.1 rfl (lv_room (Nat.le_of_ble_eq_true rfl)) dX2_size_4 ⟨(Nat.le_of_ble_eq_true rfl), (Nat.le_of_ble_eq_true rfl)⟩) ?_
  refine zk_ti (y := nI (zn S)) rfl ?_
  exact ze_i hx hb hr hlk rfl (by rfl) dX2_size_7
def v_X2_at0 (S : TS) (F : TF) (G : TG) (q : TQ) (fl : Nat) (i1 : Int32) : Value := .null
set_option maxHeartbeats 4000000 in
set_option maxRecDepth 100000 in
theorem k_X2_at0 (l : Launch) (D : va_G) (yc : Nat → ClassId) (e0 : Nat) (A : Nat → Prop) (S : TS) (Z : Nat × Nat) (F : TF) (G : TG) (q : TQ) (fl : Nat) (i1 : Int32) (hf : fl < 2) (h0 : i1 < 0) : Met l yX2_at (ws_ yX2_at cX2_at 2 (some (.object "WeirStream$Stage"))) ({ frames := 0, cells := 0, slots := 0, locals := 0 }) (PT D yc e0 A S Z F G q [.ref (zg S 6 fl 0), .int i1]) (zQ (some ((v_X2_at0 S F G q fl i1)))) 0 0 zno := by
  refine tk_M (by decide) (Nat.le_of_ble_eq_true rfl) ?_
  intro p e s m args below meth c ls hx hb hml hr hlk hown hts hW hS hA hC hl
  have hK := hC.1
  have hN := hC.2.1
  have hn12 := hW.n12
  have hl : lv_has ls 2 [(0, .ref (zg S 6 fl 0)), (1, .int i1)] := hl
  refine lv_iload_n hx hb dX2_at_0 rfl (lv_at hl 1 rfl) ?_
  refine lv_if_lt (tgt := 29) hx hb dX2_at_1 (by decide) (fun _ => ?_) (fun h9 => absurd h0 h9)
  refine lv_null hx hb dX2_at_29 ?_
  exact ze_q hx hb hr (by first | exact Or.inl ⟨_, rfl⟩ | exact Or.inr ⟨_, rfl⟩) hlk (by first | exact Or.inl rfl | exact Or.inr ⟨_, rfl⟩ | exact zch_or _ _ _ _) (by rfl) dX2_at_30
def v_X2_at (S : TS) (F : TF) (G : TG) (q : TQ) (fl : Nat) (i : Nat) : Value := (.ref (zg S 2 fl i))
set_option maxHeartbeats 4000000 in
set_option maxRecDepth 100000 in
theorem k_X2_at (l : Launch) (D : va_G) (yc : Nat → ClassId) (e0 : Nat) (A : Nat → Prop) (S : TS) (Z : Nat × Nat) (F : TF) (G : TG) (q : TQ) (fl : Nat) (i : Nat) (hf : fl < 2) (hi : i < zn S) : Met l yX2_at (ws_ yX2_at cX2_at 2 (some (.object "WeirStream$Stage"))) ({ frames := 3, cells := 0, slots := 0, locals := 64 }) (PT D yc e0 A S Z F G q [.ref (zg S 6 fl 0), .int (nI i)]) (zQ (some ((v_X2_at S F G q fl i)))) 0 0 zno := by
  refine tk_M (by decide) (Nat.le_of_ble_eq_true rfl) ?_
  intro p e s m args below meth c ls hx hb hml hr hlk hown hts hW hS hA hC hl
  have hK := hC.1
  have hN := hC.2.1
  have hn12 := hW.n12
  have hl : lv_has ls 2 [(0, .ref (zg S 6 fl 0)), (1, .int (nI i))] := hl
  refine lv_iload_n hx hb dX2_at_0 rfl (lv_at hl 1 rfl) ?_
  refine lv_if_lt (tgt := 29) hx hb dX2_at_1 (by decide) (fun h9 => absurd h9 (nI_pos (by omega))) (fun _ => ?_)
  refine lv_iload_n hx hb dX2_at_4 rfl (lv_at hl 1 rfl) ?_
  refine lv_aload_n hx hb dX2_at_5 rfl (lv_at hl 0 rfl) ?_
  refine t_get (D := D) (ci := 2) (v := .ref (zl S 0 fl 0)) (C := RX2) (T := TX2) (N := 8) hx hb hts iX2 hown hK hW 6 fl 0 (dm6 (by omega)) rfl rfl 1 (by decide) (hts _ wq68) (fun _ h9 => h9) rfl dX2_at_6 ?_
  refine zr_i (va_runV (As := []) (rest := [.int (nI i)]) ⟨hx, hb, hml, hown, hts⟩ (k_AL_size l D yc e0 A S Z F G q 0 fl 0 (dl0 (by omega))) (cwV 0 hts (lw_V wq119 wq120 wq121 wq5 wq122) rfl rfl rfl (by decide +kernel) ⟨(Nat.le_of_ble_eq_true rfl), (Nat.le_of_ble_eq_true rfl)⟩) (tp_L hC hW hS hA 0 fl 0 (dl0 (by omega))) rfl rfl hl.1 rfl (lv_room (Nat.le_of_ble_eq_true rfl)) dX2_at_9 ⟨(Nat.le_of_ble_eq_true rfl), (Nat.le_of_ble_eq_true rfl)⟩) ?_
  refine zk_ti (y := nI (zn S)) rfl ?_
  refine lv_icmp_ge (tgt := 29) hx hb dX2_at_12 (by decide) (fun h9 => absurd h9 (nI_ge (by omega) (by omega))) (fun _ => ?_)
  refine lv_aload_n hx hb dX2_at_15 rfl (lv_at hl 0 rfl) ?_
  refine t_get (D := D) (ci := 2) (v := .ref (zl S 0 fl 0)) (C := RX2) (T := TX2) (N := 8) hx hb hts iX2 hown hK hW 6 fl 0 (dm6 (by omega)) rfl rfl 1 (by decide) (hts _ wq68) (fun _ h9 => h9) rfl dX2_at_16 ?_
  refine lv_iload_n hx hb dX2_at_19 rfl (lv_at hl 1 rfl) ?_
  refine zr_q (va_runV (As := [.int (nI i)]) (rest := []) ⟨hx, hb, hml, hown, hts⟩ (k_AL_get l D yc e0 A S Z F G q 0 fl 0 i (dl0 (by omega)) (show i < zn S by omega)) (cwV 1 hts (lw_V wq227 wq228 wq229 wq5 wq230) rfl rfl rfl (by decide +kernel) ⟨(Nat.le_of_ble_eq_true rfl), (Nat.le_of_ble_eq_true rfl)⟩) (tp_L hC hW hS hA 0 fl 0 (dl0 (by omega))) rfl rfl hl.1 rfl (lv_room (Nat.le_of_ble_eq_true rfl)) dX2_at_20 ⟨(Nat.le_of_ble_eq_true rfl), (Nat.le_of_ble_eq_true rfl)⟩) ?_
  refine zk_tv (y := .ref (zg S 2 fl i)) rfl ?_
  refine va_castS hx hb hown (hts _ wq241) (hK.1 7 _ rfl).2 (t_cell hK hW 2 fl i (dm2 (by omega) (by omega)) rfl rfl) dX2_at_23 ?_
  refine lv_goto (tgt := 30) hx hb dX2_at_26 (by decide) ?_
  exact ze_q hx hb hr (by first | exact Or.inl ⟨_, rfl⟩ | exact Or.inr ⟨_, rfl⟩) hlk (by first | exact Or.inl rfl | exact Or.inr ⟨_, rfl⟩ | exact zch_or _ _ _ _) (by rfl) dX2_at_30
def r_X2_channels (S : TS) (F : TF) (G : TG) (q : TQ) (fl : Nat) : Nat → Nat → Int32 → Int32
  | 0, _, v => v
  | n + 1, i, v => r_X2_channels S F G q fl n (i + 1) (v + (nI (och S i).length))
set_option maxHeartbeats 4000000 in
set_option maxRecDepth 100000 in
theorem lp_X2_channels {p : Program} {l : Launch} {e : Env} {s : State} {m : MethodId} {args : Array Value} {below : List Frame} {meth : Method} {c : Code} {D : va_G} {yc : Nat → ClassId} {e0 : Nat} {A : Nat → Prop} {S : TS} {Z : Nat × Nat} {F : TF} {G : TG} {q : TQ} (fl : Nat) (hf : fl < 2) (hx : p.tables.exec = Jvm.exec) (hb : c.code = cX2_channels) (hml : c.maxLocals = 3) (hr : meth.sig.returnType = (some .int)) (hlk : meth.locks = false) (hown : s.vm.findClass yX2_channels.cls = some m.cls) (hts : ∀ w ∈ lw_all, w.before args s = true) (hW : WT D yc e0 A S Z F G q s.heap) (hS : va_S A s.heap s.heap []) (hA : ∀ a, s.heap.size ≤ a → A a) (hC : CX D yc e0 A s) : ∀ (n : Nat) (i : Nat) (v : Int32) (ls : Array Slot), i + n = zn S → lv_has ls 3 [(2, .int (nI i)), (1, .int v), (0, .ref (zg S 6 fl 0))] → W p l e ({ frames := 3, cells := 0, slots := 0, locals := 64 }) s m args below meth c s.heap [] 0 0 (MQ below (zQ (some (.int (r_X2_channels S F G q fl n i v)))) args s 0 0 zno) (F0 m 4 ls []) := by
  have hK := hC.1
  have hN := hC.2.1
  have hn12 := hW.n12
  intro n
  induction n with
  | zero =>
    intro i v ls hinv hl
    refine lv_iload_n hx hb dX2_channels_4 rfl (lv_at hl 0 rfl) ?_
    refine lv_aload_n hx hb dX2_channels_5 rfl (lv_at hl 2 rfl) ?_
    refine t_get (D := D) (ci := 2) (v := .ref (zl S 0 fl 0)) (C := RX2) (T := TX2) (N := 8) hx hb hts iX2 hown hK hW 6 fl 0 (dm6 (by omega)) rfl rfl 1 (by decide) (hts _ wq68) (fun _ h9 => h9) rfl dX2_channels_6 ?_
    refine zr_i (va_runV (As := []) (rest := [.int (nI i)]) ⟨hx, hb, hml, hown, hts⟩ (k_AL_size l D yc e0 A S Z F G q 0 fl 0 (dl0 (by omega))) (cwV 0 hts (lw_V wq119 wq120 wq121 wq5 wq122) rfl rfl rfl (by decide +kernel) ⟨(Nat.le_of_ble_eq_true rfl), (Nat.le_of_ble_eq_true rfl)⟩) (tp_L hC hW hS hA 0 fl 0 (dl0 (by omega))) rfl rfl hl.1 rfl (lv_room (Nat.le_of_ble_eq_true rfl)) dX2_channels_9 ⟨(Nat.le_of_ble_eq_true rfl), (Nat.le_of_ble_eq_true rfl)⟩) ?_
    refine zk_ti (y := nI (zn S)) rfl ?_
    refine lv_icmp_ge (tgt := 44) hx hb dX2_channels_12 (by decide) (fun _ => ?_) (fun h9 => absurd (nI_le (by omega) (by omega)) h9)
    refine lv_iload_n hx hb dX2_channels_44 rfl (lv_at hl 1 rfl) ?_
    exact ze_i hx hb hr hlk rfl (by rfl) dX2_channels_45
  | succ n ih =>
    intro i v ls hinv hl
    refine lv_iload_n hx hb dX2_channels_4 rfl (lv_at hl 0 rfl) ?_
    refine lv_aload_n hx hb dX2_channels_5 rfl (lv_at hl 2 rfl) ?_
    refine t_get (D := D) (ci := 2) (v := .ref (zl S 0 fl 0)) (C := RX2) (T := TX2) (N := 8) hx hb hts iX2 hown hK hW 6 fl 0 (dm6 (by omega)) rfl rfl 1 (by decide) (hts _ wq68) (fun _ h9 => h9) rfl dX2_channels_6 ?_
    refine zr_i (va_runV (As := []) (rest := [.int (nI i)]) ⟨hx, hb, hml, hown, hts⟩ (k_AL_size l D yc e0 A S Z F G q 0 fl 0 (dl0 (by omega))) (cwV 0 hts (lw_V wq119 wq120 wq121 wq5 wq122) rfl rfl rfl (by decide +kernel) ⟨(Nat.le_of_ble_eq_true rfl), (Nat.le_of_ble_eq_true rfl)⟩) (tp_L hC hW hS hA 0 fl 0 (dl0 (by omega))) rfl rfl hl.1 rfl (lv_room (Nat.le_of_ble_eq_true rfl)) dX2_channels_9 ⟨(Nat.le_of_ble_eq_true rfl), (Nat.le_of_ble_eq_true rfl)⟩) ?_
    refine zk_ti (y := nI (zn S)) rfl ?_
    refine lv_icmp_ge (tgt := 44) hx hb dX2_channels_12 (by decide) (fun h9 => absurd h9 (nI_ge (by omega) (by omega))) (fun _ => ?_)
    refine lv_iload_n hx hb dX2_channels_15 rfl (lv_at hl 1 rfl) ?_
    refine lv_aload_n hx hb dX2_channels_16 rfl (lv_at hl 2 rfl) ?_
    refine t_get (D := D) (ci := 2) (v := .ref (zl S 0 fl 0)) (C := RX2) (T := TX2) (N := 8) hx hb hts iX2 hown hK hW 6 fl 0 (dm6 (by omega)) rfl rfl 1 (by decide) (hts _ wq68) (fun _ h9 => h9) rfl dX2_channels_17 ?_
    refine lv_iload_n hx hb dX2_channels_20 rfl (lv_at hl 0 rfl) ?_
    refine zr_q (va_runV (As := [.int (nI i)]) (rest := [.int v]) ⟨hx, hb, hml, hown, hts⟩ (k_AL_get l D yc e0 A S Z F G q 0 fl 0 i (dl0 (by omega)) (show i < zn S by omega)) (cwV 1 hts (lw_V wq227 wq228 wq229 wq5 wq230) rfl rfl rfl (by decide +kernel) ⟨(Nat.le_of_ble_eq_true rfl), (Nat.le_of_ble_eq_true rfl)⟩) (tp_L hC hW hS hA 0 fl 0 (dl0 (by omega))) rfl rfl hl.1 rfl (lv_room (Nat.le_of_ble_eq_true rfl)) dX2_channels_21 ⟨(Nat.le_of_ble_eq_true rfl), (Nat.le_of_ble_eq_true rfl)⟩) ?_
    refine zk_tv (y := .ref (zg S 2 fl i)) rfl ?_
    refine va_castS hx hb hown (hts _ wq241) (hK.1 7 _ rfl).2 (t_cell hK hW 2 fl i (dm2 (by omega) (by omega)) rfl rfl) dX2_channels_24 ?_
    refine t_getN (D := D) (ci := 7) (v := .ref (zg S 3 fl i)) (C := RX8) (T := TX8) (N := 12) hx hb hts iX8 hown hK hW 2 fl i (dm2 (by omega) (by omega)) rfl rfl 5 (by decide) (zk_tab rfl (hN _ wr1114 rfl)) (fun _ h9 => h9) rfl dX2_channels_27 ?_
    refine t_getN (D := D) (ci := 3) (v := .ref (zl S 1 fl i)) (C := RX4) (T := TX4) (N := 2) hx hb hts iX4 hown hK hW 3 fl i (dm3 (by omega) (by omega)) rfl rfl 1 (by decide) (zk_tab rfl (hN _ wr1020 rfl)) (fun _ h9 => h9) rfl dX2_channels_30 ?_
    refine zr_i (va_runV (As := []) (rest := [.int v]) ⟨hx, hb, hml, hown, hts⟩ (k_AL_size l D yc e0 A S Z F G q 1 fl i (dl1 (by omega) (by omega))) (cwV 0 hts (lw_V wq119 wq120 wq121 wq5 wq122) rfl rfl rfl (by decide +kernel) ⟨(Nat.le_of_ble_eq_true rfl), (Nat.le_of_ble_eq_true rfl)⟩) (tp_L hC hW hS hA 1 fl i (dl1 (by omega) (by omega))) rfl rfl hl.1 rfl (lv_room (Nat.le_of_ble_eq_true rfl)) dX2_channels_33 ⟨(Nat.le_of_ble_eq_true rfl), (Nat.le_of_ble_eq_true rfl)⟩) ?_
    refine zk_ti (y := nI (och S i).length) rfl ?_
    refine lv_iadd hx hb dX2_channels_36 ?_
    refine lv_istore_n (lv' := [(1, .int (v + (nI (och S i).length))), (2, .int (nI i)), (0, .ref (zg S 6 fl 0))]) hx hb dX2_channels_37 rfl hl (by decide) rfl (fun ls hl => ?_)
    refine lv_iinc (v := nI (i + 1)) (lv' := [(2, .int (nI (i + 1))), (1, .int (v + (nI (och S i).length))), (0, .ref (zg S 6 fl 0))]) hx hb dX2_channels_38 hl (k := 1) rfl (nI_1 _) (by decide) rfl (fun ls hl => ?_)
    refine lv_goto (tgt := 4) hx hb dX2_channels_41 (by decide) ?_
    exact ih (i + 1) (v + (nI (och S i).length)) _ (by omega) (lv_sub hl [0, 1, 2] rfl)
def v_X2_channels (S : TS) (F : TF) (G : TG) (q : TQ) (fl : Nat) : Int32 := r_X2_channels S F G q fl (zn S) 0 0
set_option maxHeartbeats 4000000 in
set_option maxRecDepth 100000 in
theorem k_X2_channels (l : Launch) (D : va_G) (yc : Nat → ClassId) (e0 : Nat) (A : Nat → Prop) (S : TS) (Z : Nat × Nat) (F : TF) (G : TG) (q : TQ) (fl : Nat) (hf : fl < 2) : Met l yX2_channels (ws_ yX2_channels cX2_channels 3 (some .int)) ({ frames := 3, cells := 0, slots := 0, locals := 64 }) (PT D yc e0 A S Z F G q [.ref (zg S 6 fl 0)]) (zQ (some (.int (v_X2_channels S F G q fl)))) 0 0 zno := by
  refine tk_M (by decide) (Nat.le_of_ble_eq_true rfl) ?_
  intro p e s m args below meth c ls hx hb hml hr hlk hown hts hW hS hA hC hl
  have hK := hC.1
  have hN := hC.2.1
  have hn12 := hW.n12
  have hl : lv_has ls 3 [(0, .ref (zg S 6 fl 0))] := hl
  refine lv_iconst (v := 0) hx hb dX2_channels_0 (by decide) ?_
  refine lv_istore_n (lv' := [(1, .int 0), (0, .ref (zg S 6 fl 0))]) hx hb dX2_channels_1 rfl hl (by decide) rfl (fun ls hl => ?_)
  refine lv_iconst (v := 0) hx hb dX2_channels_2 (by decide) ?_
  refine lv_istore_n (lv' := [(2, .int 0), (1, .int 0), (0, .ref (zg S 6 fl 0))]) hx hb dX2_channels_3 rfl hl (by decide) rfl (fun ls hl => ?_)
  exact lp_X2_channels fl hf hx hb hml hr hlk hown hts hW hS hA hC (zn S) 0 0 _ (by omega) (lv_sub hl [0, 1, 2] rfl)
end
section
theorem wq1 : (Jvm.Cond.initialized "WeirStream") ∈ lw_all := lw_in (lw_tb (List.mem_of_getElem? (i := 1) (by decide +kernel))) rfl
theorem wq2 : (Jvm.Cond.initialized "WeirStream$Flow") ∈ lw_all := lw_in (lw_tb (List.mem_of_getElem? (i := 2) (by decide +kernel))) rfl
theorem wq22 : (Jvm.Cond.initialized "WeirStream$State") ∈ lw_all := lw_in (lw_tb (List.mem_of_getElem? (i := 22) (by decide +kernel))) rfl
theorem wq69 : (Jvm.Cond.fieldLink "WeirStream$Flow" (18 : Nat) "WeirStream$Flow" "capacity" "I") ∈ lw_all := lw_in (lw_tb (List.mem_of_getElem? (i := 69) (by decide +kernel))) rfl
theorem wq71 : (Jvm.Cond.fieldLink "WeirStream$Flow" (22 : Nat) "WeirStream$Flow" "lastWorked" "I") ∈ lw_all := lw_in (lw_tb (List.mem_of_getElem? (i := 71) (by decide +kernel))) rfl
theorem wq95 : (Jvm.Cond.fieldLink "WeirStream" (12 : Nat) "WeirStream" "live" "LWeirStream$Flow;") ∈ lw_all := lw_in (lw_tb (List.mem_of_getElem? (i := 95) (by decide +kernel))) rfl
theorem wq97 : (Jvm.Cond.fieldLink "WeirStream" (84 : Nat) "WeirStream" "hasStarted" "Z") ∈ lw_all := lw_in (lw_tb (List.mem_of_getElem? (i := 97) (by decide +kernel))) rfl
theorem wq98 : (Jvm.Cond.fieldLink "WeirStream" (151 : Nat) "WeirStream" "crashCount" "I") ∈ lw_all := lw_in (lw_tb (List.mem_of_getElem? (i := 98) (by decide +kernel))) rfl
theorem wq99 : (Jvm.Cond.fieldLink "WeirStream" (139 : Nat) "WeirStream" "workedCount" "I") ∈ lw_all := lw_in (lw_tb (List.mem_of_getElem? (i := 99) (by decide +kernel))) rfl
theorem wq100 : (Jvm.Cond.laysFinal "WeirStream" "WeirStream" "live" "LWeirStream$Flow;") ∈ lw_all := lw_in (lw_tb (List.mem_of_getElem? (i := 100) (by decide +kernel))) rfl
theorem wq102 : (Jvm.Cond.laysFinal "WeirStream" "WeirStream" "trial" "LWeirStream$Flow;") ∈ lw_all := lw_in (lw_tb (List.mem_of_getElem? (i := 102) (by decide +kernel))) rfl
theorem wq104 : (Jvm.Cond.lays "WeirStream" "WeirStream" "hasStarted" "Z") ∈ lw_all := lw_in (lw_tb (List.mem_of_getElem? (i := 104) (by decide +kernel))) rfl
theorem wq106 : (Jvm.Cond.lays "WeirStream" "WeirStream" "crashCount" "I") ∈ lw_all := lw_in (lw_tb (List.mem_of_getElem? (i := 106) (by decide +kernel))) rfl
theorem wq108 : (Jvm.Cond.lays "WeirStream" "WeirStream" "workedCount" "I") ∈ lw_all := lw_in (lw_tb (List.mem_of_getElem? (i := 108) (by decide +kernel))) rfl
theorem wq115 : (Jvm.Cond.methodLink "WeirStream" (88 : Nat) ({ cls := "WeirStream$Flow", name := "size", desc := "()I" } : Jvm.MethodName)) ∈ lw_all := lw_in (lw_tb (List.mem_of_getElem? (i := 115) (by decide +kernel))) rfl
theorem wq116 : (Jvm.Cond.instanceMethod ({ cls := "WeirStream$Flow", name := "size", desc := "()I" } : Jvm.MethodName)) ∈ lw_all := lw_in (lw_tb (List.mem_of_getElem? (i := 116) (by decide +kernel))) rfl
theorem wq117 : (Jvm.Cond.selects "WeirStream$Flow" ({ cls := "WeirStream$Flow", name := "size", desc := "()I" } : Jvm.MethodName) ({ cls := "WeirStream$Flow", name := "size", desc := "()I" } : Jvm.MethodName)) ∈ lw_all := lw_in (lw_tb (List.mem_of_getElem? (i := 117) (by decide +kernel))) rfl
theorem wq118 : (Jvm.Cond.code ({ cls := "WeirStream$Flow", name := "size", desc := "()I" } : Jvm.MethodName) prog_4_method_2_code (1 : Nat) (Option.some Jvm.ClassFile.FieldType.int)) ∈ lw_all := lw_in (lw_tb (List.mem_of_getElem? (i := 118) (by decide +kernel))) rfl
theorem wq193 : (Jvm.Cond.methodLink "WeirStream" (25 : Nat) ({ cls := "WeirStream", name := "refuseUnless", desc := "(Z)V" } : Jvm.MethodName)) ∈ lw_all := lw_in (lw_tb (List.mem_of_getElem? (i := 193) (by decide +kernel))) rfl
theorem wq194 : (Jvm.Cond.static ({ cls := "WeirStream", name := "refuseUnless", desc := "(Z)V" } : Jvm.MethodName)) ∈ lw_all := lw_in (lw_tb (List.mem_of_getElem? (i := 194) (by decide +kernel))) rfl
theorem wq195 : (Jvm.Cond.code ({ cls := "WeirStream", name := "refuseUnless", desc := "(Z)V" } : Jvm.MethodName) prog_1_method_55_code (1 : Nat) (Option.none : Option Jvm.ClassFile.FieldType)) ∈ lw_all := lw_in (lw_tb (List.mem_of_getElem? (i := 195) (by decide +kernel))) rfl
theorem wq215 : (Jvm.Cond.methodLink "WeirStream" (97 : Nat) ({ cls := "WeirStream", name := "sourceOf", desc := "(I)LWeirStream$Stage;" } : Jvm.MethodName)) ∈ lw_all := lw_in (lw_tb (List.mem_of_getElem? (i := 215) (by decide +kernel))) rfl
theorem wq217 : (Jvm.Cond.instanceMethod ({ cls := "WeirStream", name := "sourceOf", desc := "(I)LWeirStream$Stage;" } : Jvm.MethodName)) ∈ lw_all := lw_in (lw_tb (List.mem_of_getElem? (i := 217) (by decide +kernel))) rfl
theorem wq218 : (Jvm.Cond.code ({ cls := "WeirStream", name := "sourceOf", desc := "(I)LWeirStream$Stage;" } : Jvm.MethodName) prog_1_method_60_code (3 : Nat) (Option.some (Jvm.ClassFile.FieldType.object "WeirStream$Stage"))) ∈ lw_all := lw_in (lw_tb (List.mem_of_getElem? (i := 218) (by decide +kernel))) rfl
theorem wq219 : (Jvm.Cond.methodLink "WeirStream" (44 : Nat) ({ cls := "WeirStream", name := "stageOf", desc := "(I)LWeirStream$Stage;" } : Jvm.MethodName)) ∈ lw_all := lw_in (lw_tb (List.mem_of_getElem? (i := 219) (by decide +kernel))) rfl
theorem wq221 : (Jvm.Cond.instanceMethod ({ cls := "WeirStream", name := "stageOf", desc := "(I)LWeirStream$Stage;" } : Jvm.MethodName)) ∈ lw_all := lw_in (lw_tb (List.mem_of_getElem? (i := 221) (by decide +kernel))) rfl
theorem wq222 : (Jvm.Cond.code ({ cls := "WeirStream", name := "stageOf", desc := "(I)LWeirStream$Stage;" } : Jvm.MethodName) prog_1_method_59_code (3 : Nat) (Option.some (Jvm.ClassFile.FieldType.object "WeirStream$Stage"))) ∈ lw_all := lw_in (lw_tb (List.mem_of_getElem? (i := 222) (by decide +kernel))) rfl
theorem wq223 : (Jvm.Cond.methodLink "WeirStream" (270 : Nat) ({ cls := "WeirStream$Flow", name := "at", desc := "(I)LWeirStream$Stage;" } : Jvm.MethodName)) ∈ lw_all := lw_in (lw_tb (List.mem_of_getElem? (i := 223) (by decide +kernel))) rfl
theorem wq224 : (Jvm.Cond.instanceMethod ({ cls := "WeirStream$Flow", name := "at", desc := "(I)LWeirStream$Stage;" } : Jvm.MethodName)) ∈ lw_all := lw_in (lw_tb (List.mem_of_getElem? (i := 224) (by decide +kernel))) rfl
theorem wq225 : (Jvm.Cond.selects "WeirStream$Flow" ({ cls := "WeirStream$Flow", name := "at", desc := "(I)LWeirStream$Stage;" } : Jvm.MethodName) ({ cls := "WeirStream$Flow", name := "at", desc := "(I)LWeirStream$Stage;" } : Jvm.MethodName)) ∈ lw_all := lw_in (lw_tb (List.mem_of_getElem? (i := 225) (by decide +kernel))) rfl
theorem wq226 : (Jvm.Cond.code ({ cls := "WeirStream$Flow", name := "at", desc := "(I)LWeirStream$Stage;" } : Jvm.MethodName) prog_4_method_3_code (2 : Nat) (Option.some (Jvm.ClassFile.FieldType.object "WeirStream$Stage"))) ∈ lw_all := lw_in (lw_tb (List.mem_of_getElem? (i := 226) (by decide +kernel))) rfl
theorem wq261 : (Jvm.Cond.methodLink "WeirStream" (127 : Nat) ({ cls := "WeirStream$Stage", name := "unread", desc := "()I" } : Jvm.MethodName)) ∈ lw_all := lw_in (lw_tb (List.mem_of_getElem? (i := 261) (by decide +kernel))) rfl
theorem wq277 : (Jvm.Cond.methodLink "WeirStream" (133 : Nat) ({ cls := "WeirStream$Flow", name := "nextToWork", desc := "()I" } : Jvm.MethodName)) ∈ lw_all := lw_in (lw_tb (List.mem_of_getElem? (i := 277) (by decide +kernel))) rfl
theorem wq278 : (Jvm.Cond.instanceMethod ({ cls := "WeirStream$Flow", name := "nextToWork", desc := "()I" } : Jvm.MethodName)) ∈ lw_all := lw_in (lw_tb (List.mem_of_getElem? (i := 278) (by decide +kernel))) rfl
theorem wq279 : (Jvm.Cond.selects "WeirStream$Flow" ({ cls := "WeirStream$Flow", name := "nextToWork", desc := "()I" } : Jvm.MethodName) ({ cls := "WeirStream$Flow", name := "nextToWork", desc := "()I" } : Jvm.MethodName)) ∈ lw_all := lw_in (lw_tb (List.mem_of_getElem? (i := 279) (by decide +kernel))) rfl
theorem wq280 : (Jvm.Cond.code ({ cls := "WeirStream$Flow", name := "nextToWork", desc := "()I" } : Jvm.MethodName) prog_4_method_8_code (5 : Nat) (Option.some Jvm.ClassFile.FieldType.int)) ∈ lw_all := lw_in (lw_tb (List.mem_of_getElem? (i := 280) (by decide +kernel))) rfl
theorem wq281 : (Jvm.Cond.methodLink "WeirStream$Flow" (58 : Nat) ({ cls := "WeirStream$Flow", name := "at", desc := "(I)LWeirStream$Stage;" } : Jvm.MethodName)) ∈ lw_all := lw_in (lw_tb (List.mem_of_getElem? (i := 281) (by decide +kernel))) rfl
theorem wq282 : (Jvm.Cond.methodLink "WeirStream$Flow" (85 : Nat) ({ cls := "WeirStream$Stage", name := "canWork", desc := "(I)Z" } : Jvm.MethodName)) ∈ lw_all := lw_in (lw_tb (List.mem_of_getElem? (i := 282) (by decide +kernel))) rfl
theorem wq283 : (Jvm.Cond.instanceMethod ({ cls := "WeirStream$Stage", name := "canWork", desc := "(I)Z" } : Jvm.MethodName)) ∈ lw_all := lw_in (lw_tb (List.mem_of_getElem? (i := 283) (by decide +kernel))) rfl
theorem wq284 : (Jvm.Cond.selects "WeirStream$Stage" ({ cls := "WeirStream$Stage", name := "canWork", desc := "(I)Z" } : Jvm.MethodName) ({ cls := "WeirStream$Stage", name := "canWork", desc := "(I)Z" } : Jvm.MethodName)) ∈ lw_all := lw_in (lw_tb (List.mem_of_getElem? (i := 284) (by decide +kernel))) rfl
theorem wq285 : (Jvm.Cond.code ({ cls := "WeirStream$Stage", name := "canWork", desc := "(I)Z" } : Jvm.MethodName) prog_10_method_4_code (2 : Nat) (Option.some Jvm.ClassFile.FieldType.boolean)) ∈ lw_all := lw_in (lw_tb (List.mem_of_getElem? (i := 285) (by decide +kernel))) rfl
theorem wq409 : (Jvm.Cond.instanceMethod ({ cls := "WeirStream$Spans", name := "firstEndingAbove", desc := "(I)I" } : Jvm.MethodName)) ∈ lw_all := lw_in (lw_tb (List.mem_of_getElem? (i := 409) (by decide +kernel))) rfl
theorem wq410 : (Jvm.Cond.selects "WeirStream$Spans" ({ cls := "WeirStream$Spans", name := "firstEndingAbove", desc := "(I)I" } : Jvm.MethodName) ({ cls := "WeirStream$Spans", name := "firstEndingAbove", desc := "(I)I" } : Jvm.MethodName)) ∈ lw_all := lw_in (lw_tb (List.mem_of_getElem? (i := 410) (by decide +kernel))) rfl
theorem wq411 : (Jvm.Cond.code ({ cls := "WeirStream$Spans", name := "firstEndingAbove", desc := "(I)I" } : Jvm.MethodName) prog_9_method_9_code (2 : Nat) (Option.some Jvm.ClassFile.FieldType.int)) ∈ lw_all := lw_in (lw_tb (List.mem_of_getElem? (i := 411) (by decide +kernel))) rfl
theorem wq441 : (Jvm.Cond.instanceMethod ({ cls := "WeirStream$Spans", name := "endAt", desc := "(I)I" } : Jvm.MethodName)) ∈ lw_all := lw_in (lw_tb (List.mem_of_getElem? (i := 441) (by decide +kernel))) rfl
theorem wq442 : (Jvm.Cond.selects "WeirStream$Spans" ({ cls := "WeirStream$Spans", name := "endAt", desc := "(I)I" } : Jvm.MethodName) ({ cls := "WeirStream$Spans", name := "endAt", desc := "(I)I" } : Jvm.MethodName)) ∈ lw_all := lw_in (lw_tb (List.mem_of_getElem? (i := 442) (by decide +kernel))) rfl
theorem wq443 : (Jvm.Cond.code ({ cls := "WeirStream$Spans", name := "endAt", desc := "(I)I" } : Jvm.MethodName) prog_9_method_4_code (2 : Nat) (Option.some Jvm.ClassFile.FieldType.int)) ∈ lw_all := lw_in (lw_tb (List.mem_of_getElem? (i := 443) (by decide +kernel))) rfl
theorem wq466 : (Jvm.Cond.instanceMethod ({ cls := "WeirStream$Stage", name := "channel", desc := "(Z)LWeirStream$Channel;" } : Jvm.MethodName)) ∈ lw_all := lw_in (lw_tb (List.mem_of_getElem? (i := 466) (by decide +kernel))) rfl
theorem wq467 : (Jvm.Cond.selects "WeirStream$Stage" ({ cls := "WeirStream$Stage", name := "channel", desc := "(Z)LWeirStream$Channel;" } : Jvm.MethodName) ({ cls := "WeirStream$Stage", name := "channel", desc := "(Z)LWeirStream$Channel;" } : Jvm.MethodName)) ∈ lw_all := lw_in (lw_tb (List.mem_of_getElem? (i := 467) (by decide +kernel))) rfl
theorem wq468 : (Jvm.Cond.code ({ cls := "WeirStream$Stage", name := "channel", desc := "(Z)LWeirStream$Channel;" } : Jvm.MethodName) prog_10_method_2_code (2 : Nat) (Option.some (Jvm.ClassFile.FieldType.object "WeirStream$Channel"))) ∈ lw_all := lw_in (lw_tb (List.mem_of_getElem? (i := 468) (by decide +kernel))) rfl
theorem wq592 : (Jvm.Cond.methodLink "WeirStream" (142 : Nat) ({ cls := "WeirStream$Stage", name := "canWork", desc := "(I)Z" } : Jvm.MethodName)) ∈ lw_all := lw_in (lw_tb (List.mem_of_getElem? (i := 592) (by decide +kernel))) rfl
theorem wq643 : (Jvm.Cond.methodLink "WeirStream" (175 : Nat) ({ cls := "WeirStream$State", name := "keptCount", desc := "()I" } : Jvm.MethodName)) ∈ lw_all := lw_in (lw_tb (List.mem_of_getElem? (i := 643) (by decide +kernel))) rfl
theorem wq644 : (Jvm.Cond.instanceMethod ({ cls := "WeirStream$State", name := "keptCount", desc := "()I" } : Jvm.MethodName)) ∈ lw_all := lw_in (lw_tb (List.mem_of_getElem? (i := 644) (by decide +kernel))) rfl
theorem wq645 : (Jvm.Cond.selects "WeirStream$State" ({ cls := "WeirStream$State", name := "keptCount", desc := "()I" } : Jvm.MethodName) ({ cls := "WeirStream$State", name := "keptCount", desc := "()I" } : Jvm.MethodName)) ∈ lw_all := lw_in (lw_tb (List.mem_of_getElem? (i := 645) (by decide +kernel))) rfl
theorem wq646 : (Jvm.Cond.code ({ cls := "WeirStream$State", name := "keptCount", desc := "()I" } : Jvm.MethodName) prog_11_method_2_code (1 : Nat) (Option.some Jvm.ClassFile.FieldType.int)) ∈ lw_all := lw_in (lw_tb (List.mem_of_getElem? (i := 646) (by decide +kernel))) rfl
theorem wq657 : (Jvm.Cond.methodLink "WeirStream" (187 : Nat) ({ cls := "WeirStream$Stage", name := "channel", desc := "(Z)LWeirStream$Channel;" } : Jvm.MethodName)) ∈ lw_all := lw_in (lw_tb (List.mem_of_getElem? (i := 657) (by decide +kernel))) rfl
theorem wq662 : (Jvm.Cond.methodLink "WeirStream" (234 : Nat) ({ cls := "WeirStream", name := "sinkOf", desc := "(I)LWeirStream$Stage;" } : Jvm.MethodName)) ∈ lw_all := lw_in (lw_tb (List.mem_of_getElem? (i := 662) (by decide +kernel))) rfl
theorem wq664 : (Jvm.Cond.instanceMethod ({ cls := "WeirStream", name := "sinkOf", desc := "(I)LWeirStream$Stage;" } : Jvm.MethodName)) ∈ lw_all := lw_in (lw_tb (List.mem_of_getElem? (i := 664) (by decide +kernel))) rfl
theorem wq665 : (Jvm.Cond.code ({ cls := "WeirStream", name := "sinkOf", desc := "(I)LWeirStream$Stage;" } : Jvm.MethodName) prog_1_method_62_code (3 : Nat) (Option.some (Jvm.ClassFile.FieldType.object "WeirStream$Stage"))) ∈ lw_all := lw_in (lw_tb (List.mem_of_getElem? (i := 665) (by decide +kernel))) rfl
theorem wq678 : (Jvm.Cond.methodLink "WeirStream" (260 : Nat) ({ cls := "WeirStream$Flow", name := "waiting", desc := "()I" } : Jvm.MethodName)) ∈ lw_all := lw_in (lw_tb (List.mem_of_getElem? (i := 678) (by decide +kernel))) rfl
theorem wq679 : (Jvm.Cond.instanceMethod ({ cls := "WeirStream$Flow", name := "waiting", desc := "()I" } : Jvm.MethodName)) ∈ lw_all := lw_in (lw_tb (List.mem_of_getElem? (i := 679) (by decide +kernel))) rfl
theorem wq680 : (Jvm.Cond.selects "WeirStream$Flow" ({ cls := "WeirStream$Flow", name := "waiting", desc := "()I" } : Jvm.MethodName) ({ cls := "WeirStream$Flow", name := "waiting", desc := "()I" } : Jvm.MethodName)) ∈ lw_all := lw_in (lw_tb (List.mem_of_getElem? (i := 680) (by decide +kernel))) rfl
theorem wq681 : (Jvm.Cond.code ({ cls := "WeirStream$Flow", name := "waiting", desc := "()I" } : Jvm.MethodName) prog_4_method_7_code (4 : Nat) (Option.some Jvm.ClassFile.FieldType.int)) ∈ lw_all := lw_in (lw_tb (List.mem_of_getElem? (i := 681) (by decide +kernel))) rfl
theorem wq682 : (Jvm.Cond.methodLink "WeirStream$Flow" (78 : Nat) ({ cls := "WeirStream$Channel", name := "length", desc := "()I" } : Jvm.MethodName)) ∈ lw_all := lw_in (lw_tb (List.mem_of_getElem? (i := 682) (by decide +kernel))) rfl
theorem wq758 : (Jvm.Cond.methodLink "WeirStream" (182 : Nat) ({ cls := "WeirStream$Outlet", name := "isBelow", desc := "(I)Z" } : Jvm.MethodName)) ∈ lw_all := lw_in (lw_tb (List.mem_of_getElem? (i := 758) (by decide +kernel))) rfl
theorem wq763 : (Jvm.Cond.methodLink "WeirStream" (191 : Nat) ({ cls := "WeirStream$Channel", name := "length", desc := "()I" } : Jvm.MethodName)) ∈ lw_all := lw_in (lw_tb (List.mem_of_getElem? (i := 763) (by decide +kernel))) rfl
theorem wq773 : (Jvm.Cond.methodLink "WeirStream" (203 : Nat) ({ cls := "WeirStream", name := "spanStageOf", desc := "(I)LWeirStream$Stage;" } : Jvm.MethodName)) ∈ lw_all := lw_in (lw_tb (List.mem_of_getElem? (i := 773) (by decide +kernel))) rfl
theorem wq775 : (Jvm.Cond.instanceMethod ({ cls := "WeirStream", name := "spanStageOf", desc := "(I)LWeirStream$Stage;" } : Jvm.MethodName)) ∈ lw_all := lw_in (lw_tb (List.mem_of_getElem? (i := 775) (by decide +kernel))) rfl
theorem wq776 : (Jvm.Cond.code ({ cls := "WeirStream", name := "spanStageOf", desc := "(I)LWeirStream$Stage;" } : Jvm.MethodName) prog_1_method_61_code (3 : Nat) (Option.some (Jvm.ClassFile.FieldType.object "WeirStream$Stage"))) ∈ lw_all := lw_in (lw_tb (List.mem_of_getElem? (i := 776) (by decide +kernel))) rfl
theorem wq777 : (Jvm.Cond.methodLink "WeirStream" (226 : Nat) ({ cls := "WeirStream$Spans", name := "firstEndingAbove", desc := "(I)I" } : Jvm.MethodName)) ∈ lw_all := lw_in (lw_tb (List.mem_of_getElem? (i := 777) (by decide +kernel))) rfl
theorem wq778 : (Jvm.Cond.methodLink "WeirStream" (230 : Nat) ({ cls := "WeirStream$Spans", name := "length", desc := "()I" } : Jvm.MethodName)) ∈ lw_all := lw_in (lw_tb (List.mem_of_getElem? (i := 778) (by decide +kernel))) rfl
theorem wq779 : (Jvm.Cond.methodLink "WeirStream" (231 : Nat) ({ cls := "WeirStream$Spans", name := "endAt", desc := "(I)I" } : Jvm.MethodName)) ∈ lw_all := lw_in (lw_tb (List.mem_of_getElem? (i := 779) (by decide +kernel))) rfl
theorem wq790 : (Jvm.Cond.methodLink "WeirStream" (363 : Nat) ({ cls := "WeirStream$Row", name := "at", desc := "(I)J" } : Jvm.MethodName)) ∈ lw_all := lw_in (lw_tb (List.mem_of_getElem? (i := 790) (by decide +kernel))) rfl
theorem wq1201 : (Jvm.Cond.methodLink "WeirStream" (263 : Nat) ({ cls := "WeirStream$Flow", name := "channels", desc := "()I" } : Jvm.MethodName)) ∈ lw_all := lw_in (lw_tb (List.mem_of_getElem? (i := 1201) (by decide +kernel))) rfl
theorem wq1202 : (Jvm.Cond.instanceMethod ({ cls := "WeirStream$Flow", name := "channels", desc := "()I" } : Jvm.MethodName)) ∈ lw_all := lw_in (lw_tb (List.mem_of_getElem? (i := 1202) (by decide +kernel))) rfl
theorem wq1203 : (Jvm.Cond.selects "WeirStream$Flow" ({ cls := "WeirStream$Flow", name := "channels", desc := "()I" } : Jvm.MethodName) ({ cls := "WeirStream$Flow", name := "channels", desc := "()I" } : Jvm.MethodName)) ∈ lw_all := lw_in (lw_tb (List.mem_of_getElem? (i := 1203) (by decide +kernel))) rfl
theorem wq1204 : (Jvm.Cond.code ({ cls := "WeirStream$Flow", name := "channels", desc := "()I" } : Jvm.MethodName) prog_4_method_6_code (3 : Nat) (Option.some Jvm.ClassFile.FieldType.int)) ∈ lw_all := lw_in (lw_tb (List.mem_of_getElem? (i := 1204) (by decide +kernel))) rfl
theorem wr70 : (Jvm.Cond.fieldLinkNest "WeirStream" (94 : Nat) "WeirStream$Flow" "capacity" "I" "WeirStream") ∈ lw_tbl := lw_tb (List.mem_of_getElem? (i := 70) (by decide +kernel))
theorem wr74 : (Jvm.Cond.fieldLinkNest "WeirStream" (145 : Nat) "WeirStream$Flow" "begunNumber" "I" "WeirStream") ∈ lw_tbl := lw_tb (List.mem_of_getElem? (i := 74) (by decide +kernel))
theorem wr76 : (Jvm.Cond.fieldLinkNest "WeirStream" (257 : Nat) "WeirStream$Flow" "completeNumber" "I" "WeirStream") ∈ lw_tbl := lw_tb (List.mem_of_getElem? (i := 76) (by decide +kernel))
theorem wr831 : (Jvm.Cond.fieldLinkNest "WeirStream" (54 : Nat) "WeirStream$Plan" "sort" "I" "WeirStream") ∈ lw_tbl := lw_tb (List.mem_of_getElem? (i := 831) (by decide +kernel))
theorem wr861 : (Jvm.Cond.fieldLinkNest "WeirStream" (200 : Nat) "WeirStream$Plan" "depth" "I" "WeirStream") ∈ lw_tbl := lw_tb (List.mem_of_getElem? (i := 861) (by decide +kernel))
theorem wr943 : (Jvm.Cond.fieldLinkNest "WeirStream" (194 : Nat) "WeirStream$Channel" "isShut" "Z" "WeirStream") ∈ lw_tbl := lw_tb (List.mem_of_getElem? (i := 943) (by decide +kernel))
theorem wr1053 : (Jvm.Cond.fieldLinkNest "WeirStream" (161 : Nat) "WeirStream$State" "mark" "I" "WeirStream") ∈ lw_tbl := lw_tb (List.mem_of_getElem? (i := 1053) (by decide +kernel))
theorem wr1063 : (Jvm.Cond.fieldLinkNest "WeirStream" (166 : Nat) "WeirStream$State" "taken" "I" "WeirStream") ∈ lw_tbl := lw_tb (List.mem_of_getElem? (i := 1063) (by decide +kernel))
theorem wr1066 : (Jvm.Cond.fieldLinkNest "WeirStream" (169 : Nat) "WeirStream$State" "emitted" "I" "WeirStream") ∈ lw_tbl := lw_tb (List.mem_of_getElem? (i := 1066) (by decide +kernel))
theorem wr1069 : (Jvm.Cond.fieldLinkNest "WeirStream" (172 : Nat) "WeirStream$State" "late" "I" "WeirStream") ∈ lw_tbl := lw_tb (List.mem_of_getElem? (i := 1069) (by decide +kernel))
theorem wr1072 : (Jvm.Cond.fieldLinkNest "WeirStream" (237 : Nat) "WeirStream$State" "outputCount" "I" "WeirStream") ∈ lw_tbl := lw_tb (List.mem_of_getElem? (i := 1072) (by decide +kernel))
theorem wr1075 : (Jvm.Cond.fieldLinkNest "WeirStream" (206 : Nat) "WeirStream$State" "spans" "LWeirStream$Spans;" "WeirStream") ∈ lw_tbl := lw_tb (List.mem_of_getElem? (i := 1075) (by decide +kernel))
theorem wr1104 : (Jvm.Cond.fieldLinkNest "WeirStream" (48 : Nat) "WeirStream$Stage" "plan" "LWeirStream$Plan;" "WeirStream") ∈ lw_tbl := lw_tb (List.mem_of_getElem? (i := 1104) (by decide +kernel))
theorem wr1109 : (Jvm.Cond.fieldLinkNest "WeirStream$Flow" (75 : Nat) "WeirStream$Stage" "first" "LWeirStream$Channel;" "WeirStream") ∈ lw_tbl := lw_tb (List.mem_of_getElem? (i := 1109) (by decide +kernel))
theorem wr1111 : (Jvm.Cond.fieldLinkNest "WeirStream$Flow" (83 : Nat) "WeirStream$Stage" "second" "LWeirStream$Channel;" "WeirStream") ∈ lw_tbl := lw_tb (List.mem_of_getElem? (i := 1111) (by decide +kernel))
theorem wr1115 : (Jvm.Cond.fieldLinkNest "WeirStream" (178 : Nat) "WeirStream$Stage" "outlet" "LWeirStream$Outlet;" "WeirStream") ∈ lw_tbl := lw_tb (List.mem_of_getElem? (i := 1115) (by decide +kernel))
theorem wr1117 : (Jvm.Cond.fieldLinkNest "WeirStream" (360 : Nat) "WeirStream$Stage" "output" "LWeirStream$Row;" "WeirStream") ∈ lw_tbl := lw_tb (List.mem_of_getElem? (i := 1117) (by decide +kernel))
theorem wr1120 : (Jvm.Cond.fieldLinkNest "WeirStream" (157 : Nat) "WeirStream$Stage" "now" "LWeirStream$State;" "WeirStream") ∈ lw_tbl := lw_tb (List.mem_of_getElem? (i := 1120) (by decide +kernel))
theorem wr1122 : (Jvm.Cond.fieldLinkNest "WeirStream" (240 : Nat) "WeirStream$Stage" "latest" "LWeirStream$State;" "WeirStream") ∈ lw_tbl := lw_tb (List.mem_of_getElem? (i := 1122) (by decide +kernel))
theorem ws1 : Cond.selects "WeirStream" ⟨"WeirStream", "sourceOf", "(I)LWeirStream$Stage;"⟩ ⟨"WeirStream", "sourceOf", "(I)LWeirStream$Stage;"⟩ ∈ lw_all := lw_in (lw_ps (List.mem_of_getElem? (i := 1) (by decide +kernel))) rfl
theorem ws2 : Cond.selects "WeirStream" ⟨"WeirStream", "stageOf", "(I)LWeirStream$Stage;"⟩ ⟨"WeirStream", "stageOf", "(I)LWeirStream$Stage;"⟩ ∈ lw_all := lw_in (lw_ps (List.mem_of_getElem? (i := 2) (by decide +kernel))) rfl
theorem ws20 : Cond.selects "WeirStream" ⟨"WeirStream", "sinkOf", "(I)LWeirStream$Stage;"⟩ ⟨"WeirStream", "sinkOf", "(I)LWeirStream$Stage;"⟩ ∈ lw_all := lw_in (lw_ps (List.mem_of_getElem? (i := 20) (by decide +kernel))) rfl
theorem ws22 : Cond.selects "WeirStream" ⟨"WeirStream", "spanStageOf", "(I)LWeirStream$Stage;"⟩ ⟨"WeirStream", "spanStageOf", "(I)LWeirStream$Stage;"⟩ ∈ lw_all := lw_in (lw_ps (List.mem_of_getElem? (i := 22) (by decide +kernel))) rfl
theorem dX2_waiting_4 : decode cX2_waiting 4 = .ok (.iload_n 2, 1) := by decide +kernel
theorem dX2_waiting_5 : decode cX2_waiting 5 = .ok (.aload_n 0, 1) := by decide +kernel
theorem dX2_waiting_6 : decode cX2_waiting 6 = .ok (.getfield 12, 3) := by decide +kernel
theorem dX2_waiting_9 : decode cX2_waiting 9 = .ok (.invokevirtual 29, 3) := by decide +kernel
theorem dX2_waiting_12 : decode cX2_waiting 12 = .ok (.if_icmp .ge 63, 3) := by decide +kernel
theorem dX2_waiting_75 : decode cX2_waiting 75 = .ok (.iload_n 1, 1) := by decide +kernel
theorem dX2_waiting_76 : decode cX2_waiting 76 = .ok (.ireturn, 1) := by decide +kernel
theorem dX2_waiting_15 : decode cX2_waiting 15 = .ok (.aload_n 0, 1) := by decide +kernel
theorem dX2_waiting_16 : decode cX2_waiting 16 = .ok (.getfield 12, 3) := by decide +kernel
theorem dX2_waiting_19 : decode cX2_waiting 19 = .ok (.iload_n 2, 1) := by decide +kernel
theorem dX2_waiting_20 : decode cX2_waiting 20 = .ok (.invokevirtual 33, 3) := by decide +kernel
theorem dX2_waiting_23 : decode cX2_waiting 23 = .ok (.checkcast 37, 3) := by decide +kernel
theorem dX2_waiting_26 : decode cX2_waiting 26 = .ok (.astore_n 3, 1) := by decide +kernel
theorem dX2_waiting_27 : decode cX2_waiting 27 = .ok (.iload_n 1, 1) := by decide +kernel
theorem dX2_waiting_28 : decode cX2_waiting 28 = .ok (.aload_n 3, 1) := by decide +kernel
theorem dX2_waiting_29 : decode cX2_waiting 29 = .ok (.getfield 75, 3) := by decide +kernel
theorem dX2_waiting_32 : decode cX2_waiting 32 = .ok (.ifnonnull 7, 3) := by decide +kernel
theorem dX2_waiting_39 : decode cX2_waiting 39 = .ok (.aload_n 3, 1) := by decide +kernel
theorem dX2_waiting_40 : decode cX2_waiting 40 = .ok (.getfield 75, 3) := by decide +kernel
theorem dX2_waiting_43 : decode cX2_waiting 43 = .ok (.invokevirtual 78, 3) := by decide +kernel
theorem dX2_waiting_46 : decode cX2_waiting 46 = .ok (.iadd, 1) := by decide +kernel
theorem dX2_waiting_47 : decode cX2_waiting 47 = .ok (.istore_n 1, 1) := by decide +kernel
theorem dX2_waiting_48 : decode cX2_waiting 48 = .ok (.iload_n 1, 1) := by decide +kernel
theorem dX2_waiting_49 : decode cX2_waiting 49 = .ok (.aload_n 3, 1) := by decide +kernel
theorem dX2_waiting_50 : decode cX2_waiting 50 = .ok (.getfield 83, 3) := by decide +kernel
theorem dX2_waiting_53 : decode cX2_waiting 53 = .ok (.ifnonnull 7, 3) := by decide +kernel
theorem dX2_waiting_60 : decode cX2_waiting 60 = .ok (.aload_n 3, 1) := by decide +kernel
theorem dX2_waiting_61 : decode cX2_waiting 61 = .ok (.getfield 83, 3) := by decide +kernel
theorem dX2_waiting_64 : decode cX2_waiting 64 = .ok (.invokevirtual 78, 3) := by decide +kernel
theorem dX2_waiting_67 : decode cX2_waiting 67 = .ok (.iadd, 1) := by decide +kernel
theorem dX2_waiting_68 : decode cX2_waiting 68 = .ok (.istore_n 1, 1) := by decide +kernel
theorem dX2_waiting_69 : decode cX2_waiting 69 = .ok (.iinc 2 1, 3) := by decide +kernel
theorem dX2_waiting_72 : decode cX2_waiting 72 = .ok (.goto (-68), 3) := by decide +kernel
theorem dX2_waiting_56 : decode cX2_waiting 56 = .ok (.iconst 0, 1) := by decide +kernel
theorem dX2_waiting_57 : decode cX2_waiting 57 = .ok (.goto 10, 3) := by decide +kernel
theorem dX2_waiting_35 : decode cX2_waiting 35 = .ok (.iconst 0, 1) := by decide +kernel
theorem dX2_waiting_36 : decode cX2_waiting 36 = .ok (.goto 10, 3) := by decide +kernel
theorem dX2_waiting_0 : decode cX2_waiting 0 = .ok (.iconst 0, 1) := by decide +kernel
theorem dX2_waiting_1 : decode cX2_waiting 1 = .ok (.istore_n 1, 1) := by decide +kernel
theorem dX2_waiting_2 : decode cX2_waiting 2 = .ok (.iconst 0, 1) := by decide +kernel
theorem dX2_waiting_3 : decode cX2_waiting 3 = .ok (.istore_n 2, 1) := by decide +kernel
theorem dX2_nextToWork_10 : decode cX2_nextToWork 10 = .ok (.iload_n 2, 1) := by decide +kernel
theorem dX2_nextToWork_11 : decode cX2_nextToWork 11 = .ok (.iload_n 1, 1) := by decide +kernel
theorem dX2_nextToWork_12 : decode cX2_nextToWork 12 = .ok (.if_icmp .gt 64, 3) := by decide +kernel
theorem dX2_nextToWork_76 : decode cX2_nextToWork 76 = .ok (.iconst (-1), 1) := by decide +kernel
theorem dX2_nextToWork_77 : decode cX2_nextToWork 77 = .ok (.ireturn, 1) := by decide +kernel
theorem dX2_nextToWork_15 : decode cX2_nextToWork 15 = .ok (.aload_n 0, 1) := by decide +kernel
theorem dX2_nextToWork_16 : decode cX2_nextToWork 16 = .ok (.getfield 22, 3) := by decide +kernel
theorem dX2_nextToWork_19 : decode cX2_nextToWork 19 = .ok (.iload_n 2, 1) := by decide +kernel
theorem dX2_nextToWork_20 : decode cX2_nextToWork 20 = .ok (.iadd, 1) := by decide +kernel
theorem dX2_nextToWork_21 : decode cX2_nextToWork 21 = .ok (.istore_n 3, 1) := by decide +kernel
theorem dX2_nextToWork_22 : decode cX2_nextToWork 22 = .ok (.aload_n 0, 1) := by decide +kernel
theorem dX2_nextToWork_23 : decode cX2_nextToWork 23 = .ok (.iload_n 3, 1) := by decide +kernel
theorem dX2_nextToWork_24 : decode cX2_nextToWork 24 = .ok (.iload_n 1, 1) := by decide +kernel
theorem dX2_nextToWork_25 : decode cX2_nextToWork 25 = .ok (.if_icmp .ge 7, 3) := by decide +kernel
theorem dX2_nextToWork_32 : decode cX2_nextToWork 32 = .ok (.iload_n 3, 1) := by decide +kernel
theorem dX2_nextToWork_33 : decode cX2_nextToWork 33 = .ok (.iload_n 1, 1) := by decide +kernel
theorem dX2_nextToWork_34 : decode cX2_nextToWork 34 = .ok (.isub, 1) := by decide +kernel
theorem dX2_nextToWork_35 : decode cX2_nextToWork 35 = .ok (.invokevirtual 58, 3) := by decide +kernel
theorem dX2_nextToWork_38 : decode cX2_nextToWork 38 = .ok (.astore 4, 2) := by decide +kernel
theorem dX2_nextToWork_40 : decode cX2_nextToWork 40 = .ok (.aload 4, 2) := by decide +kernel
theorem dX2_nextToWork_42 : decode cX2_nextToWork 42 = .ok (.ifnull 28, 3) := by decide +kernel
theorem dX2_nextToWork_45 : decode cX2_nextToWork 45 = .ok (.aload 4, 2) := by decide +kernel
theorem dX2_nextToWork_47 : decode cX2_nextToWork 47 = .ok (.aload_n 0, 1) := by decide +kernel
theorem dX2_nextToWork_48 : decode cX2_nextToWork 48 = .ok (.getfield 18, 3) := by decide +kernel
theorem dX2_nextToWork_51 : decode cX2_nextToWork 51 = .ok (.invokevirtual 85, 3) := by decide +kernel
theorem dX2_nextToWork_54 : decode cX2_nextToWork 54 = .ok (.ifCond .eq 16, 3) := by decide +kernel
theorem dX2_nextToWork_70 : decode cX2_nextToWork 70 = .ok (.iinc 2 1, 3) := by decide +kernel
theorem dX2_nextToWork_73 : decode cX2_nextToWork 73 = .ok (.goto (-63), 3) := by decide +kernel
theorem dX2_nextToWork_57 : decode cX2_nextToWork 57 = .ok (.iload_n 3, 1) := by decide +kernel
theorem dX2_nextToWork_58 : decode cX2_nextToWork 58 = .ok (.iload_n 1, 1) := by decide +kernel
theorem dX2_nextToWork_59 : decode cX2_nextToWork 59 = .ok (.if_icmp .ge 7, 3) := by decide +kernel
theorem dX2_nextToWork_66 : decode cX2_nextToWork 66 = .ok (.iload_n 3, 1) := by decide +kernel
theorem dX2_nextToWork_67 : decode cX2_nextToWork 67 = .ok (.iload_n 1, 1) := by decide +kernel
theorem dX2_nextToWork_68 : decode cX2_nextToWork 68 = .ok (.isub, 1) := by decide +kernel
theorem dX2_nextToWork_69 : decode cX2_nextToWork 69 = .ok (.ireturn, 1) := by decide +kernel
theorem dX2_nextToWork_28 : decode cX2_nextToWork 28 = .ok (.iload_n 3, 1) := by decide +kernel
theorem dX2_nextToWork_29 : decode cX2_nextToWork 29 = .ok (.goto 6, 3) := by decide +kernel
theorem dX2_nextToWork_62 : decode cX2_nextToWork 62 = .ok (.iload_n 3, 1) := by decide +kernel
theorem dX2_nextToWork_63 : decode cX2_nextToWork 63 = .ok (.goto 6, 3) := by decide +kernel
theorem dX2_nextToWork_0 : decode cX2_nextToWork 0 = .ok (.aload_n 0, 1) := by decide +kernel
theorem dX2_nextToWork_1 : decode cX2_nextToWork 1 = .ok (.getfield 12, 3) := by decide +kernel
theorem dX2_nextToWork_4 : decode cX2_nextToWork 4 = .ok (.invokevirtual 29, 3) := by decide +kernel
theorem dX2_nextToWork_7 : decode cX2_nextToWork 7 = .ok (.istore_n 1, 1) := by decide +kernel
theorem dX2_nextToWork_8 : decode cX2_nextToWork 8 = .ok (.iconst 1, 1) := by decide +kernel
theorem dX2_nextToWork_9 : decode cX2_nextToWork 9 = .ok (.istore_n 2, 1) := by decide +kernel
theorem dX10_stageOf_0 : decode cX10_stageOf 0 = .ok (.aload_n 0, 1) := by decide +kernel
theorem dX10_stageOf_1 : decode cX10_stageOf 1 = .ok (.getfield 12, 3) := by decide +kernel
theorem dX10_stageOf_4 : decode cX10_stageOf 4 = .ok (.iload_n 1, 1) := by decide +kernel
theorem dX10_stageOf_5 : decode cX10_stageOf 5 = .ok (.invokevirtual 270, 3) := by decide +kernel
theorem dX10_stageOf_8 : decode cX10_stageOf 8 = .ok (.astore_n 2, 1) := by decide +kernel
theorem dX10_stageOf_9 : decode cX10_stageOf 9 = .ok (.aload_n 2, 1) := by decide +kernel
theorem dX10_stageOf_10 : decode cX10_stageOf 10 = .ok (.ifnonnull 11, 3) := by decide +kernel
theorem dX10_stageOf_21 : decode cX10_stageOf 21 = .ok (.aload_n 2, 1) := by decide +kernel
theorem dX10_stageOf_22 : decode cX10_stageOf 22 = .ok (.areturn, 1) := by decide +kernel
theorem dX10_sourceOf_0 : decode cX10_sourceOf 0 = .ok (.aload_n 0, 1) := by decide +kernel
theorem dX10_sourceOf_1 : decode cX10_sourceOf 1 = .ok (.iload_n 1, 1) := by decide +kernel
theorem dX10_sourceOf_2 : decode cX10_sourceOf 2 = .ok (.invokevirtual 44, 3) := by decide +kernel
theorem dX10_sourceOf_5 : decode cX10_sourceOf 5 = .ok (.astore_n 2, 1) := by decide +kernel
theorem dX10_sourceOf_6 : decode cX10_sourceOf 6 = .ok (.aload_n 2, 1) := by decide +kernel
theorem dX10_sourceOf_7 : decode cX10_sourceOf 7 = .ok (.getfield 48, 3) := by decide +kernel
theorem dX10_sourceOf_10 : decode cX10_sourceOf 10 = .ok (.getfield 54, 3) := by decide +kernel
theorem dX10_sourceOf_13 : decode cX10_sourceOf 13 = .ok (.ifCond .ne 7, 3) := by decide +kernel
theorem dX10_sourceOf_16 : decode cX10_sourceOf 16 = .ok (.iconst 1, 1) := by decide +kernel
theorem dX10_sourceOf_17 : decode cX10_sourceOf 17 = .ok (.goto 4, 3) := by decide +kernel
theorem dX10_sourceOf_21 : decode cX10_sourceOf 21 = .ok (.invokestatic 25, 3) := by decide +kernel
theorem dX10_sourceOf_24 : decode cX10_sourceOf 24 = .ok (.aload_n 2, 1) := by decide +kernel
theorem dX10_sourceOf_25 : decode cX10_sourceOf 25 = .ok (.areturn, 1) := by decide +kernel
theorem dX10_sinkOf_0 : decode cX10_sinkOf 0 = .ok (.aload_n 0, 1) := by decide +kernel
theorem dX10_sinkOf_1 : decode cX10_sinkOf 1 = .ok (.iload_n 1, 1) := by decide +kernel
theorem dX10_sinkOf_2 : decode cX10_sinkOf 2 = .ok (.invokevirtual 44, 3) := by decide +kernel
theorem dX10_sinkOf_5 : decode cX10_sinkOf 5 = .ok (.astore_n 2, 1) := by decide +kernel
theorem dX10_sinkOf_6 : decode cX10_sinkOf 6 = .ok (.aload_n 2, 1) := by decide +kernel
theorem dX10_sinkOf_7 : decode cX10_sinkOf 7 = .ok (.getfield 48, 3) := by decide +kernel
theorem dX10_sinkOf_10 : decode cX10_sinkOf 10 = .ok (.getfield 54, 3) := by decide +kernel
theorem dX10_sinkOf_13 : decode cX10_sinkOf 13 = .ok (.bipush 7, 2) := by decide +kernel
theorem dX10_sinkOf_15 : decode cX10_sinkOf 15 = .ok (.if_icmp .ne 7, 3) := by decide +kernel
theorem dX10_sinkOf_18 : decode cX10_sinkOf 18 = .ok (.iconst 1, 1) := by decide +kernel
theorem dX10_sinkOf_19 : decode cX10_sinkOf 19 = .ok (.goto 4, 3) := by decide +kernel
theorem dX10_sinkOf_23 : decode cX10_sinkOf 23 = .ok (.invokestatic 25, 3) := by decide +kernel
theorem dX10_sinkOf_26 : decode cX10_sinkOf 26 = .ok (.aload_n 2, 1) := by decide +kernel
theorem dX10_sinkOf_27 : decode cX10_sinkOf 27 = .ok (.areturn, 1) := by decide +kernel
theorem dX10_spanStageOf_0 : decode cX10_spanStageOf 0 = .ok (.aload_n 0, 1) := by decide +kernel
theorem dX10_spanStageOf_1 : decode cX10_spanStageOf 1 = .ok (.iload_n 1, 1) := by decide +kernel
theorem dX10_spanStageOf_2 : decode cX10_spanStageOf 2 = .ok (.invokevirtual 44, 3) := by decide +kernel
theorem dX10_spanStageOf_5 : decode cX10_spanStageOf 5 = .ok (.astore_n 2, 1) := by decide +kernel
theorem dX10_spanStageOf_6 : decode cX10_spanStageOf 6 = .ok (.aload_n 2, 1) := by decide +kernel
theorem dX10_spanStageOf_7 : decode cX10_spanStageOf 7 = .ok (.getfield 48, 3) := by decide +kernel
theorem dX10_spanStageOf_10 : decode cX10_spanStageOf 10 = .ok (.getfield 54, 3) := by decide +kernel
theorem dX10_spanStageOf_13 : decode cX10_spanStageOf 13 = .ok (.iconst 3, 1) := by decide +kernel
theorem dX10_spanStageOf_14 : decode cX10_spanStageOf 14 = .ok (.if_icmp .eq 14, 3) := by decide +kernel
theorem dX10_spanStageOf_28 : decode cX10_spanStageOf 28 = .ok (.iconst 1, 1) := by decide +kernel
theorem dX10_spanStageOf_29 : decode cX10_spanStageOf 29 = .ok (.goto 4, 3) := by decide +kernel
theorem dX10_spanStageOf_33 : decode cX10_spanStageOf 33 = .ok (.invokestatic 25, 3) := by decide +kernel
theorem dX10_spanStageOf_36 : decode cX10_spanStageOf 36 = .ok (.aload_n 2, 1) := by decide +kernel
theorem dX10_spanStageOf_37 : decode cX10_spanStageOf 37 = .ok (.areturn, 1) := by decide +kernel
theorem dX10_spanStageOf_17 : decode cX10_spanStageOf 17 = .ok (.aload_n 2, 1) := by decide +kernel
theorem dX10_spanStageOf_18 : decode cX10_spanStageOf 18 = .ok (.getfield 48, 3) := by decide +kernel
theorem dX10_spanStageOf_21 : decode cX10_spanStageOf 21 = .ok (.getfield 54, 3) := by decide +kernel
theorem dX10_spanStageOf_24 : decode cX10_spanStageOf 24 = .ok (.iconst 4, 1) := by decide +kernel
theorem dX10_spanStageOf_25 : decode cX10_spanStageOf 25 = .ok (.if_icmp .ne 7, 3) := by decide +kernel
theorem dX10_spanStageOf_32 : decode cX10_spanStageOf 32 = .ok (.iconst 0, 1) := by decide +kernel
theorem dX10_stages_0 : decode cX10_stages 0 = .ok (.aload_n 0, 1) := by decide +kernel
theorem dX10_stages_1 : decode cX10_stages 1 = .ok (.getfield 12, 3) := by decide +kernel
theorem dX10_stages_4 : decode cX10_stages 4 = .ok (.invokevirtual 88, 3) := by decide +kernel
theorem dX10_stages_7 : decode cX10_stages 7 = .ok (.ireturn, 1) := by decide +kernel
theorem dX10_isStarted_0 : decode cX10_isStarted 0 = .ok (.aload_n 0, 1) := by decide +kernel
theorem dX10_isStarted_1 : decode cX10_isStarted 1 = .ok (.getfield 84, 3) := by decide +kernel
theorem dX10_isStarted_4 : decode cX10_isStarted 4 = .ok (.ireturn, 1) := by decide +kernel
theorem dX10_sortOf_0 : decode cX10_sortOf 0 = .ok (.aload_n 0, 1) := by decide +kernel
theorem dX10_sortOf_1 : decode cX10_sortOf 1 = .ok (.iload_n 1, 1) := by decide +kernel
theorem dX10_sortOf_2 : decode cX10_sortOf 2 = .ok (.invokevirtual 44, 3) := by decide +kernel
theorem dX10_sortOf_5 : decode cX10_sortOf 5 = .ok (.getfield 48, 3) := by decide +kernel
theorem dX10_sortOf_8 : decode cX10_sortOf 8 = .ok (.getfield 54, 3) := by decide +kernel
theorem dX10_sortOf_11 : decode cX10_sortOf 11 = .ok (.ireturn, 1) := by decide +kernel
theorem dX10_markOf_0 : decode cX10_markOf 0 = .ok (.aload_n 0, 1) := by decide +kernel
theorem dX10_markOf_1 : decode cX10_markOf 1 = .ok (.iload_n 1, 1) := by decide +kernel
theorem dX10_markOf_2 : decode cX10_markOf 2 = .ok (.invokevirtual 44, 3) := by decide +kernel
theorem dX10_markOf_5 : decode cX10_markOf 5 = .ok (.getfield 157, 3) := by decide +kernel
theorem dX10_markOf_8 : decode cX10_markOf 8 = .ok (.getfield 161, 3) := by decide +kernel
theorem dX10_markOf_11 : decode cX10_markOf 11 = .ok (.ireturn, 1) := by decide +kernel
theorem dX10_taken_0 : decode cX10_taken 0 = .ok (.aload_n 0, 1) := by decide +kernel
theorem dX10_taken_1 : decode cX10_taken 1 = .ok (.iload_n 1, 1) := by decide +kernel
theorem dX10_taken_2 : decode cX10_taken 2 = .ok (.invokevirtual 44, 3) := by decide +kernel
theorem dX10_taken_5 : decode cX10_taken 5 = .ok (.getfield 157, 3) := by decide +kernel
theorem dX10_taken_8 : decode cX10_taken 8 = .ok (.getfield 166, 3) := by decide +kernel
theorem dX10_taken_11 : decode cX10_taken 11 = .ok (.ireturn, 1) := by decide +kernel
theorem dX10_emitted_0 : decode cX10_emitted 0 = .ok (.aload_n 0, 1) := by decide +kernel
theorem dX10_emitted_1 : decode cX10_emitted 1 = .ok (.iload_n 1, 1) := by decide +kernel
theorem dX10_emitted_2 : decode cX10_emitted 2 = .ok (.invokevirtual 44, 3) := by decide +kernel
theorem dX10_emitted_5 : decode cX10_emitted 5 = .ok (.getfield 157, 3) := by decide +kernel
theorem dX10_emitted_8 : decode cX10_emitted 8 = .ok (.getfield 169, 3) := by decide +kernel
theorem dX10_emitted_11 : decode cX10_emitted 11 = .ok (.ireturn, 1) := by decide +kernel
theorem dX10_late_0 : decode cX10_late 0 = .ok (.aload_n 0, 1) := by decide +kernel
theorem dX10_late_1 : decode cX10_late 1 = .ok (.iload_n 1, 1) := by decide +kernel
theorem dX10_late_2 : decode cX10_late 2 = .ok (.invokevirtual 44, 3) := by decide +kernel
theorem dX10_late_5 : decode cX10_late 5 = .ok (.getfield 157, 3) := by decide +kernel
theorem dX10_late_8 : decode cX10_late 8 = .ok (.getfield 172, 3) := by decide +kernel
theorem dX10_late_11 : decode cX10_late 11 = .ok (.ireturn, 1) := by decide +kernel
theorem dX10_kept_0 : decode cX10_kept 0 = .ok (.aload_n 0, 1) := by decide +kernel
theorem dX10_kept_1 : decode cX10_kept 1 = .ok (.iload_n 1, 1) := by decide +kernel
theorem dX10_kept_2 : decode cX10_kept 2 = .ok (.invokevirtual 44, 3) := by decide +kernel
theorem dX10_kept_5 : decode cX10_kept 5 = .ok (.astore_n 2, 1) := by decide +kernel
theorem dX10_kept_6 : decode cX10_kept 6 = .ok (.aload_n 2, 1) := by decide +kernel
theorem dX10_kept_7 : decode cX10_kept 7 = .ok (.getfield 48, 3) := by decide +kernel
theorem dX10_kept_10 : decode cX10_kept 10 = .ok (.getfield 54, 3) := by decide +kernel
theorem dX10_kept_13 : decode cX10_kept 13 = .ok (.ifCond .ne 10, 3) := by decide +kernel
theorem dX10_kept_16 : decode cX10_kept 16 = .ok (.aload_n 2, 1) := by decide +kernel
theorem dX10_kept_17 : decode cX10_kept 17 = .ok (.invokevirtual 127, 3) := by decide +kernel
theorem dX10_kept_20 : decode cX10_kept 20 = .ok (.goto 10, 3) := by decide +kernel
theorem dX10_kept_30 : decode cX10_kept 30 = .ok (.ireturn, 1) := by decide +kernel
theorem dX10_kept_23 : decode cX10_kept 23 = .ok (.aload_n 2, 1) := by decide +kernel
theorem dX10_kept_24 : decode cX10_kept 24 = .ok (.getfield 157, 3) := by decide +kernel
theorem dX10_kept_27 : decode cX10_kept 27 = .ok (.invokevirtual 175, 3) := by decide +kernel
theorem dX10_depthOf_0 : decode cX10_depthOf 0 = .ok (.aload_n 0, 1) := by decide +kernel
theorem dX10_depthOf_1 : decode cX10_depthOf 1 = .ok (.iload_n 1, 1) := by decide +kernel
theorem dX10_depthOf_2 : decode cX10_depthOf 2 = .ok (.invokevirtual 44, 3) := by decide +kernel
theorem dX10_depthOf_5 : decode cX10_depthOf 5 = .ok (.getfield 48, 3) := by decide +kernel
theorem dX10_depthOf_8 : decode cX10_depthOf 8 = .ok (.getfield 200, 3) := by decide +kernel
theorem dX10_depthOf_11 : decode cX10_depthOf 11 = .ok (.ireturn, 1) := by decide +kernel
theorem dX10_isReady_0 : decode cX10_isReady 0 = .ok (.aload_n 0, 1) := by decide +kernel
theorem dX10_isReady_1 : decode cX10_isReady 1 = .ok (.iload_n 1, 1) := by decide +kernel
theorem dX10_isReady_2 : decode cX10_isReady 2 = .ok (.invokevirtual 44, 3) := by decide +kernel
theorem dX10_isReady_5 : decode cX10_isReady 5 = .ok (.aload_n 0, 1) := by decide +kernel
theorem dX10_isReady_6 : decode cX10_isReady 6 = .ok (.getfield 12, 3) := by decide +kernel
theorem dX10_isReady_9 : decode cX10_isReady 9 = .ok (.getfield 94, 3) := by decide +kernel
theorem dX10_isReady_12 : decode cX10_isReady 12 = .ok (.invokevirtual 142, 3) := by decide +kernel
theorem dX10_isReady_15 : decode cX10_isReady 15 = .ok (.ireturn, 1) := by decide +kernel
theorem dX10_hasRoom_0 : decode cX10_hasRoom 0 = .ok (.aload_n 0, 1) := by decide +kernel
theorem dX10_hasRoom_1 : decode cX10_hasRoom 1 = .ok (.iload_n 1, 1) := by decide +kernel
theorem dX10_hasRoom_2 : decode cX10_hasRoom 2 = .ok (.invokevirtual 44, 3) := by decide +kernel
theorem dX10_hasRoom_5 : decode cX10_hasRoom 5 = .ok (.getfield 178, 3) := by decide +kernel
theorem dX10_hasRoom_8 : decode cX10_hasRoom 8 = .ok (.aload_n 0, 1) := by decide +kernel
theorem dX10_hasRoom_9 : decode cX10_hasRoom 9 = .ok (.getfield 12, 3) := by decide +kernel
theorem dX10_hasRoom_12 : decode cX10_hasRoom 12 = .ok (.getfield 94, 3) := by decide +kernel
theorem dX10_hasRoom_15 : decode cX10_hasRoom 15 = .ok (.invokevirtual 182, 3) := by decide +kernel
theorem dX10_hasRoom_18 : decode cX10_hasRoom 18 = .ok (.ireturn, 1) := by decide +kernel
theorem dX10_queued_0 : decode cX10_queued 0 = .ok (.aload_n 0, 1) := by decide +kernel
theorem dX10_queued_1 : decode cX10_queued 1 = .ok (.iload_n 1, 1) := by decide +kernel
theorem dX10_queued_2 : decode cX10_queued 2 = .ok (.invokevirtual 44, 3) := by decide +kernel
theorem dX10_queued_5 : decode cX10_queued 5 = .ok (.iload_n 2, 1) := by decide +kernel
theorem dX10_queued_6 : decode cX10_queued 6 = .ok (.invokevirtual 187, 3) := by decide +kernel
theorem dX10_queued_9 : decode cX10_queued 9 = .ok (.astore_n 3, 1) := by decide +kernel
theorem dX10_queued_10 : decode cX10_queued 10 = .ok (.aload_n 3, 1) := by decide +kernel
theorem dX10_queued_11 : decode cX10_queued 11 = .ok (.ifnonnull 7, 3) := by decide +kernel
theorem dX10_queued_18 : decode cX10_queued 18 = .ok (.aload_n 3, 1) := by decide +kernel
theorem dX10_queued_19 : decode cX10_queued 19 = .ok (.invokevirtual 191, 3) := by decide +kernel
theorem dX10_queued_22 : decode cX10_queued 22 = .ok (.ireturn, 1) := by decide +kernel
theorem dX10_queued_14 : decode cX10_queued 14 = .ok (.iconst (-1), 1) := by decide +kernel
theorem dX10_queued_15 : decode cX10_queued 15 = .ok (.goto 7, 3) := by decide +kernel
theorem dX10_isBlocked_0 : decode cX10_isBlocked 0 = .ok (.aload_n 0, 1) := by decide +kernel
theorem dX10_isBlocked_1 : decode cX10_isBlocked 1 = .ok (.iload_n 1, 1) := by decide +kernel
theorem dX10_isBlocked_2 : decode cX10_isBlocked 2 = .ok (.invokevirtual 44, 3) := by decide +kernel
theorem dX10_isBlocked_5 : decode cX10_isBlocked 5 = .ok (.iload_n 2, 1) := by decide +kernel
theorem dX10_isBlocked_6 : decode cX10_isBlocked 6 = .ok (.invokevirtual 187, 3) := by decide +kernel
theorem dX10_isBlocked_9 : decode cX10_isBlocked 9 = .ok (.astore_n 3, 1) := by decide +kernel
theorem dX10_isBlocked_10 : decode cX10_isBlocked 10 = .ok (.aload_n 3, 1) := by decide +kernel
theorem dX10_isBlocked_11 : decode cX10_isBlocked 11 = .ok (.ifnull 14, 3) := by decide +kernel
theorem dX10_isBlocked_14 : decode cX10_isBlocked 14 = .ok (.aload_n 3, 1) := by decide +kernel
theorem dX10_isBlocked_15 : decode cX10_isBlocked 15 = .ok (.getfield 194, 3) := by decide +kernel
theorem dX10_isBlocked_18 : decode cX10_isBlocked 18 = .ok (.ifCond .eq 7, 3) := by decide +kernel
theorem dX10_isBlocked_25 : decode cX10_isBlocked 25 = .ok (.iconst 0, 1) := by decide +kernel
theorem dX10_isBlocked_26 : decode cX10_isBlocked 26 = .ok (.ireturn, 1) := by decide +kernel
theorem dX10_isBlocked_21 : decode cX10_isBlocked 21 = .ok (.iconst 1, 1) := by decide +kernel
theorem dX10_isBlocked_22 : decode cX10_isBlocked 22 = .ok (.goto 4, 3) := by decide +kernel
theorem dX10_nextEnd_0 : decode cX10_nextEnd 0 = .ok (.aload_n 0, 1) := by decide +kernel
theorem dX10_nextEnd_1 : decode cX10_nextEnd 1 = .ok (.iload_n 1, 1) := by decide +kernel
theorem dX10_nextEnd_2 : decode cX10_nextEnd 2 = .ok (.invokevirtual 203, 3) := by decide +kernel
theorem dX10_nextEnd_5 : decode cX10_nextEnd 5 = .ok (.astore_n 2, 1) := by decide +kernel
theorem dX10_nextEnd_6 : decode cX10_nextEnd 6 = .ok (.aload_n 2, 1) := by decide +kernel
theorem dX10_nextEnd_7 : decode cX10_nextEnd 7 = .ok (.getfield 157, 3) := by decide +kernel
theorem dX10_nextEnd_10 : decode cX10_nextEnd 10 = .ok (.getfield 206, 3) := by decide +kernel
theorem dX10_nextEnd_13 : decode cX10_nextEnd 13 = .ok (.astore_n 3, 1) := by decide +kernel
theorem dX10_nextEnd_14 : decode cX10_nextEnd 14 = .ok (.aload_n 3, 1) := by decide +kernel
theorem dX10_nextEnd_15 : decode cX10_nextEnd 15 = .ok (.aload_n 2, 1) := by decide +kernel
theorem dX10_nextEnd_16 : decode cX10_nextEnd 16 = .ok (.getfield 157, 3) := by decide +kernel
theorem dX10_nextEnd_19 : decode cX10_nextEnd 19 = .ok (.getfield 161, 3) := by decide +kernel
theorem dX10_nextEnd_22 : decode cX10_nextEnd 22 = .ok (.invokevirtual 226, 3) := by decide +kernel
theorem dX10_nextEnd_25 : decode cX10_nextEnd 25 = .ok (.istore 4, 2) := by decide +kernel
theorem dX10_nextEnd_27 : decode cX10_nextEnd 27 = .ok (.iload 4, 2) := by decide +kernel
theorem dX10_nextEnd_29 : decode cX10_nextEnd 29 = .ok (.aload_n 3, 1) := by decide +kernel
theorem dX10_nextEnd_30 : decode cX10_nextEnd 30 = .ok (.invokevirtual 230, 3) := by decide +kernel
theorem dX10_nextEnd_33 : decode cX10_nextEnd 33 = .ok (.if_icmp .ge 12, 3) := by decide +kernel
theorem dX10_nextEnd_45 : decode cX10_nextEnd 45 = .ok (.iconst (-1), 1) := by decide +kernel
theorem dX10_nextEnd_46 : decode cX10_nextEnd 46 = .ok (.ireturn, 1) := by decide +kernel
theorem dX10_nextEnd_36 : decode cX10_nextEnd 36 = .ok (.aload_n 3, 1) := by decide +kernel
theorem dX10_nextEnd_37 : decode cX10_nextEnd 37 = .ok (.iload 4, 2) := by decide +kernel
theorem dX10_nextEnd_39 : decode cX10_nextEnd 39 = .ok (.invokevirtual 231, 3) := by decide +kernel
theorem dX10_nextEnd_42 : decode cX10_nextEnd 42 = .ok (.goto 4, 3) := by decide +kernel
theorem dX10_outputs_0 : decode cX10_outputs 0 = .ok (.aload_n 0, 1) := by decide +kernel
theorem dX10_outputs_1 : decode cX10_outputs 1 = .ok (.iload_n 1, 1) := by decide +kernel
theorem dX10_outputs_2 : decode cX10_outputs 2 = .ok (.invokevirtual 234, 3) := by decide +kernel
theorem dX10_outputs_5 : decode cX10_outputs 5 = .ok (.getfield 157, 3) := by decide +kernel
theorem dX10_outputs_8 : decode cX10_outputs 8 = .ok (.getfield 237, 3) := by decide +kernel
theorem dX10_outputs_11 : decode cX10_outputs 11 = .ok (.ireturn, 1) := by decide +kernel
theorem dX10_committed_0 : decode cX10_committed 0 = .ok (.aload_n 0, 1) := by decide +kernel
theorem dX10_committed_1 : decode cX10_committed 1 = .ok (.iload_n 1, 1) := by decide +kernel
theorem dX10_committed_2 : decode cX10_committed 2 = .ok (.invokevirtual 234, 3) := by decide +kernel
theorem dX10_committed_5 : decode cX10_committed 5 = .ok (.getfield 240, 3) := by decide +kernel
theorem dX10_committed_8 : decode cX10_committed 8 = .ok (.getfield 237, 3) := by decide +kernel
theorem dX10_committed_11 : decode cX10_committed 11 = .ok (.ireturn, 1) := by decide +kernel
theorem dX10_complete_0 : decode cX10_complete 0 = .ok (.aload_n 0, 1) := by decide +kernel
theorem dX10_complete_1 : decode cX10_complete 1 = .ok (.getfield 12, 3) := by decide +kernel
theorem dX10_complete_4 : decode cX10_complete 4 = .ok (.getfield 257, 3) := by decide +kernel
theorem dX10_complete_7 : decode cX10_complete 7 = .ok (.ireturn, 1) := by decide +kernel
theorem dX10_begun_0 : decode cX10_begun 0 = .ok (.aload_n 0, 1) := by decide +kernel
theorem dX10_begun_1 : decode cX10_begun 1 = .ok (.getfield 12, 3) := by decide +kernel
theorem dX10_begun_4 : decode cX10_begun 4 = .ok (.getfield 145, 3) := by decide +kernel
theorem dX10_begun_7 : decode cX10_begun 7 = .ok (.ireturn, 1) := by decide +kernel
theorem dX10_crashes_0 : decode cX10_crashes 0 = .ok (.aload_n 0, 1) := by decide +kernel
theorem dX10_crashes_1 : decode cX10_crashes 1 = .ok (.getfield 151, 3) := by decide +kernel
theorem dX10_crashes_4 : decode cX10_crashes 4 = .ok (.ireturn, 1) := by decide +kernel
theorem dX10_worked_0 : decode cX10_worked 0 = .ok (.aload_n 0, 1) := by decide +kernel
theorem dX10_worked_1 : decode cX10_worked 1 = .ok (.getfield 139, 3) := by decide +kernel
theorem dX10_worked_4 : decode cX10_worked 4 = .ok (.ireturn, 1) := by decide +kernel
theorem dX10_inFlight_0 : decode cX10_inFlight 0 = .ok (.aload_n 0, 1) := by decide +kernel
theorem dX10_inFlight_1 : decode cX10_inFlight 1 = .ok (.getfield 12, 3) := by decide +kernel
theorem dX10_inFlight_4 : decode cX10_inFlight 4 = .ok (.invokevirtual 260, 3) := by decide +kernel
theorem dX10_inFlight_7 : decode cX10_inFlight 7 = .ok (.ireturn, 1) := by decide +kernel
theorem dX10_next_0 : decode cX10_next 0 = .ok (.aload_n 0, 1) := by decide +kernel
theorem dX10_next_1 : decode cX10_next 1 = .ok (.getfield 12, 3) := by decide +kernel
theorem dX10_next_4 : decode cX10_next 4 = .ok (.invokevirtual 133, 3) := by decide +kernel
theorem dX10_next_7 : decode cX10_next 7 = .ok (.ireturn, 1) := by decide +kernel
theorem dX10_meanQueue_0 : decode cX10_meanQueue 0 = .ok (.aload_n 0, 1) := by decide +kernel
theorem dX10_meanQueue_1 : decode cX10_meanQueue 1 = .ok (.getfield 12, 3) := by decide +kernel
theorem dX10_meanQueue_4 : decode cX10_meanQueue 4 = .ok (.invokevirtual 263, 3) := by decide +kernel
theorem dX10_meanQueue_7 : decode cX10_meanQueue 7 = .ok (.istore_n 1, 1) := by decide +kernel
theorem dX10_meanQueue_8 : decode cX10_meanQueue 8 = .ok (.iload_n 1, 1) := by decide +kernel
theorem dX10_meanQueue_9 : decode cX10_meanQueue 9 = .ok (.ifCond .ne 7, 3) := by decide +kernel
theorem dX10_meanQueue_12 : decode cX10_meanQueue 12 = .ok (.dconst 0, 1) := by decide +kernel
theorem dX10_meanQueue_13 : decode cX10_meanQueue 13 = .ok (.goto 14, 3) := by decide +kernel
theorem dX10_meanQueue_27 : decode cX10_meanQueue 27 = .ok (.dreturn, 1) := by decide +kernel
theorem dX10_meanQueue_16 : decode cX10_meanQueue 16 = .ok (.aload_n 0, 1) := by decide +kernel
theorem dX10_meanQueue_17 : decode cX10_meanQueue 17 = .ok (.getfield 12, 3) := by decide +kernel
theorem dX10_meanQueue_20 : decode cX10_meanQueue 20 = .ok (.invokevirtual 260, 3) := by decide +kernel
theorem dX10_meanQueue_23 : decode cX10_meanQueue 23 = .ok (.i2d, 1) := by decide +kernel
theorem dX10_meanQueue_24 : decode cX10_meanQueue 24 = .ok (.iload_n 1, 1) := by decide +kernel
theorem dX10_meanQueue_25 : decode cX10_meanQueue 25 = .ok (.i2d, 1) := by decide +kernel
theorem dX10_meanQueue_26 : decode cX10_meanQueue 26 = .ok (.ddiv, 1) := by decide +kernel
theorem dX10_wouldLose_0 : decode cX10_wouldLose 0 = .ok (.aload_n 0, 1) := by decide +kernel
theorem dX10_wouldLose_1 : decode cX10_wouldLose 1 = .ok (.iload_n 1, 1) := by decide +kernel
theorem dX10_wouldLose_2 : decode cX10_wouldLose 2 = .ok (.invokevirtual 234, 3) := by decide +kernel
theorem dX10_wouldLose_5 : decode cX10_wouldLose 5 = .ok (.astore_n 2, 1) := by decide +kernel
theorem dX10_wouldLose_6 : decode cX10_wouldLose 6 = .ok (.aload_n 2, 1) := by decide +kernel
theorem dX10_wouldLose_7 : decode cX10_wouldLose 7 = .ok (.getfield 157, 3) := by decide +kernel
theorem dX10_wouldLose_10 : decode cX10_wouldLose 10 = .ok (.getfield 237, 3) := by decide +kernel
theorem dX10_wouldLose_13 : decode cX10_wouldLose 13 = .ok (.aload_n 2, 1) := by decide +kernel
theorem dX10_wouldLose_14 : decode cX10_wouldLose 14 = .ok (.getfield 240, 3) := by decide +kernel
theorem dX10_wouldLose_17 : decode cX10_wouldLose 17 = .ok (.getfield 237, 3) := by decide +kernel
theorem dX10_wouldLose_20 : decode cX10_wouldLose 20 = .ok (.isub, 1) := by decide +kernel
theorem dX10_wouldLose_21 : decode cX10_wouldLose 21 = .ok (.ireturn, 1) := by decide +kernel
theorem dX10_wouldReplay_0 : decode cX10_wouldReplay 0 = .ok (.aload_n 0, 1) := by decide +kernel
theorem dX10_wouldReplay_1 : decode cX10_wouldReplay 1 = .ok (.iload_n 1, 1) := by decide +kernel
theorem dX10_wouldReplay_2 : decode cX10_wouldReplay 2 = .ok (.invokevirtual 97, 3) := by decide +kernel
theorem dX10_wouldReplay_5 : decode cX10_wouldReplay 5 = .ok (.astore_n 2, 1) := by decide +kernel
theorem dX10_wouldReplay_6 : decode cX10_wouldReplay 6 = .ok (.aload_n 2, 1) := by decide +kernel
theorem dX10_wouldReplay_7 : decode cX10_wouldReplay 7 = .ok (.getfield 157, 3) := by decide +kernel
theorem dX10_wouldReplay_10 : decode cX10_wouldReplay 10 = .ok (.getfield 166, 3) := by decide +kernel
theorem dX10_wouldReplay_13 : decode cX10_wouldReplay 13 = .ok (.aload_n 2, 1) := by decide +kernel
theorem dX10_wouldReplay_14 : decode cX10_wouldReplay 14 = .ok (.getfield 240, 3) := by decide +kernel
theorem dX10_wouldReplay_17 : decode cX10_wouldReplay 17 = .ok (.getfield 166, 3) := by decide +kernel
theorem dX10_wouldReplay_20 : decode cX10_wouldReplay 20 = .ok (.isub, 1) := by decide +kernel
theorem dX10_wouldReplay_21 : decode cX10_wouldReplay 21 = .ok (.ireturn, 1) := by decide +kernel
theorem dX10_outputAt_0 : decode cX10_outputAt 0 = .ok (.aload_n 0, 1) := by decide +kernel
theorem dX10_outputAt_1 : decode cX10_outputAt 1 = .ok (.iload_n 1, 1) := by decide +kernel
theorem dX10_outputAt_2 : decode cX10_outputAt 2 = .ok (.invokevirtual 234, 3) := by decide +kernel
theorem dX10_outputAt_5 : decode cX10_outputAt 5 = .ok (.astore_n 3, 1) := by decide +kernel
theorem dX10_outputAt_6 : decode cX10_outputAt 6 = .ok (.iload_n 2, 1) := by decide +kernel
theorem dX10_outputAt_7 : decode cX10_outputAt 7 = .ok (.ifCond .lt 18, 3) := by decide +kernel
theorem dX10_outputAt_10 : decode cX10_outputAt 10 = .ok (.iload_n 2, 1) := by decide +kernel
theorem dX10_outputAt_11 : decode cX10_outputAt 11 = .ok (.aload_n 3, 1) := by decide +kernel
theorem dX10_outputAt_12 : decode cX10_outputAt 12 = .ok (.getfield 157, 3) := by decide +kernel
theorem dX10_outputAt_15 : decode cX10_outputAt 15 = .ok (.getfield 237, 3) := by decide +kernel
theorem dX10_outputAt_18 : decode cX10_outputAt 18 = .ok (.if_icmp .ge 7, 3) := by decide +kernel
theorem dX10_outputAt_21 : decode cX10_outputAt 21 = .ok (.iconst 1, 1) := by decide +kernel
theorem dX10_outputAt_22 : decode cX10_outputAt 22 = .ok (.goto 4, 3) := by decide +kernel
theorem dX10_outputAt_26 : decode cX10_outputAt 26 = .ok (.invokestatic 25, 3) := by decide +kernel
theorem dX10_outputAt_29 : decode cX10_outputAt 29 = .ok (.aload_n 3, 1) := by decide +kernel
theorem dX10_outputAt_30 : decode cX10_outputAt 30 = .ok (.getfield 360, 3) := by decide +kernel
theorem dX10_outputAt_33 : decode cX10_outputAt 33 = .ok (.iload_n 2, 1) := by decide +kernel
theorem dX10_outputAt_34 : decode cX10_outputAt 34 = .ok (.invokevirtual 363, 3) := by decide +kernel
theorem dX10_outputAt_37 : decode cX10_outputAt 37 = .ok (.lreturn, 1) := by decide +kernel
theorem iX10 : ∀ w ∈ u_ws RX10 TX10 5, w ∈ lw_all := by
  intro w hw
  have h : w ∈ [(Jvm.Cond.laysFinal "WeirStream" "WeirStream" "live" "LWeirStream$Flow;"), (Jvm.Cond.laysFinal "WeirStream" "WeirStream" "trial" "LWeirStream$Flow;"), (Jvm.Cond.lays "WeirStream" "WeirStream" "hasStarted" "Z"), (Jvm.Cond.lays "WeirStream" "WeirStream" "crashCount" "I"), (Jvm.Cond.lays "WeirStream" "WeirStream" "workedCount" "I")] := hw
  simp only [List.mem_cons, List.not_mem_nil, or_false] at h
  rcases h with rfl | rfl | rfl | rfl | rfl
  · exact wq100
  · exact wq102
  · exact wq104
  · exact wq106
  · exact wq108
theorem dfX10 : ∀ j, j < 5 → defaultValue (tyX10 j) = vp_V [.null, .null, .int 0, .int 0, .int 0] j := by
  intro j hj
  rcases (show j = 0 ∨ j = 1 ∨ j = 2 ∨ j = 3 ∨ j = 4 by omega) with rfl | rfl | rfl | rfl | rfl <;> rfl
end
section
def r_X2_waiting (S : TS) (F : TF) (G : TG) (q : TQ) (fl : Nat) : Nat → Nat → Int32 → Int32
  | 0, _, v => v
  | n + 1, i, v => r_X2_waiting S F G q fl n (i + 1) ((v + (if (zp S 0 i).isSome = true then v_X1_length S F G q 4 fl i else 0)) + (if (zp S 1 i).isSome = true then v_X1_length S F G q 5 fl i else 0))
set_option maxHeartbeats 4000000 in
set_option maxRecDepth 100000 in
theorem lp_X2_waiting {p : Program} {l : Launch} {e : Env} {s : State} {m : MethodId} {args : Array Value} {below : List Frame} {meth : Method} {c : Code} {D : va_G} {yc : Nat → ClassId} {e0 : Nat} {A : Nat → Prop} {S : TS} {Z : Nat × Nat} {F : TF} {G : TG} {q : TQ} (fl : Nat) (hf : fl < 2) (hx : p.tables.exec = Jvm.exec) (hb : c.code = cX2_waiting) (hml : c.maxLocals = 4) (hr : meth.sig.returnType = (some .int)) (hlk : meth.locks = false) (hown : s.vm.findClass yX2_waiting.cls = some m.cls) (hts : ∀ w ∈ lw_all, w.before args s = true) (hW : WT D yc e0 A S Z F G q s.heap) (hS : va_S A s.heap s.heap []) (hA : ∀ a, s.heap.size ≤ a → A a) (hC : CX D yc e0 A s) : ∀ (n : Nat) (i : Nat) (v : Int32) (ls : Array Slot), i + n = zn S → lv_has ls 4 [(2, .int (nI i)), (1, .int v), (0, .ref (zg S 6 fl 0))] → W p l e ({ frames := 3, cells := 0, slots := 0, locals := 64 }) s m args below meth c s.heap [] 0 0 (MQ below (zQ (some (.int (r_X2_waiting S F G q fl n i v)))) args s 0 0 zno) (F0 m 4 ls []) := by
  have hK := hC.1
  have hN := hC.2.1
  have hn12 := hW.n12
  intro n
  induction n with
  | zero =>
    intro i v ls hinv hl
    refine lv_iload_n hx hb dX2_waiting_4 rfl (lv_at hl 0 rfl) ?_
    refine lv_aload_n hx hb dX2_waiting_5 rfl (lv_at hl 2 rfl) ?_
    refine t_get (D := D) (ci := 2) (v := .ref (zl S 0 fl 0)) (C := RX2) (T := TX2) (N := 8) hx hb hts iX2 hown hK hW 6 fl 0 (dm6 (by omega)) rfl rfl 1 (by decide) (hts _ wq68) (fun _ h9 => h9) rfl dX2_waiting_6 ?_
    refine zr_i (va_runV (As := []) (rest := [.int (nI i)]) ⟨hx, hb, hml, hown, hts⟩ (k_AL_size l D yc e0 A S Z F G q 0 fl 0 (dl0 (by omega))) (cwV 0 hts (lw_V wq119 wq120 wq121 wq5 wq122) rfl rfl rfl (by decide +kernel) ⟨(Nat.le_of_ble_eq_true rfl), (Nat.le_of_ble_eq_true rfl)⟩) (tp_L hC hW hS hA 0 fl 0 (dl0 (by omega))) rfl rfl hl.1 rfl (lv_room (Nat.le_of_ble_eq_true rfl)) dX2_waiting_9 ⟨(Nat.le_of_ble_eq_true rfl), (Nat.le_of_ble_eq_true rfl)⟩) ?_
    refine zk_ti (y := nI (zn S)) rfl ?_
    refine lv_icmp_ge (tgt := 75) hx hb dX2_waiting_12 (by decide) (fun _ => ?_) (fun h9 => absurd (nI_le (by omega) (by omega)) h9)
    refine lv_iload_n hx hb dX2_waiting_75 rfl (lv_at hl 1 rfl) ?_
    exact ze_i hx hb hr hlk rfl (by rfl) dX2_waiting_76
  | succ n ih =>
    intro i v ls hinv hl
    refine lv_iload_n hx hb dX2_waiting_4 rfl (lv_at hl 0 rfl) ?_
    refine lv_aload_n hx hb dX2_waiting_5 rfl (lv_at hl 2 rfl) ?_
    refine t_get (D := D) (ci := 2) (v := .ref (zl S 0 fl 0)) (C := RX2) (T := TX2) (N := 8) hx hb hts iX2 hown hK hW 6 fl 0 (dm6 (by omega)) rfl rfl 1 (by decide) (hts _ wq68) (fun _ h9 => h9) rfl dX2_waiting_6 ?_
    refine zr_i (va_runV (As := []) (rest := [.int (nI i)]) ⟨hx, hb, hml, hown, hts⟩ (k_AL_size l D yc e0 A S Z F G q 0 fl 0 (dl0 (by omega))) (cwV 0 hts (lw_V wq119 wq120 wq121 wq5 wq122) rfl rfl rfl (by decide +kernel) ⟨(Nat.le_of_ble_eq_true rfl), (Nat.le_of_ble_eq_true rfl)⟩) (tp_L hC hW hS hA 0 fl 0 (dl0 (by omega))) rfl rfl hl.1 rfl (lv_room (Nat.le_of_ble_eq_true rfl)) dX2_waiting_9 ⟨(Nat.le_of_ble_eq_true rfl), (Nat.le_of_ble_eq_true rfl)⟩) ?_
    refine zk_ti (y := nI (zn S)) rfl ?_
    refine lv_icmp_ge (tgt := 75) hx hb dX2_waiting_12 (by decide) (fun h9 => absurd h9 (nI_ge (by omega) (by omega))) (fun _ => ?_)
    refine lv_aload_n hx hb dX2_waiting_15 rfl (lv_at hl 2 rfl) ?_
    refine t_get (D := D) (ci := 2) (v := .ref (zl S 0 fl 0)) (C := RX2) (T := TX2) (N := 8) hx hb hts iX2 hown hK hW 6 fl 0 (dm6 (by omega)) rfl rfl 1 (by decide) (hts _ wq68) (fun _ h9 => h9) rfl dX2_waiting_16 ?_
    refine lv_iload_n hx hb dX2_waiting_19 rfl (lv_at hl 0 rfl) ?_
    refine zr_q (va_runV (As := [.int (nI i)]) (rest := []) ⟨hx, hb, hml, hown, hts⟩ (k_AL_get l D yc e0 A S Z F G q 0 fl 0 i (dl0 (by omega)) (show i < zn S by omega)) (cwV 1 hts (lw_V wq227 wq228 wq229 wq5 wq230) rfl rfl rfl (by decide +kernel) ⟨(Nat.le_of_ble_eq_true rfl), (Nat.le_of_ble_eq_true rfl)⟩) (tp_L hC hW hS hA 0 fl 0 (dl0 (by omega))) rfl rfl hl.1 rfl (lv_room (Nat.le_of_ble_eq_true rfl)) dX2_waiting_20 ⟨(Nat.le_of_ble_eq_true rfl), (Nat.le_of_ble_eq_true rfl)⟩) ?_
    refine zk_tv (y := .ref (zg S 2 fl i)) rfl ?_
    refine va_castS hx hb hown (hts _ wq241) (hK.1 7 _ rfl).2 (t_cell hK hW 2 fl i (dm2 (by omega) (by omega)) rfl rfl) dX2_waiting_23 ?_
    refine lv_astore_n (lv' := [(3, .ref (zg S 2 fl i)), (2, .int (nI i)), (1, .int v), (0, .ref (zg S 6 fl 0))]) hx hb dX2_waiting_26 rfl hl (by decide) rfl (fun ls hl => ?_)
    refine lv_iload_n hx hb dX2_waiting_27 rfl (lv_at hl 2 rfl) ?_
    refine lv_aload_n hx hb dX2_waiting_28 rfl (lv_at hl 0 rfl) ?_
    refine t_getN (D := D) (ci := 7) (v := zch S 0 fl i) (C := RX8) (T := TX8) (N := 12) hx hb hts iX8 hown hK hW 2 fl i (dm2 (by omega) (by omega)) rfl rfl 2 (by decide) (zk_tab rfl (hN _ wr1109 rfl)) (fun _ h9 => h9) rfl dX2_waiting_29 ?_
    by_cases ho1 : (zp S 0 i).isSome = true
    · refine zk_tv (y := .ref (zg S 4 fl i)) (by show zch S 0 fl i = _; unfold zch; rw [if_pos ho1]) ?_
      refine lv_ifnonnull (tgt := 39) hx hb dX2_waiting_32 (by decide) ?_
      refine lv_aload_n hx hb dX2_waiting_39 rfl (lv_at hl 0 rfl) ?_
      refine t_getN (D := D) (ci := 7) (v := zch S 0 fl i) (C := RX8) (T := TX8) (N := 12) hx hb hts iX8 hown hK hW 2 fl i (dm2 (by omega) (by omega)) rfl rfl 2 (by decide) (zk_tab rfl (hN _ wr1109 rfl)) (fun _ h9 => h9) rfl dX2_waiting_40 ?_
      refine zk_tv (y := .ref (zg S 4 fl i)) (by show zch S 0 fl i = _; unfold zch; rw [if_pos ho1]) ?_
      refine zr_i (va_runV (As := []) (rest := [.int v]) ⟨hx, hb, hml, hown, hts⟩ (k_X1_length l D yc e0 A S Z F G q 4 fl i (Or.inl rfl) (dm4 (by omega) (by omega) (by assumption))) (cwV 0 hts (lw_V wq682 wq309 wq310 wq17 wq311) rfl rfl rfl (by decide +kernel) ⟨(Nat.le_of_ble_eq_true rfl), (Nat.le_of_ble_eq_true rfl)⟩) (tp_V hC hW hS hA 4 fl i (dm4 (by omega) (by omega) (by assumption)) (cel_ch (Or.inl rfl)) rfl) rfl rfl hl.1 rfl (lv_room (Nat.le_of_ble_eq_true rfl)) dX2_waiting_43 ⟨(Nat.le_of_ble_eq_true rfl), (Nat.le_of_ble_eq_true rfl)⟩) ?_
      refine lv_iadd hx hb dX2_waiting_46 ?_
      refine lv_istore_n (lv' := [(1, .int (v + (v_X1_length S F G q 4 fl i))), (3, .ref (zg S 2 fl i)), (2, .int (nI i)), (0, .ref (zg S 6 fl 0))]) hx hb dX2_waiting_47 rfl hl (by decide) rfl (fun ls hl => ?_)
      refine lv_iload_n hx hb dX2_waiting_48 rfl (lv_at hl 0 rfl) ?_
      refine lv_aload_n hx hb dX2_waiting_49 rfl (lv_at hl 1 rfl) ?_
      refine t_getN (D := D) (ci := 7) (v := zch S 1 fl i) (C := RX8) (T := TX8) (N := 12) hx hb hts iX8 hown hK hW 2 fl i (dm2 (by omega) (by omega)) rfl rfl 3 (by decide) (zk_tab rfl (hN _ wr1111 rfl)) (fun _ h9 => h9) rfl dX2_waiting_50 ?_
      by_cases ho2 : (zp S 1 i).isSome = true
      · refine zk_tv (y := .ref (zg S 5 fl i)) (by show zch S 1 fl i = _; unfold zch; rw [if_pos ho2]) ?_
        refine lv_ifnonnull (tgt := 60) hx hb dX2_waiting_53 (by decide) ?_
        refine lv_aload_n hx hb dX2_waiting_60 rfl (lv_at hl 1 rfl) ?_
        refine t_getN (D := D) (ci := 7) (v := zch S 1 fl i) (C := RX8) (T := TX8) (N := 12) hx hb hts iX8 hown hK hW 2 fl i (dm2 (by omega) (by omega)) rfl rfl 3 (by decide) (zk_tab rfl (hN _ wr1111 rfl)) (fun _ h9 => h9) rfl dX2_waiting_61 ?_
        refine zk_tv (y := .ref (zg S 5 fl i)) (by show zch S 1 fl i = _; unfold zch; rw [if_pos ho2]) ?_
        refine zr_i (va_runV (As := []) (rest := [.int (v + (v_X1_length S F G q 4 fl i))]) ⟨hx, hb, hml, hown, hts⟩ (k_X1_length l D yc e0 A S Z F G q 5 fl i (Or.inr rfl) (dm5 (by omega) (by omega) (by assumption))) (cwV 0 hts (lw_V wq682 wq309 wq310 wq17 wq311) rfl rfl rfl (by decide +kernel) ⟨(Nat.le_of_ble_eq_true rfl), (Nat.le_of_ble_eq_true rfl)⟩) (tp_V hC hW hS hA 5 fl i (dm5 (by omega) (by omega) (by assumption)) (cel_ch (Or.inr rfl)) rfl) rfl rfl hl.1 rfl (lv_room (Nat.le_of_ble_eq_true rfl)) dX2_waiting_64 ⟨(Nat.le_of_ble_eq_true rfl), (Nat.le_of_ble_eq_true rfl)⟩) ?_
        refine lv_iadd hx hb dX2_waiting_67 ?_
        refine lv_istore_n (lv' := [(1, .int ((v + (v_X1_length S F G q 4 fl i)) + (v_X1_length S F G q 5 fl i))), (3, .ref (zg S 2 fl i)), (2, .int (nI i)), (0, .ref (zg S 6 fl 0))]) hx hb dX2_waiting_68 rfl hl (by decide) rfl (fun ls hl => ?_)
        refine lv_iinc (v := nI (i + 1)) (lv' := [(2, .int (nI (i + 1))), (1, .int ((v + (v_X1_length S F G q 4 fl i)) + (v_X1_length S F G q 5 fl i))), (3, .ref (zg S 2 fl i)), (0, .ref (zg S 6 fl 0))]) hx hb dX2_waiting_69 hl (k := 2) rfl (nI_1 _) (by decide) rfl (fun ls hl => ?_)
        refine lv_goto (tgt := 4) hx hb dX2_waiting_72 (by decide) ?_
        have e9 : r_X2_waiting S F G q fl (n + 1) i v = r_X2_waiting S F G q fl n (i + 1) ((v + (v_X1_length S F G q 4 fl i)) + (v_X1_length S F G q 5 fl i)) := by simp only [r_X2_waiting]; rw [if_pos ho1, if_pos ho2]
        rw [e9]
        exact ih (i + 1) ((v + (v_X1_length S F G q 4 fl i)) + (v_X1_length S F G q 5 fl i)) _ (by omega) (lv_sub hl [0, 1, 3] rfl)
      · refine zk_tv (y := .null) (by show zch S 1 fl i = _; unfold zch; rw [if_neg ho2]) ?_
        refine lv_ifnonnullN hx hb dX2_waiting_53 ?_
        refine lv_iconst (v := 0) hx hb dX2_waiting_56 (by decide) ?_
        refine lv_goto (tgt := 67) hx hb dX2_waiting_57 (by decide) ?_
        refine lv_iadd hx hb dX2_waiting_67 ?_
        refine lv_istore_n (lv' := [(1, .int ((v + (v_X1_length S F G q 4 fl i)) + 0)), (3, .ref (zg S 2 fl i)), (2, .int (nI i)), (0, .ref (zg S 6 fl 0))]) hx hb dX2_waiting_68 rfl hl (by decide) rfl (fun ls hl => ?_)
        refine lv_iinc (v := nI (i + 1)) (lv' := [(2, .int (nI (i + 1))), (1, .int ((v + (v_X1_length S F G q 4 fl i)) + 0)), (3, .ref (zg S 2 fl i)), (0, .ref (zg S 6 fl 0))]) hx hb dX2_waiting_69 hl (k := 2) rfl (nI_1 _) (by decide) rfl (fun ls hl => ?_)
        refine lv_goto (tgt := 4) hx hb dX2_waiting_72 (by decide) ?_
        have e9 : r_X2_waiting S F G q fl (n + 1) i v = r_X2_waiting S F G q fl n (i + 1) ((v + (v_X1_length S F G q 4 fl i)) + 0) := by simp only [r_X2_waiting]; rw [if_pos ho1, if_neg ho2]
        rw [e9]
        exact ih (i + 1) ((v + (v_X1_length S F G q 4 fl i)) + 0) _ (by omega) (lv_sub hl [0, 1, 3] rfl)
    · refine zk_tv (y := .null) (by show zch S 0 fl i = _; unfold zch; rw [if_neg ho1]) ?_
      refine lv_ifnonnullN hx hb dX2_waiting_32 ?_
      refine lv_iconst (v := 0) hx hb dX2_waiting_35 (by decide) ?_
      refine lv_goto (tgt := 46) hx hb dX2_waiting_36 (by decide) ?_
      refine lv_iadd hx hb dX2_waiting_46 ?_
      refine lv_istore_n (lv' := [(1, .int (v + 0)), (3, .ref (zg S 2 fl i)), (2, .int (nI i)), (0, .ref (zg S 6 fl 0))]) hx hb dX2_waiting_47 rfl hl (by decide) rfl (fun ls hl => ?_)
      refine lv_iload_n hx hb dX2_waiting_48 rfl (lv_at hl 0 rfl) ?_
      refine lv_aload_n hx hb dX2_waiting_49 rfl (lv_at hl 1 rfl) ?_
      refine t_getN (D := D) (ci := 7) (v := zch S 1 fl i) (C := RX8) (T := TX8) (N := 12) hx hb hts iX8 hown hK hW 2 fl i (dm2 (by omega) (by omega)) rfl rfl 3 (by decide) (zk_tab rfl (hN _ wr1111 rfl)) (fun _ h9 => h9) rfl dX2_waiting_50 ?_
      by_cases ho3 : (zp S 1 i).isSome = true
      · refine zk_tv (y := .ref (zg S 5 fl i)) (by show zch S 1 fl i = _; unfold zch; rw [if_pos ho3]) ?_
        refine lv_ifnonnull (tgt := 60) hx hb dX2_waiting_53 (by decide) ?_
        refine lv_aload_n hx hb dX2_waiting_60 rfl (lv_at hl 1 rfl) ?_
        refine t_getN (D := D) (ci := 7) (v := zch S 1 fl i) (C := RX8) (T := TX8) (N := 12) hx hb hts iX8 hown hK hW 2 fl i (dm2 (by omega) (by omega)) rfl rfl 3 (by decide) (zk_tab rfl (hN _ wr1111 rfl)) (fun _ h9 => h9) rfl dX2_waiting_61 ?_
        refine zk_tv (y := .ref (zg S 5 fl i)) (by show zch S 1 fl i = _; unfold zch; rw [if_pos ho3]) ?_
        refine zr_i (va_runV (As := []) (rest := [.int (v + 0)]) ⟨hx, hb, hml, hown, hts⟩ (k_X1_length l D yc e0 A S Z F G q 5 fl i (Or.inr rfl) (dm5 (by omega) (by omega) (by assumption))) (cwV 0 hts (lw_V wq682 wq309 wq310 wq17 wq311) rfl rfl rfl (by decide +kernel) ⟨(Nat.le_of_ble_eq_true rfl), (Nat.le_of_ble_eq_true rfl)⟩) (tp_V hC hW hS hA 5 fl i (dm5 (by omega) (by omega) (by assumption)) (cel_ch (Or.inr rfl)) rfl) rfl rfl hl.1 rfl (lv_room (Nat.le_of_ble_eq_true rfl)) dX2_waiting_64 ⟨(Nat.le_of_ble_eq_true rfl), (Nat.le_of_ble_eq_true rfl)⟩) ?_
        refine lv_iadd hx hb dX2_waiting_67 ?_
        refine lv_istore_n (lv' := [(1, .int ((v + 0) + (v_X1_length S F G q 5 fl i))), (3, .ref (zg S 2 fl i)), (2, .int (nI i)), (0, .ref (zg S 6 fl 0))]) hx hb dX2_waiting_68 rfl hl (by decide) rfl (fun ls hl => ?_)
        refine lv_iinc (v := nI (i + 1)) (lv' := [(2, .int (nI (i + 1))), (1, .int ((v + 0) + (v_X1_length S F G q 5 fl i))), (3, .ref (zg S 2 fl i)), (0, .ref (zg S 6 fl 0))]) hx hb dX2_waiting_69 hl (k := 2) rfl (nI_1 _) (by decide) rfl (fun ls hl => ?_)
        refine lv_goto (tgt := 4) hx hb dX2_waiting_72 (by decide) ?_
        have e9 : r_X2_waiting S F G q fl (n + 1) i v = r_X2_waiting S F G q fl n (i + 1) ((v + 0) + (v_X1_length S F G q 5 fl i)) := by simp only [r_X2_waiting]; rw [if_neg ho1, if_pos ho3]
        rw [e9]
        exact ih (i + 1) ((v + 0) + (v_X1_length S F G q 5 fl i)) _ (by omega) (lv_sub hl [0, 1, 3] rfl)
      · refine zk_tv (y := .null) (by show zch S 1 fl i = _; unfold zch; rw [if_neg ho3]) ?_
        refine lv_ifnonnullN hx hb dX2_waiting_53 ?_
        refine lv_iconst (v := 0) hx hb dX2_waiting_56 (by decide) ?_
        refine lv_goto (tgt := 67) hx hb dX2_waiting_57 (by decide) ?_
        refine lv_iadd hx hb dX2_waiting_67 ?_
        refine lv_istore_n (lv' := [(1, .int ((v + 0) + 0)), (3, .ref (zg S 2 fl i)), (2, .int (nI i)), (0, .ref (zg S 6 fl 0))]) hx hb dX2_waiting_68 rfl hl (by decide) rfl (fun ls hl => ?_)
        refine lv_iinc (v := nI (i + 1)) (lv' := [(2, .int (nI (i + 1))), (1, .int ((v + 0) + 0)), (3, .ref (zg S 2 fl i)), (0, .ref (zg S 6 fl 0))]) hx hb dX2_waiting_69 hl (k := 2) rfl (nI_1 _) (by decide) rfl (fun ls hl => ?_)
        refine lv_goto (tgt := 4) hx hb dX2_waiting_72 (by decide) ?_
        have e9 : r_X2_waiting S F G q fl (n + 1) i v = r_X2_waiting S F G q fl n (i + 1) ((v + 0) + 0) := by simp only [r_X2_waiting]; rw [if_neg ho1, if_neg ho3]
        rw [e9]
        exact ih (i + 1) ((v + 0) + 0) _ (by omega) (lv_sub hl [0, 1, 3] rfl)
def v_X2_waiting (S : TS) (F : TF) (G : TG) (q : TQ) (fl : Nat) : Int32 := r_X2_waiting S F G q fl (zn S) 0 0
set_option maxHeartbeats 4000000 in
set_option maxRecDepth 100000 in
theorem k_X2_waiting (l : Launch) (D : va_G) (yc : Nat → ClassId) (e0 : Nat) (A : Nat → Prop) (S : TS) (Z : Nat × Nat) (F : TF) (G : TG) (q : TQ) (fl : Nat) (hf : fl < 2) : Met l yX2_waiting (ws_ yX2_waiting cX2_waiting 4 (some .int)) ({ frames := 3, cells := 0, slots := 0, locals := 64 }) (PT D yc e0 A S Z F G q [.ref (zg S 6 fl 0)]) (zQ (some (.int (v_X2_waiting S F G q fl)))) 0 0 zno := by
  refine tk_M (by decide) (Nat.le_of_ble_eq_true rfl) ?_
  intro p e s m args below meth c ls hx hb hml hr hlk hown hts hW hS hA hC hl
  have hK := hC.1
  have hN := hC.2.1
  have hn12 := hW.n12
  have hl : lv_has ls 4 [(0, .ref (zg S 6 fl 0))] := hl
  refine lv_iconst (v := 0) hx hb dX2_waiting_0 (by decide) ?_
  refine lv_istore_n (lv' := [(1, .int 0), (0, .ref (zg S 6 fl 0))]) hx hb dX2_waiting_1 rfl hl (by decide) rfl (fun ls hl => ?_)
  refine lv_iconst (v := 0) hx hb dX2_waiting_2 (by decide) ?_
  refine lv_istore_n (lv' := [(2, .int 0), (1, .int 0), (0, .ref (zg S 6 fl 0))]) hx hb dX2_waiting_3 rfl hl (by decide) rfl (fun ls hl => ?_)
  exact lp_X2_waiting fl hf hx hb hml hr hlk hown hts hW hS hA hC (zn S) 0 0 _ (by omega) (lv_sub hl [0, 1, 2] rfl)
def r_X2_nextToWork (S : TS) (F : TF) (G : TG) (q : TQ) (fl : Nat) (w : Nat) : Nat → Nat → Int32
  | 0, _ => -1
  | n + 1, j => if (nI (zn S)) ≤ (nI (w + j)) then (if v_X8_canWork S F G q fl (w + j - zn S) (F 6 fl 0 2) = 0 then r_X2_nextToWork S F G q fl w n (j + 1) else nI (w + j - zn S)) else if v_X8_canWork S F G q fl (w + j) (F 6 fl 0 2) = 0 then r_X2_nextToWork S F G q fl w n (j + 1) else nI (w + j)
set_option maxHeartbeats 4000000 in
set_option maxRecDepth 100000 in
theorem lp_X2_nextToWork {p : Program} {l : Launch} {e : Env} {s : State} {m : MethodId} {args : Array Value} {below : List Frame} {meth : Method} {c : Code} {D : va_G} {yc : Nat → ClassId} {e0 : Nat} {A : Nat → Prop} {S : TS} {Z : Nat × Nat} {F : TF} {G : TG} {q : TQ} (fl : Nat) (w : Nat) (hf : fl < 2) (hw : F 6 fl 0 3 = nI w - 1) (hwn : w ≤ zn S) (hx : p.tables.exec = Jvm.exec) (hb : c.code = cX2_nextToWork) (hml : c.maxLocals = 5) (hr : meth.sig.returnType = (some .int)) (hlk : meth.locks = false) (hown : s.vm.findClass yX2_nextToWork.cls = some m.cls) (hts : ∀ w ∈ lw_all, w.before args s = true) (hW : WT D yc e0 A S Z F G q s.heap) (hS : va_S A s.heap s.heap []) (hA : ∀ a, s.heap.size ≤ a → A a) (hC : CX D yc e0 A s) : ∀ (n : Nat) (j : Nat) (ls : Array Slot), j + n = zn S → lv_has ls 5 [(2, .int (nI (j + 1))), (1, .int (nI (zn S))), (0, .ref (zg S 6 fl 0))] → W p l e ({ frames := 6, cells := 0, slots := 0, locals := 128 }) s m args below meth c s.heap [] 0 0 (MQ below (zQ (some (.int (r_X2_nextToWork S F G q fl w n j)))) args s 0 0 zno) (F0 m 10 ls []) := by
  have hK := hC.1
  have hN := hC.2.1
  have hn12 := hW.n12
  intro n
  induction n with
  | zero =>
    intro j ls hinv hl
    refine lv_iload_n hx hb dX2_nextToWork_10 rfl (lv_at hl 0 rfl) ?_
    refine lv_iload_n hx hb dX2_nextToWork_11 rfl (lv_at hl 1 rfl) ?_
    refine lv_icmp_gt (tgt := 76) hx hb dX2_nextToWork_12 (by decide) (fun _ => ?_) (fun h9 => absurd (nI_lt (by omega) (by omega)) h9)
    refine lv_iconst (v := (-1)) hx hb dX2_nextToWork_76 (by decide) ?_
    exact ze_i hx hb hr hlk rfl (by rfl) dX2_nextToWork_77
  | succ n ih =>
    intro j ls hinv hl
    refine lv_iload_n hx hb dX2_nextToWork_10 rfl (lv_at hl 0 rfl) ?_
    refine lv_iload_n hx hb dX2_nextToWork_11 rfl (lv_at hl 1 rfl) ?_
    refine lv_icmp_gt (tgt := 76) hx hb dX2_nextToWork_12 (by decide) (fun h9 => absurd h9 (nI_nlt (by omega) (by omega))) (fun _ => ?_)
    refine lv_aload_n hx hb dX2_nextToWork_15 rfl (lv_at hl 2 rfl) ?_
    refine t_get (D := D) (ci := 2) (v := .int (F 6 fl 0 3)) (C := RX2) (T := TX2) (N := 8) hx hb hts iX2 hown hK hW 6 fl 0 (dm6 (by omega)) rfl rfl 3 (by decide) (hts _ wq71) (fun _ h9 => h9) rfl dX2_nextToWork_16 ?_
    refine lv_iload_n hx hb dX2_nextToWork_19 rfl (lv_at hl 0 rfl) ?_
    refine lv_iadd hx hb dX2_nextToWork_20 ?_
    refine zk_ti (y := nI (w + j)) (by rw [hw]; exact zadd1 w j) ?_
    refine lv_istore_n (lv' := [(3, .int (nI (w + j))), (2, .int (nI (j + 1))), (1, .int (nI (zn S))), (0, .ref (zg S 6 fl 0))]) hx hb dX2_nextToWork_21 rfl hl (by decide) rfl (fun ls hl => ?_)
    refine lv_aload_n hx hb dX2_nextToWork_22 rfl (lv_at hl 3 rfl) ?_
    refine lv_iload_n hx hb dX2_nextToWork_23 rfl (lv_at hl 0 rfl) ?_
    refine lv_iload_n hx hb dX2_nextToWork_24 rfl (lv_at hl 2 rfl) ?_
    refine lv_icmp_ge (tgt := 32) hx hb dX2_nextToWork_25 (by decide) (fun hb1 => ?_) (fun hb1 => ?_)
    · have hb1n : (zn S) ≤ (w + j) := (nI_leI (by omega) (by omega)).mp hb1
      refine lv_iload_n hx hb dX2_nextToWork_32 rfl (lv_at hl 0 rfl) ?_
      refine lv_iload_n hx hb dX2_nextToWork_33 rfl (lv_at hl 2 rfl) ?_
      refine lv_isub hx hb dX2_nextToWork_34 ?_
      refine zk_ti (y := nI (w + j - zn S)) (pk_sub (by omega)) ?_
      refine zr_q (va_runV (As := [.int (nI (w + j - zn S))]) (rest := []) ⟨hx, hb, hml, hown, hts⟩ (k_X2_at l D yc e0 A S Z F G q fl (w + j - zn S) (by first | assumption | omega | decide) (by first | assumption | omega | decide)) (cwV 1 hts (lw_V wq281 wq224 wq225 wq2 wq226) rfl rfl rfl (by decide +kernel) ⟨(Nat.le_of_ble_eq_true rfl), (Nat.le_of_ble_eq_true rfl)⟩) (tp_V hC hW hS hA 6 fl 0 (dm6 (by omega)) rfl rfl) rfl rfl hl.1 rfl (lv_room (Nat.le_of_ble_eq_true rfl)) dX2_nextToWork_35 ⟨(Nat.le_of_ble_eq_true rfl), (Nat.le_of_ble_eq_true rfl)⟩) ?_
      refine lv_astore (lv' := [(4, .ref (zg S 2 fl (w + j - zn S))), (3, .int (nI (w + j))), (2, .int (nI (j + 1))), (1, .int (nI (zn S))), (0, .ref (zg S 6 fl 0))]) hx hb dX2_nextToWork_38 hl (by decide) rfl (fun ls hl => ?_)
      refine lv_aload hx hb dX2_nextToWork_40 (lv_at hl 0 rfl) ?_
      refine lv_ifnull hx hb dX2_nextToWork_42 ?_
      refine lv_aload hx hb dX2_nextToWork_45 (lv_at hl 0 rfl) ?_
      refine lv_aload_n hx hb dX2_nextToWork_47 rfl (lv_at hl 4 rfl) ?_
      refine t_get (D := D) (ci := 2) (v := .int (F 6 fl 0 2)) (C := RX2) (T := TX2) (N := 8) hx hb hts iX2 hown hK hW 6 fl 0 (dm6 (by omega)) rfl rfl 2 (by decide) (hts _ wq69) (fun _ h9 => h9) rfl dX2_nextToWork_48 ?_
      refine zr_i (va_runV (As := [.int (F 6 fl 0 2)]) (rest := []) ⟨hx, hb, hml, hown, hts⟩ (k_X8_canWork l D yc e0 A S Z F G q fl (w + j - zn S) (F 6 fl 0 2) (by first | assumption | omega | decide) (by first | assumption | omega | decide)) (cwV 1 hts (lw_V wq282 wq283 wq284 wq16 wq285) rfl rfl rfl (by decide +kernel) ⟨(Nat.le_of_ble_eq_true rfl), (Nat.le_of_ble_eq_true rfl)⟩) (tp_V hC hW hS hA 2 fl (w + j - zn S) (dm2 (by omega) (by omega)) rfl rfl) rfl rfl hl.1 rfl (lv_room (Nat.le_of_ble_eq_true rfl)) dX2_nextToWork_51 ⟨(Nat.le_of_ble_eq_true rfl), (Nat.le_of_ble_eq_true rfl)⟩) ?_
      refine lv_if_eq (tgt := 70) hx hb dX2_nextToWork_54 (by decide) (fun hb2 => ?_) (fun hb2 => ?_)
      · refine lv_iinc (v := nI ((j + 1) + 1)) (lv' := [(2, .int (nI ((j + 1) + 1))), (4, .ref (zg S 2 fl (w + j - zn S))), (3, .int (nI (w + j))), (1, .int (nI (zn S))), (0, .ref (zg S 6 fl 0))]) hx hb dX2_nextToWork_70 hl (k := 2) rfl (nI_1 _) (by decide) rfl (fun ls hl => ?_)
        refine lv_goto (tgt := 10) hx hb dX2_nextToWork_73 (by decide) ?_
        have e9 : r_X2_nextToWork S F G q fl w (n + 1) j = r_X2_nextToWork S F G q fl w n (j + 1) := by simp only [r_X2_nextToWork]; rw [if_pos hb1, if_pos hb2]
        rw [e9]
        exact ih (j + 1) _ (by omega) (lv_sub hl [0, 3, 4] rfl)
      · refine lv_iload_n hx hb dX2_nextToWork_57 rfl (lv_at hl 1 rfl) ?_
        refine lv_iload_n hx hb dX2_nextToWork_58 rfl (lv_at hl 3 rfl) ?_
        refine lv_icmp_ge (tgt := 66) hx hb dX2_nextToWork_59 (by decide) (fun _ => ?_) (fun h9 => absurd hb1 h9)
        refine lv_iload_n hx hb dX2_nextToWork_66 rfl (lv_at hl 1 rfl) ?_
        refine lv_iload_n hx hb dX2_nextToWork_67 rfl (lv_at hl 3 rfl) ?_
        refine lv_isub hx hb dX2_nextToWork_68 ?_
        refine zk_ti (y := nI (w + j - zn S)) (pk_sub (by omega)) ?_
        exact ze_i hx hb hr hlk rfl (by simp only [r_X2_nextToWork]; rw [if_pos hb1, if_neg hb2]) dX2_nextToWork_69
    · have hb1n : ¬ ((zn S) ≤ (w + j)) := fun h9 => hb1 ((nI_leI (by omega) (by omega)).mpr h9)
      refine lv_iload_n hx hb dX2_nextToWork_28 rfl (lv_at hl 0 rfl) ?_
      refine lv_goto (tgt := 35) hx hb dX2_nextToWork_29 (by decide) ?_
      refine zr_q (va_runV (As := [.int (nI (w + j))]) (rest := []) ⟨hx, hb, hml, hown, hts⟩ (k_X2_at l D yc e0 A S Z F G q fl (w + j) (by first | assumption | omega | decide) (by first | assumption | omega | decide)) (cwV 1 hts (lw_V wq281 wq224 wq225 wq2 wq226) rfl rfl rfl (by decide +kernel) ⟨(Nat.le_of_ble_eq_true rfl), (Nat.le_of_ble_eq_true rfl)⟩) (tp_V hC hW hS hA 6 fl 0 (dm6 (by omega)) rfl rfl) rfl rfl hl.1 rfl (lv_room (Nat.le_of_ble_eq_true rfl)) dX2_nextToWork_35 ⟨(Nat.le_of_ble_eq_true rfl), (Nat.le_of_ble_eq_true rfl)⟩) ?_
      refine lv_astore (lv' := [(4, .ref (zg S 2 fl (w + j))), (3, .int (nI (w + j))), (2, .int (nI (j + 1))), (1, .int (nI (zn S))), (0, .ref (zg S 6 fl 0))]) hx hb dX2_nextToWork_38 hl (by decide) rfl (fun ls hl => ?_)
      refine lv_aload hx hb dX2_nextToWork_40 (lv_at hl 0 rfl) ?_
      refine lv_ifnull hx hb dX2_nextToWork_42 ?_
      refine lv_aload hx hb dX2_nextToWork_45 (lv_at hl 0 rfl) ?_
      refine lv_aload_n hx hb dX2_nextToWork_47 rfl (lv_at hl 4 rfl) ?_
      refine t_get (D := D) (ci := 2) (v := .int (F 6 fl 0 2)) (C := RX2) (T := TX2) (N := 8) hx hb hts iX2 hown hK hW 6 fl 0 (dm6 (by omega)) rfl rfl 2 (by decide) (hts _ wq69) (fun _ h9 => h9) rfl dX2_nextToWork_48 ?_
      refine zr_i (va_runV (As := [.int (F 6 fl 0 2)]) (rest := []) ⟨hx, hb, hml, hown, hts⟩ (k_X8_canWork l D yc e0 A S Z F G q fl (w + j) (F 6 fl 0 2) (by first | assumption | omega | decide) (by first | assumption | omega | decide)) (cwV 1 hts (lw_V wq282 wq283 wq284 wq16 wq285) rfl rfl rfl (by decide +kernel) ⟨(Nat.le_of_ble_eq_true rfl), (Nat.le_of_ble_eq_true rfl)⟩) (tp_V hC hW hS hA 2 fl (w + j) (dm2 (by omega) (by omega)) rfl rfl) rfl rfl hl.1 rfl (lv_room (Nat.le_of_ble_eq_true rfl)) dX2_nextToWork_51 ⟨(Nat.le_of_ble_eq_true rfl), (Nat.le_of_ble_eq_true rfl)⟩) ?_
      refine lv_if_eq (tgt := 70) hx hb dX2_nextToWork_54 (by decide) (fun hb3 => ?_) (fun hb3 => ?_)
      · refine lv_iinc (v := nI ((j + 1) + 1)) (lv' := [(2, .int (nI ((j + 1) + 1))), (4, .ref (zg S 2 fl (w + j))), (3, .int (nI (w + j))), (1, .int (nI (zn S))), (0, .ref (zg S 6 fl 0))]) hx hb dX2_nextToWork_70 hl (k := 2) rfl (nI_1 _) (by decide) rfl (fun ls hl => ?_)
        refine lv_goto (tgt := 10) hx hb dX2_nextToWork_73 (by decide) ?_
        have e9 : r_X2_nextToWork S F G q fl w (n + 1) j = r_X2_nextToWork S F G q fl w n (j + 1) := by simp only [r_X2_nextToWork]; rw [if_neg hb1, if_pos hb3]
        rw [e9]
        exact ih (j + 1) _ (by omega) (lv_sub hl [0, 3, 4] rfl)
      · refine lv_iload_n hx hb dX2_nextToWork_57 rfl (lv_at hl 1 rfl) ?_
        refine lv_iload_n hx hb dX2_nextToWork_58 rfl (lv_at hl 3 rfl) ?_
        refine lv_icmp_ge (tgt := 66) hx hb dX2_nextToWork_59 (by decide) (fun h9 => absurd h9 hb1) (fun _ => ?_)
        refine lv_iload_n hx hb dX2_nextToWork_62 rfl (lv_at hl 1 rfl) ?_
        refine lv_goto (tgt := 69) hx hb dX2_nextToWork_63 (by decide) ?_
        exact ze_i hx hb hr hlk rfl (by simp only [r_X2_nextToWork]; rw [if_neg hb1, if_neg hb3]) dX2_nextToWork_69
def v_X2_nextToWork (S : TS) (F : TF) (G : TG) (q : TQ) (fl : Nat) (w : Nat) : Int32 := r_X2_nextToWork S F G q fl w (zn S) 0
set_option maxHeartbeats 4000000 in
set_option maxRecDepth 100000 in
theorem k_X2_nextToWork (l : Launch) (D : va_G) (yc : Nat → ClassId) (e0 : Nat) (A : Nat → Prop) (S : TS) (Z : Nat × Nat) (F : TF) (G : TG) (q : TQ) (fl : Nat) (w : Nat) (hf : fl < 2) (hw : F 6 fl 0 3 = nI w - 1) (hwn : w ≤ zn S) : Met l yX2_nextToWork (ws_ yX2_nextToWork cX2_nextToWork 5 (some .int)) ({ frames := 6, cells := 0, slots := 0, locals := 128 }) (PT D yc e0 A S Z F G q [.ref (zg S 6 fl 0)]) (zQ (some (.int (v_X2_nextToWork S F G q fl w)))) 0 0 zno := by
  refine tk_M (by decide) (Nat.le_of_ble_eq_true rfl) ?_
  intro p e s m args below meth c ls hx hb hml hr hlk hown hts hW hS hA hC hl
  have hK := hC.1
  have hN := hC.2.1
  have hn12 := hW.n12
  have hl : lv_has ls 5 [(0, .ref (zg S 6 fl 0))] := hl
  refine lv_aload_n hx hb dX2_nextToWork_0 rfl (lv_at hl 0 rfl) ?_
  refine t_get (D := D) (ci := 2) (v := .ref (zl S 0 fl 0)) (C := RX2) (T := TX2) (N := 8) hx hb hts iX2 hown hK hW 6 fl 0 (dm6 (by omega)) rfl rfl 1 (by decide) (hts _ wq68) (fun _ h9 => h9) rfl dX2_nextToWork_1 ?_
  refine zr_i (va_runV (As := []) (rest := []) ⟨hx, hb, hml, hown, hts⟩ (k_AL_size l D yc e0 A S Z F G q 0 fl 0 (dl0 (by omega))) (cwV 0 hts (lw_V wq119 wq120 wq121 wq5 wq122) rfl rfl rfl (by decide +kernel) ⟨(Nat.le_of_ble_eq_true rfl), (Nat.le_of_ble_eq_true rfl)⟩) (tp_L hC hW hS hA 0 fl 0 (dl0 (by omega))) rfl rfl hl.1 rfl (lv_room (Nat.le_of_ble_eq_true rfl)) dX2_nextToWork_4 ⟨(Nat.le_of_ble_eq_true rfl), (Nat.le_of_ble_eq_true rfl)⟩) ?_
  refine zk_ti (y := nI (zn S)) rfl ?_
  refine lv_istore_n (lv' := [(1, .int (nI (zn S))), (0, .ref (zg S 6 fl 0))]) hx hb dX2_nextToWork_7 rfl hl (by decide) rfl (fun ls hl => ?_)
  refine lv_iconst (v := 1) hx hb dX2_nextToWork_8 (by decide) ?_
  refine lv_istore_n (lv' := [(2, .int 1), (1, .int (nI (zn S))), (0, .ref (zg S 6 fl 0))]) hx hb dX2_nextToWork_9 rfl hl (by decide) rfl (fun ls hl => ?_)
  exact lp_X2_nextToWork fl w hf hw hwn hx hb hml hr hlk hown hts hW hS hA hC (zn S) 0 _ (by omega) (lv_sub hl [0, 1, 2] rfl)
def v_X10_stageOf (S : TS) (F : TF) (G : TG) (q : TQ) (k : Nat) : Value := (.ref (zg S 2 0 k))
set_option maxHeartbeats 4000000 in
set_option maxRecDepth 100000 in
theorem k_X10_stageOf (l : Launch) (D : va_G) (yc : Nat → ClassId) (e0 : Nat) (A : Nat → Prop) (S : TS) (Z : Nat × Nat) (F : TF) (G : TG) (q : TQ) (k : Nat) (hk : k < zn S) : Met l yX10_stageOf (ws_ yX10_stageOf cX10_stageOf 3 (some (.object "WeirStream$Stage"))) ({ frames := 4, cells := 0, slots := 0, locals := 85 }) (PT D yc e0 A S Z F G q [.ref (zg S 7 0 0), .int (nI k)]) (zQ (some ((v_X10_stageOf S F G q k)))) 0 0 zno := by
  refine tk_M (by decide) (Nat.le_of_ble_eq_true rfl) ?_
  intro p e s m args below meth c ls hx hb hml hr hlk hown hts hW hS hA hC hl
  have hK := hC.1
  have hN := hC.2.1
  have hn12 := hW.n12
  have hl : lv_has ls 3 [(0, .ref (zg S 7 0 0)), (1, .int (nI k))] := hl
  refine lv_aload_n hx hb dX10_stageOf_0 rfl (lv_at hl 0 rfl) ?_
  refine t_get (D := D) (ci := 9) (v := .ref (zg S 6 0 0)) (C := RX10) (T := TX10) (N := 5) hx hb hts iX10 hown hK hW 7 0 0 dm7 rfl rfl 0 (by decide) (hts _ wq95) (fun _ h9 => h9) rfl dX10_stageOf_1 ?_
  refine lv_iload_n hx hb dX10_stageOf_4 rfl (lv_at hl 1 rfl) ?_
  refine zr_q (va_runV (As := [.int (nI k)]) (rest := []) ⟨hx, hb, hml, hown, hts⟩ (k_X2_at l D yc e0 A S Z F G q 0 k (by first | assumption | omega | decide) (by first | assumption | omega | decide)) (cwV 1 hts (lw_V wq223 wq224 wq225 wq2 wq226) rfl rfl rfl (by decide +kernel) ⟨(Nat.le_of_ble_eq_true rfl), (Nat.le_of_ble_eq_true rfl)⟩) (tp_V hC hW hS hA 6 0 0 (dm6 (by omega)) rfl rfl) rfl rfl hl.1 rfl (lv_room (Nat.le_of_ble_eq_true rfl)) dX10_stageOf_5 ⟨(Nat.le_of_ble_eq_true rfl), (Nat.le_of_ble_eq_true rfl)⟩) ?_
  refine lv_astore_n (lv' := [(2, .ref (zg S 2 0 k)), (0, .ref (zg S 7 0 0)), (1, .int (nI k))]) hx hb dX10_stageOf_8 rfl hl (by decide) rfl (fun ls hl => ?_)
  refine lv_aload_n hx hb dX10_stageOf_9 rfl (lv_at hl 0 rfl) ?_
  refine lv_ifnonnull (tgt := 21) hx hb dX10_stageOf_10 (by decide) ?_
  refine lv_aload_n hx hb dX10_stageOf_21 rfl (lv_at hl 0 rfl) ?_
  exact ze_q hx hb hr (by first | exact Or.inl ⟨_, rfl⟩ | exact Or.inr ⟨_, rfl⟩) hlk (by first | exact Or.inl rfl | exact Or.inr ⟨_, rfl⟩ | exact zch_or _ _ _ _) (by rfl) dX10_stageOf_22
def v_X10_sourceOf (S : TS) (F : TF) (G : TG) (q : TQ) (k : Nat) : Value := (.ref (zg S 2 0 k))
set_option maxHeartbeats 4000000 in
set_option maxRecDepth 100000 in
theorem k_X10_sourceOf (l : Launch) (D : va_G) (yc : Nat → ClassId) (e0 : Nat) (A : Nat → Prop) (S : TS) (Z : Nat × Nat) (F : TF) (G : TG) (q : TQ) (k : Nat) (hk : k < zn S) (hs : F 8 0 k 0 = 0) : Met l yX10_sourceOf (ws_ yX10_sourceOf cX10_sourceOf 3 (some (.object "WeirStream$Stage"))) ({ frames := 5, cells := 0, slots := 0, locals := 107 }) (PT D yc e0 A S Z F G q [.ref (zg S 7 0 0), .int (nI k)]) (zQ (some ((v_X10_sourceOf S F G q k)))) 0 0 zno := by
  refine tk_M (by decide) (Nat.le_of_ble_eq_true rfl) ?_
  intro p e s m args below meth c ls hx hb hml hr hlk hown hts hW hS hA hC hl
  have hK := hC.1
  have hN := hC.2.1
  have hn12 := hW.n12
  have hl : lv_has ls 3 [(0, .ref (zg S 7 0 0)), (1, .int (nI k))] := hl
  refine lv_aload_n hx hb dX10_sourceOf_0 rfl (lv_at hl 0 rfl) ?_
  refine lv_iload_n hx hb dX10_sourceOf_1 rfl (lv_at hl 1 rfl) ?_
  refine zr_q (va_runV (As := [.int (nI k)]) (rest := []) ⟨hx, hb, hml, hown, hts⟩ (k_X10_stageOf l D yc e0 A S Z F G q k (by first | assumption | omega | decide)) (cwV 1 hts (lw_V wq219 wq221 ws2 wq1 wq222) rfl rfl rfl (by decide +kernel) ⟨(Nat.le_of_ble_eq_true rfl), (Nat.le_of_ble_eq_true rfl)⟩) (tp_V hC hW hS hA 7 0 0 dm7 rfl rfl) rfl rfl hl.1 rfl (lv_room (Nat.le_of_ble_eq_true rfl)) dX10_sourceOf_2 ⟨(Nat.le_of_ble_eq_true rfl), (Nat.le_of_ble_eq_true rfl)⟩) ?_
  refine lv_astore_n (lv' := [(2, .ref (zg S 2 0 k)), (0, .ref (zg S 7 0 0)), (1, .int (nI k))]) hx hb dX10_sourceOf_5 rfl hl (by decide) rfl (fun ls hl => ?_)
  refine lv_aload_n hx hb dX10_sourceOf_6 rfl (lv_at hl 0 rfl) ?_
  refine t_getN (D := D) (ci := 7) (v := .ref (zg S 8 0 k)) (C := RX8) (T := TX8) (N := 12) hx hb hts iX8 hown hK hW 2 0 k (dm2 (by omega) (by omega)) rfl rfl 0 (by decide) (zk_tab rfl (hN _ wr1104 rfl)) (fun _ h9 => h9) rfl dX10_sourceOf_7 ?_
  refine t_getN (D := D) (ci := 4) (v := .int (F 8 0 k 0)) (C := RX5) (T := TX5) (N := 15) hx hb hts iX5 hown hK hW 8 0 k (dm8 (by omega)) rfl rfl 0 (by decide) (zk_tab rfl (hN _ wr831 rfl)) (fun _ h9 => h9) rfl dX10_sourceOf_10 ?_
  refine lv_if_ne (tgt := 20) hx hb dX10_sourceOf_13 (by decide) (fun h9 => absurd hs h9) (fun _ => ?_)
  refine lv_iconst (v := 1) hx hb dX10_sourceOf_16 (by decide) ?_
  refine lv_goto (tgt := 21) hx hb dX10_sourceOf_17 (by decide) ?_
  refine zr_v (va_runS (As := [.int 1]) (rest := []) ⟨hx, hb, hml, hown, hts⟩ (k_X10_refuseUnless l 1 (by first | assumption | omega | decide)) (va_cwS 1 hts (lw_S wq193 wq194 wq1 wq195) rfl rfl rfl (by decide +kernel) ⟨(Nat.le_of_ble_eq_true rfl), (Nat.le_of_ble_eq_true rfl)⟩) tp_N rfl rfl hl.1 rfl (lv_room (Nat.le_of_ble_eq_true rfl)) dX10_sourceOf_21 ⟨(Nat.le_of_ble_eq_true rfl), (Nat.le_of_ble_eq_true rfl)⟩) ?_
  refine lv_aload_n hx hb dX10_sourceOf_24 rfl (lv_at hl 0 rfl) ?_
  exact ze_q hx hb hr (by first | exact Or.inl ⟨_, rfl⟩ | exact Or.inr ⟨_, rfl⟩) hlk (by first | exact Or.inl rfl | exact Or.inr ⟨_, rfl⟩ | exact zch_or _ _ _ _) (by rfl) dX10_sourceOf_25
def v_X10_sinkOf (S : TS) (F : TF) (G : TG) (q : TQ) (k : Nat) : Value := (.ref (zg S 2 0 k))
set_option maxHeartbeats 4000000 in
set_option maxRecDepth 100000 in
theorem k_X10_sinkOf (l : Launch) (D : va_G) (yc : Nat → ClassId) (e0 : Nat) (A : Nat → Prop) (S : TS) (Z : Nat × Nat) (F : TF) (G : TG) (q : TQ) (k : Nat) (hk : k < zn S) (hs : F 8 0 k 0 = 7) : Met l yX10_sinkOf (ws_ yX10_sinkOf cX10_sinkOf 3 (some (.object "WeirStream$Stage"))) ({ frames := 5, cells := 0, slots := 0, locals := 107 }) (PT D yc e0 A S Z F G q [.ref (zg S 7 0 0), .int (nI k)]) (zQ (some ((v_X10_sinkOf S F G q k)))) 0 0 zno := by
  refine tk_M (by decide) (Nat.le_of_ble_eq_true rfl) ?_
  intro p e s m args below meth c ls hx hb hml hr hlk hown hts hW hS hA hC hl
  have hK := hC.1
  have hN := hC.2.1
  have hn12 := hW.n12
  have hl : lv_has ls 3 [(0, .ref (zg S 7 0 0)), (1, .int (nI k))] := hl
  refine lv_aload_n hx hb dX10_sinkOf_0 rfl (lv_at hl 0 rfl) ?_
  refine lv_iload_n hx hb dX10_sinkOf_1 rfl (lv_at hl 1 rfl) ?_
  refine zr_q (va_runV (As := [.int (nI k)]) (rest := []) ⟨hx, hb, hml, hown, hts⟩ (k_X10_stageOf l D yc e0 A S Z F G q k (by first | assumption | omega | decide)) (cwV 1 hts (lw_V wq219 wq221 ws2 wq1 wq222) rfl rfl rfl (by decide +kernel) ⟨(Nat.le_of_ble_eq_true rfl), (Nat.le_of_ble_eq_true rfl)⟩) (tp_V hC hW hS hA 7 0 0 dm7 rfl rfl) rfl rfl hl.1 rfl (lv_room (Nat.le_of_ble_eq_true rfl)) dX10_sinkOf_2 ⟨(Nat.le_of_ble_eq_true rfl), (Nat.le_of_ble_eq_true rfl)⟩) ?_
  refine lv_astore_n (lv' := [(2, .ref (zg S 2 0 k)), (0, .ref (zg S 7 0 0)), (1, .int (nI k))]) hx hb dX10_sinkOf_5 rfl hl (by decide) rfl (fun ls hl => ?_)
  refine lv_aload_n hx hb dX10_sinkOf_6 rfl (lv_at hl 0 rfl) ?_
  refine t_getN (D := D) (ci := 7) (v := .ref (zg S 8 0 k)) (C := RX8) (T := TX8) (N := 12) hx hb hts iX8 hown hK hW 2 0 k (dm2 (by omega) (by omega)) rfl rfl 0 (by decide) (zk_tab rfl (hN _ wr1104 rfl)) (fun _ h9 => h9) rfl dX10_sinkOf_7 ?_
  refine t_getN (D := D) (ci := 4) (v := .int (F 8 0 k 0)) (C := RX5) (T := TX5) (N := 15) hx hb hts iX5 hown hK hW 8 0 k (dm8 (by omega)) rfl rfl 0 (by decide) (zk_tab rfl (hN _ wr831 rfl)) (fun _ h9 => h9) rfl dX10_sinkOf_10 ?_
  refine lv_bipush (v := 7) hx hb dX10_sinkOf_13 (by decide) ?_
  refine lv_icmp_ne (tgt := 22) hx hb dX10_sinkOf_15 (by decide) (fun h9 => absurd hs h9) (fun _ => ?_)
  refine lv_iconst (v := 1) hx hb dX10_sinkOf_18 (by decide) ?_
  refine lv_goto (tgt := 23) hx hb dX10_sinkOf_19 (by decide) ?_
  refine zr_v (va_runS (As := [.int 1]) (rest := []) ⟨hx, hb, hml, hown, hts⟩ (k_X10_refuseUnless l 1 (by first | assumption | omega | decide)) (va_cwS 1 hts (lw_S wq193 wq194 wq1 wq195) rfl rfl rfl (by decide +kernel) ⟨(Nat.le_of_ble_eq_true rfl), (Nat.le_of_ble_eq_true rfl)⟩) tp_N rfl rfl hl.1 rfl (lv_room (Nat.le_of_ble_eq_true rfl)) dX10_sinkOf_23 ⟨(Nat.le_of_ble_eq_true rfl), (Nat.le_of_ble_eq_true rfl)⟩) ?_
  refine lv_aload_n hx hb dX10_sinkOf_26 rfl (lv_at hl 0 rfl) ?_
  exact ze_q hx hb hr (by first | exact Or.inl ⟨_, rfl⟩ | exact Or.inr ⟨_, rfl⟩) hlk (by first | exact Or.inl rfl | exact Or.inr ⟨_, rfl⟩ | exact zch_or _ _ _ _) (by rfl) dX10_sinkOf_27
def v_X10_spanStageOf (S : TS) (F : TF) (G : TG) (q : TQ) (k : Nat) : Value := if (F 8 0 k 0) = 3 then (.ref (zg S 2 0 k)) else if (F 8 0 k 0) = 4 then (.ref (zg S 2 0 k)) else (.ref (zg S 2 0 k))
set_option maxHeartbeats 4000000 in
set_option maxRecDepth 100000 in
theorem k_X10_spanStageOf (l : Launch) (D : va_G) (yc : Nat → ClassId) (e0 : Nat) (A : Nat → Prop) (S : TS) (Z : Nat × Nat) (F : TF) (G : TG) (q : TQ) (k : Nat) (hk : k < zn S) (hs : F 8 0 k 0 = 3 ∨ F 8 0 k 0 = 4) : Met l yX10_spanStageOf (ws_ yX10_spanStageOf cX10_spanStageOf 3 (some (.object "WeirStream$Stage"))) ({ frames := 5, cells := 0, slots := 0, locals := 107 }) (PT D yc e0 A S Z F G q [.ref (zg S 7 0 0), .int (nI k)]) (zQ (some ((v_X10_spanStageOf S F G q k)))) 0 0 zno := by
  refine tk_M (by decide) (Nat.le_of_ble_eq_true rfl) ?_
  intro p e s m args below meth c ls hx hb hml hr hlk hown hts hW hS hA hC hl
  have hK := hC.1
  have hN := hC.2.1
  have hn12 := hW.n12
  have hl : lv_has ls 3 [(0, .ref (zg S 7 0 0)), (1, .int (nI k))] := hl
  refine lv_aload_n hx hb dX10_spanStageOf_0 rfl (lv_at hl 0 rfl) ?_
  refine lv_iload_n hx hb dX10_spanStageOf_1 rfl (lv_at hl 1 rfl) ?_
  refine zr_q (va_runV (As := [.int (nI k)]) (rest := []) ⟨hx, hb, hml, hown, hts⟩ (k_X10_stageOf l D yc e0 A S Z F G q k (by first | assumption | omega | decide)) (cwV 1 hts (lw_V wq219 wq221 ws2 wq1 wq222) rfl rfl rfl (by decide +kernel) ⟨(Nat.le_of_ble_eq_true rfl), (Nat.le_of_ble_eq_true rfl)⟩) (tp_V hC hW hS hA 7 0 0 dm7 rfl rfl) rfl rfl hl.1 rfl (lv_room (Nat.le_of_ble_eq_true rfl)) dX10_spanStageOf_2 ⟨(Nat.le_of_ble_eq_true rfl), (Nat.le_of_ble_eq_true rfl)⟩) ?_
  refine lv_astore_n (lv' := [(2, .ref (zg S 2 0 k)), (0, .ref (zg S 7 0 0)), (1, .int (nI k))]) hx hb dX10_spanStageOf_5 rfl hl (by decide) rfl (fun ls hl => ?_)
  refine lv_aload_n hx hb dX10_spanStageOf_6 rfl (lv_at hl 0 rfl) ?_
  refine t_getN (D := D) (ci := 7) (v := .ref (zg S 8 0 k)) (C := RX8) (T := TX8) (N := 12) hx hb hts iX8 hown hK hW 2 0 k (dm2 (by omega) (by omega)) rfl rfl 0 (by decide) (zk_tab rfl (hN _ wr1104 rfl)) (fun _ h9 => h9) rfl dX10_spanStageOf_7 ?_
  refine t_getN (D := D) (ci := 4) (v := .int (F 8 0 k 0)) (C := RX5) (T := TX5) (N := 15) hx hb hts iX5 hown hK hW 8 0 k (dm8 (by omega)) rfl rfl 0 (by decide) (zk_tab rfl (hN _ wr831 rfl)) (fun _ h9 => h9) rfl dX10_spanStageOf_10 ?_
  refine lv_iconst (v := 3) hx hb dX10_spanStageOf_13 (by decide) ?_
  refine lv_icmp_eq (tgt := 28) hx hb dX10_spanStageOf_14 (by decide) (fun hb1 => ?_) (fun hb1 => ?_)
  · refine lv_iconst (v := 1) hx hb dX10_spanStageOf_28 (by decide) ?_
    refine lv_goto (tgt := 33) hx hb dX10_spanStageOf_29 (by decide) ?_
    refine zr_v (va_runS (As := [.int 1]) (rest := []) ⟨hx, hb, hml, hown, hts⟩ (k_X10_refuseUnless l 1 (by first | decide | (intro _; rcases hs with h9 | h9 <;> contradiction))) (va_cwS 1 hts (lw_S wq193 wq194 wq1 wq195) rfl rfl rfl (by decide +kernel) ⟨(Nat.le_of_ble_eq_true rfl), (Nat.le_of_ble_eq_true rfl)⟩) tp_N rfl rfl hl.1 rfl (lv_room (Nat.le_of_ble_eq_true rfl)) dX10_spanStageOf_33 ⟨(Nat.le_of_ble_eq_true rfl), (Nat.le_of_ble_eq_true rfl)⟩) ?_
    refine lv_aload_n hx hb dX10_spanStageOf_36 rfl (lv_at hl 0 rfl) ?_
    exact ze_q hx hb hr (by first | exact Or.inl ⟨_, rfl⟩ | exact Or.inr ⟨_, rfl⟩) hlk (by first | exact Or.inl rfl | exact Or.inr ⟨_, rfl⟩ | exact zch_or _ _ _ _) (by unfold v_X10_spanStageOf; rw [if_pos hb1]) dX10_spanStageOf_37
  · refine lv_aload_n hx hb dX10_spanStageOf_17 rfl (lv_at hl 0 rfl) ?_
    refine t_getN (D := D) (ci := 7) (v := .ref (zg S 8 0 k)) (C := RX8) (T := TX8) (N := 12) hx hb hts iX8 hown hK hW 2 0 k (dm2 (by omega) (by omega)) rfl rfl 0 (by decide) (zk_tab rfl (hN _ wr1104 rfl)) (fun _ h9 => h9) rfl dX10_spanStageOf_18 ?_
    refine t_getN (D := D) (ci := 4) (v := .int (F 8 0 k 0)) (C := RX5) (T := TX5) (N := 15) hx hb hts iX5 hown hK hW 8 0 k (dm8 (by omega)) rfl rfl 0 (by decide) (zk_tab rfl (hN _ wr831 rfl)) (fun _ h9 => h9) rfl dX10_spanStageOf_21 ?_
    refine lv_iconst (v := 4) hx hb dX10_spanStageOf_24 (by decide) ?_
    refine lv_icmp_ne (tgt := 32) hx hb dX10_spanStageOf_25 (by decide) (fun hb2 => ?_) (fun hb2 => ?_)
    · refine lv_iconst (v := 0) hx hb dX10_spanStageOf_32 (by decide) ?_
      refine zr_v (va_runS (As := [.int 0]) (rest := []) ⟨hx, hb, hml, hown, hts⟩ (k_X10_refuseUnless l 0 (by first | decide | (intro _; rcases hs with h9 | h9 <;> contradiction))) (va_cwS 1 hts (lw_S wq193 wq194 wq1 wq195) rfl rfl rfl (by decide +kernel) ⟨(Nat.le_of_ble_eq_true rfl), (Nat.le_of_ble_eq_true rfl)⟩) tp_N rfl rfl hl.1 rfl (lv_room (Nat.le_of_ble_eq_true rfl)) dX10_spanStageOf_33 ⟨(Nat.le_of_ble_eq_true rfl), (Nat.le_of_ble_eq_true rfl)⟩) ?_
      refine lv_aload_n hx hb dX10_spanStageOf_36 rfl (lv_at hl 0 rfl) ?_
      exact ze_q hx hb hr (by first | exact Or.inl ⟨_, rfl⟩ | exact Or.inr ⟨_, rfl⟩) hlk (by first | exact Or.inl rfl | exact Or.inr ⟨_, rfl⟩ | exact zch_or _ _ _ _) (by unfold v_X10_spanStageOf; rw [if_neg hb1, if_neg hb2]) dX10_spanStageOf_37
    · refine lv_iconst (v := 1) hx hb dX10_spanStageOf_28 (by decide) ?_
      refine lv_goto (tgt := 33) hx hb dX10_spanStageOf_29 (by decide) ?_
      refine zr_v (va_runS (As := [.int 1]) (rest := []) ⟨hx, hb, hml, hown, hts⟩ (k_X10_refuseUnless l 1 (by first | decide | (intro _; rcases hs with h9 | h9 <;> contradiction))) (va_cwS 1 hts (lw_S wq193 wq194 wq1 wq195) rfl rfl rfl (by decide +kernel) ⟨(Nat.le_of_ble_eq_true rfl), (Nat.le_of_ble_eq_true rfl)⟩) tp_N rfl rfl hl.1 rfl (lv_room (Nat.le_of_ble_eq_true rfl)) dX10_spanStageOf_33 ⟨(Nat.le_of_ble_eq_true rfl), (Nat.le_of_ble_eq_true rfl)⟩) ?_
      refine lv_aload_n hx hb dX10_spanStageOf_36 rfl (lv_at hl 0 rfl) ?_
      exact ze_q hx hb hr (by first | exact Or.inl ⟨_, rfl⟩ | exact Or.inr ⟨_, rfl⟩) hlk (by first | exact Or.inl rfl | exact Or.inr ⟨_, rfl⟩ | exact zch_or _ _ _ _) (by unfold v_X10_spanStageOf; rw [if_neg hb1, if_pos hb2]) dX10_spanStageOf_37
def v_X10_stages (S : TS) (F : TF) (G : TG) (q : TQ) : Int32 := nI (zn S)
set_option maxHeartbeats 4000000 in
set_option maxRecDepth 100000 in
theorem k_X10_stages (l : Launch) (D : va_G) (yc : Nat → ClassId) (e0 : Nat) (A : Nat → Prop) (S : TS) (Z : Nat × Nat) (F : TF) (G : TG) (q : TQ)   : Met l yX10_stages (ws_ yX10_stages cX10_stages 1 (some .int)) ({ frames := 2, cells := 0, slots := 0, locals := 40 }) (PT D yc e0 A S Z F G q [.ref (zg S 7 0 0)]) (zQ (some (.int (v_X10_stages S F G q)))) 0 0 zno := by
  refine tk_M (by decide) (Nat.le_of_ble_eq_true rfl) ?_
  intro p e s m args below meth c ls hx hb hml hr hlk hown hts hW hS hA hC hl
  have hK := hC.1
  have hN := hC.2.1
  have hn12 := hW.n12
  have hl : lv_has ls 1 [(0, .ref (zg S 7 0 0))] := hl
  refine lv_aload_n hx hb dX10_stages_0 rfl (lv_at hl 0 rfl) ?_
  refine t_get (D := D) (ci := 9) (v := .ref (zg S 6 0 0)) (C := RX10) (T := TX10) (N := 5) hx hb hts iX10 hown hK hW 7 0 0 dm7 rfl rfl 0 (by decide) (hts _ wq95) (fun _ h9 => h9) rfl dX10_stages_1 ?_
  refine zr_i (va_runV (As := []) (rest := []) ⟨hx, hb, hml, hown, hts⟩ (k_X2_size l D yc e0 A S Z F G q 0 (by first | assumption | omega | decide)) (cwV 0 hts (lw_V wq115 wq116 wq117 wq2 wq118) rfl rfl rfl (by decide +kernel) ⟨(Nat.le_of_ble_eq_true rfl), (Nat.le_of_ble_eq_true rfl)⟩) (tp_V hC hW hS hA 6 0 0 (dm6 (by omega)) rfl rfl) rfl rfl hl.1 rfl (lv_room (Nat.le_of_ble_eq_true rfl)) dX10_stages_4 ⟨(Nat.le_of_ble_eq_true rfl), (Nat.le_of_ble_eq_true rfl)⟩) ?_
  refine zk_ti (y := nI (zn S)) rfl ?_
  exact ze_i hx hb hr hlk rfl (by rfl) dX10_stages_7
def v_X10_isStarted (S : TS) (F : TF) (G : TG) (q : TQ) : Int32 := F 7 0 0 2
set_option maxHeartbeats 4000000 in
set_option maxRecDepth 100000 in
theorem k_X10_isStarted (l : Launch) (D : va_G) (yc : Nat → ClassId) (e0 : Nat) (A : Nat → Prop) (S : TS) (Z : Nat × Nat) (F : TF) (G : TG) (q : TQ)   : Met l yX10_isStarted (ws_ yX10_isStarted cX10_isStarted 1 (some .boolean)) ({ frames := 0, cells := 0, slots := 0, locals := 0 }) (PT D yc e0 A S Z F G q [.ref (zg S 7 0 0)]) (zQ (some (.int (v_X10_isStarted S F G q)))) 0 0 zno := by
  refine tk_M (by decide) (Nat.le_of_ble_eq_true rfl) ?_
  intro p e s m args below meth c ls hx hb hml hr hlk hown hts hW hS hA hC hl
  have hK := hC.1
  have hN := hC.2.1
  have hn12 := hW.n12
  have hl : lv_has ls 1 [(0, .ref (zg S 7 0 0))] := hl
  refine lv_aload_n hx hb dX10_isStarted_0 rfl (lv_at hl 0 rfl) ?_
  refine t_get (D := D) (ci := 9) (v := .int (F 7 0 0 2)) (C := RX10) (T := TX10) (N := 5) hx hb hts iX10 hown hK hW 7 0 0 dm7 rfl rfl 2 (by decide) (hts _ wq97) (fun _ h9 => h9) rfl dX10_isStarted_1 ?_
  exact ze_i hx hb hr hlk (zk_nb (hW.bit 7 0 0 2 rfl)) (by rfl) dX10_isStarted_4
def v_X10_sortOf (S : TS) (F : TF) (G : TG) (q : TQ) (k : Nat) : Int32 := F 8 0 k 0
set_option maxHeartbeats 4000000 in
set_option maxRecDepth 100000 in
theorem k_X10_sortOf (l : Launch) (D : va_G) (yc : Nat → ClassId) (e0 : Nat) (A : Nat → Prop) (S : TS) (Z : Nat × Nat) (F : TF) (G : TG) (q : TQ) (k : Nat) (hk : k < zn S) : Met l yX10_sortOf (ws_ yX10_sortOf cX10_sortOf 2 (some .int)) ({ frames := 5, cells := 0, slots := 0, locals := 107 }) (PT D yc e0 A S Z F G q [.ref (zg S 7 0 0), .int (nI k)]) (zQ (some (.int (v_X10_sortOf S F G q k)))) 0 0 zno := by
  refine tk_M (by decide) (Nat.le_of_ble_eq_true rfl) ?_
  intro p e s m args below meth c ls hx hb hml hr hlk hown hts hW hS hA hC hl
  have hK := hC.1
  have hN := hC.2.1
  have hn12 := hW.n12
  have hl : lv_has ls 2 [(0, .ref (zg S 7 0 0)), (1, .int (nI k))] := hl
  refine lv_aload_n hx hb dX10_sortOf_0 rfl (lv_at hl 0 rfl) ?_
  refine lv_iload_n hx hb dX10_sortOf_1 rfl (lv_at hl 1 rfl) ?_
  refine zr_q (va_runV (As := [.int (nI k)]) (rest := []) ⟨hx, hb, hml, hown, hts⟩ (k_X10_stageOf l D yc e0 A S Z F G q k (by first | assumption | omega | decide)) (cwV 1 hts (lw_V wq219 wq221 ws2 wq1 wq222) rfl rfl rfl (by decide +kernel) ⟨(Nat.le_of_ble_eq_true rfl), (Nat.le_of_ble_eq_true rfl)⟩) (tp_V hC hW hS hA 7 0 0 dm7 rfl rfl) rfl rfl hl.1 rfl (lv_room (Nat.le_of_ble_eq_true rfl)) dX10_sortOf_2 ⟨(Nat.le_of_ble_eq_true rfl), (Nat.le_of_ble_eq_true rfl)⟩) ?_
  refine t_getN (D := D) (ci := 7) (v := .ref (zg S 8 0 k)) (C := RX8) (T := TX8) (N := 12) hx hb hts iX8 hown hK hW 2 0 k (dm2 (by omega) (by omega)) rfl rfl 0 (by decide) (zk_tab rfl (hN _ wr1104 rfl)) (fun _ h9 => h9) rfl dX10_sortOf_5 ?_
  refine t_getN (D := D) (ci := 4) (v := .int (F 8 0 k 0)) (C := RX5) (T := TX5) (N := 15) hx hb hts iX5 hown hK hW 8 0 k (dm8 (by omega)) rfl rfl 0 (by decide) (zk_tab rfl (hN _ wr831 rfl)) (fun _ h9 => h9) rfl dX10_sortOf_8 ?_
  exact ze_i hx hb hr hlk rfl (by rfl) dX10_sortOf_11
def v_X10_markOf (S : TS) (F : TF) (G : TG) (q : TQ) (k : Nat) : Int32 := F 0 0 (3 * k) 0
set_option maxHeartbeats 4000000 in
set_option maxRecDepth 100000 in
theorem k_X10_markOf (l : Launch) (D : va_G) (yc : Nat → ClassId) (e0 : Nat) (A : Nat → Prop) (S : TS) (Z : Nat × Nat) (F : TF) (G : TG) (q : TQ) (k : Nat) (hk : k < zn S) : Met l yX10_markOf (ws_ yX10_markOf cX10_markOf 2 (some .int)) ({ frames := 5, cells := 0, slots := 0, locals := 107 }) (PT D yc e0 A S Z F G q [.ref (zg S 7 0 0), .int (nI k)]) (zQ (some (.int (v_X10_markOf S F G q k)))) 0 0 zno := by
  refine tk_M (by decide) (Nat.le_of_ble_eq_true rfl) ?_
  intro p e s m args below meth c ls hx hb hml hr hlk hown hts hW hS hA hC hl
  have hK := hC.1
  have hN := hC.2.1
  have hn12 := hW.n12
  have hl : lv_has ls 2 [(0, .ref (zg S 7 0 0)), (1, .int (nI k))] := hl
  refine lv_aload_n hx hb dX10_markOf_0 rfl (lv_at hl 0 rfl) ?_
  refine lv_iload_n hx hb dX10_markOf_1 rfl (lv_at hl 1 rfl) ?_
  refine zr_q (va_runV (As := [.int (nI k)]) (rest := []) ⟨hx, hb, hml, hown, hts⟩ (k_X10_stageOf l D yc e0 A S Z F G q k (by first | assumption | omega | decide)) (cwV 1 hts (lw_V wq219 wq221 ws2 wq1 wq222) rfl rfl rfl (by decide +kernel) ⟨(Nat.le_of_ble_eq_true rfl), (Nat.le_of_ble_eq_true rfl)⟩) (tp_V hC hW hS hA 7 0 0 dm7 rfl rfl) rfl rfl hl.1 rfl (lv_room (Nat.le_of_ble_eq_true rfl)) dX10_markOf_2 ⟨(Nat.le_of_ble_eq_true rfl), (Nat.le_of_ble_eq_true rfl)⟩) ?_
  refine t_getN (D := D) (ci := 7) (v := .ref (zg S 0 0 (3 * k))) (C := RX8) (T := TX8) (N := 12) hx hb hts iX8 hown hK hW 2 0 k (dm2 (by omega) (by omega)) rfl rfl 7 (by decide) (zk_tab rfl (hN _ wr1120 rfl)) (fun _ h9 => h9) rfl dX10_markOf_5 ?_
  refine t_getN (D := D) (ci := 8) (v := .int (F 0 0 (3 * k) 0)) (C := RX9) (T := TX9) (N := 11) hx hb hts iX9 hown hK hW 0 0 (3 * k) (dm0 (by omega) (by omega)) rfl rfl 0 (by decide) (zk_tab rfl (hN _ wr1053 rfl)) (fun _ h9 => h9) rfl dX10_markOf_8 ?_
  exact ze_i hx hb hr hlk rfl (by rfl) dX10_markOf_11
def v_X10_taken (S : TS) (F : TF) (G : TG) (q : TQ) (k : Nat) : Int32 := F 0 0 (3 * k) 4
set_option maxHeartbeats 4000000 in
set_option maxRecDepth 100000 in
theorem k_X10_taken (l : Launch) (D : va_G) (yc : Nat → ClassId) (e0 : Nat) (A : Nat → Prop) (S : TS) (Z : Nat × Nat) (F : TF) (G : TG) (q : TQ) (k : Nat) (hk : k < zn S) : Met l yX10_taken (ws_ yX10_taken cX10_taken 2 (some .int)) ({ frames := 5, cells := 0, slots := 0, locals := 107 }) (PT D yc e0 A S Z F G q [.ref (zg S 7 0 0), .int (nI k)]) (zQ (some (.int (v_X10_taken S F G q k)))) 0 0 zno := by
  refine tk_M (by decide) (Nat.le_of_ble_eq_true rfl) ?_
  intro p e s m args below meth c ls hx hb hml hr hlk hown hts hW hS hA hC hl
  have hK := hC.1
  have hN := hC.2.1
  have hn12 := hW.n12
  have hl : lv_has ls 2 [(0, .ref (zg S 7 0 0)), (1, .int (nI k))] := hl
  refine lv_aload_n hx hb dX10_taken_0 rfl (lv_at hl 0 rfl) ?_
  refine lv_iload_n hx hb dX10_taken_1 rfl (lv_at hl 1 rfl) ?_
  refine zr_q (va_runV (As := [.int (nI k)]) (rest := []) ⟨hx, hb, hml, hown, hts⟩ (k_X10_stageOf l D yc e0 A S Z F G q k (by first | assumption | omega | decide)) (cwV 1 hts (lw_V wq219 wq221 ws2 wq1 wq222) rfl rfl rfl (by decide +kernel) ⟨(Nat.le_of_ble_eq_true rfl), (Nat.le_of_ble_eq_true rfl)⟩) (tp_V hC hW hS hA 7 0 0 dm7 rfl rfl) rfl rfl hl.1 rfl (lv_room (Nat.le_of_ble_eq_true rfl)) dX10_taken_2 ⟨(Nat.le_of_ble_eq_true rfl), (Nat.le_of_ble_eq_true rfl)⟩) ?_
  refine t_getN (D := D) (ci := 7) (v := .ref (zg S 0 0 (3 * k))) (C := RX8) (T := TX8) (N := 12) hx hb hts iX8 hown hK hW 2 0 k (dm2 (by omega) (by omega)) rfl rfl 7 (by decide) (zk_tab rfl (hN _ wr1120 rfl)) (fun _ h9 => h9) rfl dX10_taken_5 ?_
  refine t_getN (D := D) (ci := 8) (v := .int (F 0 0 (3 * k) 4)) (C := RX9) (T := TX9) (N := 11) hx hb hts iX9 hown hK hW 0 0 (3 * k) (dm0 (by omega) (by omega)) rfl rfl 4 (by decide) (zk_tab rfl (hN _ wr1063 rfl)) (fun _ h9 => h9) rfl dX10_taken_8 ?_
  exact ze_i hx hb hr hlk rfl (by rfl) dX10_taken_11
def v_X10_emitted (S : TS) (F : TF) (G : TG) (q : TQ) (k : Nat) : Int32 := F 0 0 (3 * k) 5
set_option maxHeartbeats 4000000 in
set_option maxRecDepth 100000 in
theorem k_X10_emitted (l : Launch) (D : va_G) (yc : Nat → ClassId) (e0 : Nat) (A : Nat → Prop) (S : TS) (Z : Nat × Nat) (F : TF) (G : TG) (q : TQ) (k : Nat) (hk : k < zn S) : Met l yX10_emitted (ws_ yX10_emitted cX10_emitted 2 (some .int)) ({ frames := 5, cells := 0, slots := 0, locals := 107 }) (PT D yc e0 A S Z F G q [.ref (zg S 7 0 0), .int (nI k)]) (zQ (some (.int (v_X10_emitted S F G q k)))) 0 0 zno := by
  refine tk_M (by decide) (Nat.le_of_ble_eq_true rfl) ?_
  intro p e s m args below meth c ls hx hb hml hr hlk hown hts hW hS hA hC hl
  have hK := hC.1
  have hN := hC.2.1
  have hn12 := hW.n12
  have hl : lv_has ls 2 [(0, .ref (zg S 7 0 0)), (1, .int (nI k))] := hl
  refine lv_aload_n hx hb dX10_emitted_0 rfl (lv_at hl 0 rfl) ?_
  refine lv_iload_n hx hb dX10_emitted_1 rfl (lv_at hl 1 rfl) ?_
  refine zr_q (va_runV (As := [.int (nI k)]) (rest := []) ⟨hx, hb, hml, hown, hts⟩ (k_X10_stageOf l D yc e0 A S Z F G q k (by first | assumption | omega | decide)) (cwV 1 hts (lw_V wq219 wq221 ws2 wq1 wq222) rfl rfl rfl (by decide +kernel) ⟨(Nat.le_of_ble_eq_true rfl), (Nat.le_of_ble_eq_true rfl)⟩) (tp_V hC hW hS hA 7 0 0 dm7 rfl rfl) rfl rfl hl.1 rfl (lv_room (Nat.le_of_ble_eq_true rfl)) dX10_emitted_2 ⟨(Nat.le_of_ble_eq_true rfl), (Nat.le_of_ble_eq_true rfl)⟩) ?_
  refine t_getN (D := D) (ci := 7) (v := .ref (zg S 0 0 (3 * k))) (C := RX8) (T := TX8) (N := 12) hx hb hts iX8 hown hK hW 2 0 k (dm2 (by omega) (by omega)) rfl rfl 7 (by decide) (zk_tab rfl (hN _ wr1120 rfl)) (fun _ h9 => h9) rfl dX10_emitted_5 ?_
  refine t_getN (D := D) (ci := 8) (v := .int (F 0 0 (3 * k) 5)) (C := RX9) (T := TX9) (N := 11) hx hb hts iX9 hown hK hW 0 0 (3 * k) (dm0 (by omega) (by omega)) rfl rfl 5 (by decide) (zk_tab rfl (hN _ wr1066 rfl)) (fun _ h9 => h9) rfl dX10_emitted_8 ?_
  exact ze_i hx hb hr hlk rfl (by rfl) dX10_emitted_11
def v_X10_late (S : TS) (F : TF) (G : TG) (q : TQ) (k : Nat) : Int32 := F 0 0 (3 * k) 6
set_option maxHeartbeats 4000000 in
set_option maxRecDepth 100000 in
theorem k_X10_late (l : Launch) (D : va_G) (yc : Nat → ClassId) (e0 : Nat) (A : Nat → Prop) (S : TS) (Z : Nat × Nat) (F : TF) (G : TG) (q : TQ) (k : Nat) (hk : k < zn S) : Met l yX10_late (ws_ yX10_late cX10_late 2 (some .int)) ({ frames := 5, cells := 0, slots := 0, locals := 107 }) (PT D yc e0 A S Z F G q [.ref (zg S 7 0 0), .int (nI k)]) (zQ (some (.int (v_X10_late S F G q k)))) 0 0 zno := by
  refine tk_M (by decide) (Nat.le_of_ble_eq_true rfl) ?_
  intro p e s m args below meth c ls hx hb hml hr hlk hown hts hW hS hA hC hl
  have hK := hC.1
  have hN := hC.2.1
  have hn12 := hW.n12
  have hl : lv_has ls 2 [(0, .ref (zg S 7 0 0)), (1, .int (nI k))] := hl
  refine lv_aload_n hx hb dX10_late_0 rfl (lv_at hl 0 rfl) ?_
  refine lv_iload_n hx hb dX10_late_1 rfl (lv_at hl 1 rfl) ?_
  refine zr_q (va_runV (As := [.int (nI k)]) (rest := []) ⟨hx, hb, hml, hown, hts⟩ (k_X10_stageOf l D yc e0 A S Z F G q k (by first | assumption | omega | decide)) (cwV 1 hts (lw_V wq219 wq221 ws2 wq1 wq222) rfl rfl rfl (by decide +kernel) ⟨(Nat.le_of_ble_eq_true rfl), (Nat.le_of_ble_eq_true rfl)⟩) (tp_V hC hW hS hA 7 0 0 dm7 rfl rfl) rfl rfl hl.1 rfl (lv_room (Nat.le_of_ble_eq_true rfl)) dX10_late_2 ⟨(Nat.le_of_ble_eq_true rfl), (Nat.le_of_ble_eq_true rfl)⟩) ?_
  refine t_getN (D := D) (ci := 7) (v := .ref (zg S 0 0 (3 * k))) (C := RX8) (T := TX8) (N := 12) hx hb hts iX8 hown hK hW 2 0 k (dm2 (by omega) (by omega)) rfl rfl 7 (by decide) (zk_tab rfl (hN _ wr1120 rfl)) (fun _ h9 => h9) rfl dX10_late_5 ?_
  refine t_getN (D := D) (ci := 8) (v := .int (F 0 0 (3 * k) 6)) (C := RX9) (T := TX9) (N := 11) hx hb hts iX9 hown hK hW 0 0 (3 * k) (dm0 (by omega) (by omega)) rfl rfl 6 (by decide) (zk_tab rfl (hN _ wr1069 rfl)) (fun _ h9 => h9) rfl dX10_late_8 ?_
  exact ze_i hx hb hr hlk rfl (by rfl) dX10_late_11
def v_X10_kept (S : TS) (F : TF) (G : TG) (q : TQ) (k : Nat) : Int32 := if (F 8 0 k 0) = 0 then v_X8_unread S F G q 0 k else v_X9_keptCount S F G q 0 (3 * k)
set_option maxHeartbeats 4000000 in
set_option maxRecDepth 100000 in
theorem k_X10_kept (l : Launch) (D : va_G) (yc : Nat → ClassId) (e0 : Nat) (A : Nat → Prop) (S : TS) (Z : Nat × Nat) (F : TF) (G : TG) (q : TQ) (k : Nat) (hk : k < zn S) : Met l yX10_kept (ws_ yX10_kept cX10_kept 3 (some .int)) ({ frames := 5, cells := 0, slots := 0, locals := 107 }) (PT D yc e0 A S Z F G q [.ref (zg S 7 0 0), .int (nI k)]) (zQ (some (.int (v_X10_kept S F G q k)))) 0 0 zno := by
  refine tk_M (by decide) (Nat.le_of_ble_eq_true rfl) ?_
  intro p e s m args below meth c ls hx hb hml hr hlk hown hts hW hS hA hC hl
  have hK := hC.1
  have hN := hC.2.1
  have hn12 := hW.n12
  have hl : lv_has ls 3 [(0, .ref (zg S 7 0 0)), (1, .int (nI k))] := hl
  refine lv_aload_n hx hb dX10_kept_0 rfl (lv_at hl 0 rfl) ?_
  refine lv_iload_n hx hb dX10_kept_1 rfl (lv_at hl 1 rfl) ?_
  refine zr_q (va_runV (As := [.int (nI k)]) (rest := []) ⟨hx, hb, hml, hown, hts⟩ (k_X10_stageOf l D yc e0 A S Z F G q k (by first | assumption | omega | decide)) (cwV 1 hts (lw_V wq219 wq221 ws2 wq1 wq222) rfl rfl rfl (by decide +kernel) ⟨(Nat.le_of_ble_eq_true rfl), (Nat.le_of_ble_eq_true rfl)⟩) (tp_V hC hW hS hA 7 0 0 dm7 rfl rfl) rfl rfl hl.1 rfl (lv_room (Nat.le_of_ble_eq_true rfl)) dX10_kept_2 ⟨(Nat.le_of_ble_eq_true rfl), (Nat.le_of_ble_eq_true rfl)⟩) ?_
  refine lv_astore_n (lv' := [(2, .ref (zg S 2 0 k)), (0, .ref (zg S 7 0 0)), (1, .int (nI k))]) hx hb dX10_kept_5 rfl hl (by decide) rfl (fun ls hl => ?_)
  refine lv_aload_n hx hb dX10_kept_6 rfl (lv_at hl 0 rfl) ?_
  refine t_getN (D := D) (ci := 7) (v := .ref (zg S 8 0 k)) (C := RX8) (T := TX8) (N := 12) hx hb hts iX8 hown hK hW 2 0 k (dm2 (by omega) (by omega)) rfl rfl 0 (by decide) (zk_tab rfl (hN _ wr1104 rfl)) (fun _ h9 => h9) rfl dX10_kept_7 ?_
  refine t_getN (D := D) (ci := 4) (v := .int (F 8 0 k 0)) (C := RX5) (T := TX5) (N := 15) hx hb hts iX5 hown hK hW 8 0 k (dm8 (by omega)) rfl rfl 0 (by decide) (zk_tab rfl (hN _ wr831 rfl)) (fun _ h9 => h9) rfl dX10_kept_10 ?_
  refine lv_if_ne (tgt := 23) hx hb dX10_kept_13 (by decide) (fun hb1 => ?_) (fun hb1 => ?_)
  · refine lv_aload_n hx hb dX10_kept_23 rfl (lv_at hl 0 rfl) ?_
    refine t_getN (D := D) (ci := 7) (v := .ref (zg S 0 0 (3 * k))) (C := RX8) (T := TX8) (N := 12) hx hb hts iX8 hown hK hW 2 0 k (dm2 (by omega) (by omega)) rfl rfl 7 (by decide) (zk_tab rfl (hN _ wr1120 rfl)) (fun _ h9 => h9) rfl dX10_kept_24 ?_
    refine zr_i (va_runV (As := []) (rest := []) ⟨hx, hb, hml, hown, hts⟩ (k_X9_keptCount l D yc e0 A S Z F G q 0 (3 * k) (by first | assumption | omega | decide) (by first | assumption | omega | decide)) (cwV 0 hts (lw_V wq643 wq644 wq645 wq22 wq646) rfl rfl rfl (by decide +kernel) ⟨(Nat.le_of_ble_eq_true rfl), (Nat.le_of_ble_eq_true rfl)⟩) (tp_V hC hW hS hA 0 0 (3 * k) (dm0 (by omega) (by omega)) rfl rfl) rfl rfl hl.1 rfl (lv_room (Nat.le_of_ble_eq_true rfl)) dX10_kept_27 ⟨(Nat.le_of_ble_eq_true rfl), (Nat.le_of_ble_eq_true rfl)⟩) ?_
    exact ze_i hx hb hr hlk rfl (by unfold v_X10_kept; rw [if_neg hb1]) dX10_kept_30
  · refine lv_aload_n hx hb dX10_kept_16 rfl (lv_at hl 0 rfl) ?_
    refine zr_i (va_runV (As := []) (rest := []) ⟨hx, hb, hml, hown, hts⟩ (k_X8_unread l D yc e0 A S Z F G q 0 k (by first | assumption | omega | decide) (by first | assumption | omega | decide)) (cwV 0 hts (lw_V wq261 wq262 wq263 wq16 wq264) rfl rfl rfl (by decide +kernel) ⟨(Nat.le_of_ble_eq_true rfl), (Nat.le_of_ble_eq_true rfl)⟩) (tp_V hC hW hS hA 2 0 k (dm2 (by omega) (by omega)) rfl rfl) rfl rfl hl.1 rfl (lv_room (Nat.le_of_ble_eq_true rfl)) dX10_kept_17 ⟨(Nat.le_of_ble_eq_true rfl), (Nat.le_of_ble_eq_true rfl)⟩) ?_
    refine lv_goto (tgt := 30) hx hb dX10_kept_20 (by decide) ?_
    exact ze_i hx hb hr hlk rfl (by unfold v_X10_kept; rw [if_pos hb1]) dX10_kept_30
def v_X10_depthOf (S : TS) (F : TF) (G : TG) (q : TQ) (k : Nat) : Int32 := F 8 0 k 13
set_option maxHeartbeats 4000000 in
set_option maxRecDepth 100000 in
theorem k_X10_depthOf (l : Launch) (D : va_G) (yc : Nat → ClassId) (e0 : Nat) (A : Nat → Prop) (S : TS) (Z : Nat × Nat) (F : TF) (G : TG) (q : TQ) (k : Nat) (hk : k < zn S) : Met l yX10_depthOf (ws_ yX10_depthOf cX10_depthOf 2 (some .int)) ({ frames := 5, cells := 0, slots := 0, locals := 107 }) (PT D yc e0 A S Z F G q [.ref (zg S 7 0 0), .int (nI k)]) (zQ (some (.int (v_X10_depthOf S F G q k)))) 0 0 zno := by
  refine tk_M (by decide) (Nat.le_of_ble_eq_true rfl) ?_
  intro p e s m args below meth c ls hx hb hml hr hlk hown hts hW hS hA hC hl
  have hK := hC.1
  have hN := hC.2.1
  have hn12 := hW.n12
  have hl : lv_has ls 2 [(0, .ref (zg S 7 0 0)), (1, .int (nI k))] := hl
  refine lv_aload_n hx hb dX10_depthOf_0 rfl (lv_at hl 0 rfl) ?_
  refine lv_iload_n hx hb dX10_depthOf_1 rfl (lv_at hl 1 rfl) ?_
  refine zr_q (va_runV (As := [.int (nI k)]) (rest := []) ⟨hx, hb, hml, hown, hts⟩ (k_X10_stageOf l D yc e0 A S Z F G q k (by first | assumption | omega | decide)) (cwV 1 hts (lw_V wq219 wq221 ws2 wq1 wq222) rfl rfl rfl (by decide +kernel) ⟨(Nat.le_of_ble_eq_true rfl), (Nat.le_of_ble_eq_true rfl)⟩) (tp_V hC hW hS hA 7 0 0 dm7 rfl rfl) rfl rfl hl.1 rfl (lv_room (Nat.le_of_ble_eq_true rfl)) dX10_depthOf_2 ⟨(Nat.le_of_ble_eq_true rfl), (Nat.le_of_ble_eq_true rfl)⟩) ?_
  refine t_getN (D := D) (ci := 7) (v := .ref (zg S 8 0 k)) (C := RX8) (T := TX8) (N := 12) hx hb hts iX8 hown hK hW 2 0 k (dm2 (by omega) (by omega)) rfl rfl 0 (by decide) (zk_tab rfl (hN _ wr1104 rfl)) (fun _ h9 => h9) rfl dX10_depthOf_5 ?_
  refine t_getN (D := D) (ci := 4) (v := .int (F 8 0 k 13)) (C := RX5) (T := TX5) (N := 15) hx hb hts iX5 hown hK hW 8 0 k (dm8 (by omega)) rfl rfl 13 (by decide) (zk_tab rfl (hN _ wr861 rfl)) (fun _ h9 => h9) rfl dX10_depthOf_8 ?_
  exact ze_i hx hb hr hlk rfl (by rfl) dX10_depthOf_11
def v_X10_isReady (S : TS) (F : TF) (G : TG) (q : TQ) (k : Nat) : Int32 := v_X8_canWork S F G q 0 k (F 6 0 0 2)
set_option maxHeartbeats 4000000 in
set_option maxRecDepth 100000 in
theorem k_X10_isReady (l : Launch) (D : va_G) (yc : Nat → ClassId) (e0 : Nat) (A : Nat → Prop) (S : TS) (Z : Nat × Nat) (F : TF) (G : TG) (q : TQ) (k : Nat) (hk : k < zn S) : Met l yX10_isReady (ws_ yX10_isReady cX10_isReady 2 (some .boolean)) ({ frames := 6, cells := 0, slots := 0, locals := 128 }) (PT D yc e0 A S Z F G q [.ref (zg S 7 0 0), .int (nI k)]) (zQ (some (.int (v_X10_isReady S F G q k)))) 0 0 zno := by
  refine tk_M (by decide) (Nat.le_of_ble_eq_true rfl) ?_
  intro p e s m args below meth c ls hx hb hml hr hlk hown hts hW hS hA hC hl
  have hK := hC.1
  have hN := hC.2.1
  have hn12 := hW.n12
  have hl : lv_has ls 2 [(0, .ref (zg S 7 0 0)), (1, .int (nI k))] := hl
  refine lv_aload_n hx hb dX10_isReady_0 rfl (lv_at hl 0 rfl) ?_
  refine lv_iload_n hx hb dX10_isReady_1 rfl (lv_at hl 1 rfl) ?_
  refine zr_q (va_runV (As := [.int (nI k)]) (rest := []) ⟨hx, hb, hml, hown, hts⟩ (k_X10_stageOf l D yc e0 A S Z F G q k (by first | assumption | omega | decide)) (cwV 1 hts (lw_V wq219 wq221 ws2 wq1 wq222) rfl rfl rfl (by decide +kernel) ⟨(Nat.le_of_ble_eq_true rfl), (Nat.le_of_ble_eq_true rfl)⟩) (tp_V hC hW hS hA 7 0 0 dm7 rfl rfl) rfl rfl hl.1 rfl (lv_room (Nat.le_of_ble_eq_true rfl)) dX10_isReady_2 ⟨(Nat.le_of_ble_eq_true rfl), (Nat.le_of_ble_eq_true rfl)⟩) ?_
  refine lv_aload_n hx hb dX10_isReady_5 rfl (lv_at hl 0 rfl) ?_
  refine t_get (D := D) (ci := 9) (v := .ref (zg S 6 0 0)) (C := RX10) (T := TX10) (N := 5) hx hb hts iX10 hown hK hW 7 0 0 dm7 rfl rfl 0 (by decide) (hts _ wq95) (fun _ h9 => h9) rfl dX10_isReady_6 ?_
  refine t_getN (D := D) (ci := 2) (v := .int (F 6 0 0 2)) (C := RX2) (T := TX2) (N := 8) hx hb hts iX2 hown hK hW 6 0 0 (dm6 (by omega)) rfl rfl 2 (by decide) (zk_tab rfl (hN _ wr70 rfl)) (fun _ h9 => h9) rfl dX10_isReady_9 ?_
  refine zr_i (va_runV (As := [.int (F 6 0 0 2)]) (rest := []) ⟨hx, hb, hml, hown, hts⟩ (k_X8_canWork l D yc e0 A S Z F G q 0 k (F 6 0 0 2) (by first | assumption | omega | decide) (by first | assumption | omega | decide)) (cwV 1 hts (lw_V wq592 wq283 wq284 wq16 wq285) rfl rfl rfl (by decide +kernel) ⟨(Nat.le_of_ble_eq_true rfl), (Nat.le_of_ble_eq_true rfl)⟩) (tp_V hC hW hS hA 2 0 k (dm2 (by omega) (by omega)) rfl rfl) rfl rfl hl.1 rfl (lv_room (Nat.le_of_ble_eq_true rfl)) dX10_isReady_12 ⟨(Nat.le_of_ble_eq_true rfl), (Nat.le_of_ble_eq_true rfl)⟩) ?_
  exact ze_i hx hb hr hlk (zk_nb (by unfold v_X8_canWork; repeat (first | exact Or.inl rfl | exact Or.inr rfl | split))) (by rfl) dX10_isReady_15
def v_X10_hasRoom (S : TS) (F : TF) (G : TG) (q : TQ) (k : Nat) : Int32 := v_X4_isBelow S F G q 0 k (F 6 0 0 2)
set_option maxHeartbeats 4000000 in
set_option maxRecDepth 100000 in
theorem k_X10_hasRoom (l : Launch) (D : va_G) (yc : Nat → ClassId) (e0 : Nat) (A : Nat → Prop) (S : TS) (Z : Nat × Nat) (F : TF) (G : TG) (q : TQ) (k : Nat) (hk : k < zn S) : Met l yX10_hasRoom (ws_ yX10_hasRoom cX10_hasRoom 2 (some .boolean)) ({ frames := 5, cells := 0, slots := 0, locals := 107 }) (PT D yc e0 A S Z F G q [.ref (zg S 7 0 0), .int (nI k)]) (zQ (some (.int (v_X10_hasRoom S F G q k)))) 0 0 zno := by
  refine tk_M (by decide) (Nat.le_of_ble_eq_true rfl) ?_
  intro p e s m args below meth c ls hx hb hml hr hlk hown hts hW hS hA hC hl
  have hK := hC.1
  have hN := hC.2.1
  have hn12 := hW.n12
  have hl : lv_has ls 2 [(0, .ref (zg S 7 0 0)), (1, .int (nI k))] := hl
  refine lv_aload_n hx hb dX10_hasRoom_0 rfl (lv_at hl 0 rfl) ?_
  refine lv_iload_n hx hb dX10_hasRoom_1 rfl (lv_at hl 1 rfl) ?_
  refine zr_q (va_runV (As := [.int (nI k)]) (rest := []) ⟨hx, hb, hml, hown, hts⟩ (k_X10_stageOf l D yc e0 A S Z F G q k (by first | assumption | omega | decide)) (cwV 1 hts (lw_V wq219 wq221 ws2 wq1 wq222) rfl rfl rfl (by decide +kernel) ⟨(Nat.le_of_ble_eq_true rfl), (Nat.le_of_ble_eq_true rfl)⟩) (tp_V hC hW hS hA 7 0 0 dm7 rfl rfl) rfl rfl hl.1 rfl (lv_room (Nat.le_of_ble_eq_true rfl)) dX10_hasRoom_2 ⟨(Nat.le_of_ble_eq_true rfl), (Nat.le_of_ble_eq_true rfl)⟩) ?_
  refine t_getN (D := D) (ci := 7) (v := .ref (zg S 3 0 k)) (C := RX8) (T := TX8) (N := 12) hx hb hts iX8 hown hK hW 2 0 k (dm2 (by omega) (by omega)) rfl rfl 5 (by decide) (zk_tab rfl (hN _ wr1115 rfl)) (fun _ h9 => h9) rfl dX10_hasRoom_5 ?_
  refine lv_aload_n hx hb dX10_hasRoom_8 rfl (lv_at hl 0 rfl) ?_
  refine t_get (D := D) (ci := 9) (v := .ref (zg S 6 0 0)) (C := RX10) (T := TX10) (N := 5) hx hb hts iX10 hown hK hW 7 0 0 dm7 rfl rfl 0 (by decide) (hts _ wq95) (fun _ h9 => h9) rfl dX10_hasRoom_9 ?_
  refine t_getN (D := D) (ci := 2) (v := .int (F 6 0 0 2)) (C := RX2) (T := TX2) (N := 8) hx hb hts iX2 hown hK hW 6 0 0 (dm6 (by omega)) rfl rfl 2 (by decide) (zk_tab rfl (hN _ wr70 rfl)) (fun _ h9 => h9) rfl dX10_hasRoom_12 ?_
  refine zr_i (va_runV (As := [.int (F 6 0 0 2)]) (rest := []) ⟨hx, hb, hml, hown, hts⟩ (k_X4_isBelow l D yc e0 A S Z F G q 0 k (F 6 0 0 2) (by first | assumption | omega | decide) (by first | assumption | omega | decide)) (cwV 1 hts (lw_V wq758 wq287 wq288 wq21 wq289) rfl rfl rfl (by decide +kernel) ⟨(Nat.le_of_ble_eq_true rfl), (Nat.le_of_ble_eq_true rfl)⟩) (tp_V hC hW hS hA 3 0 k (dm3 (by omega) (by omega)) rfl rfl) rfl rfl hl.1 rfl (lv_room (Nat.le_of_ble_eq_true rfl)) dX10_hasRoom_15 ⟨(Nat.le_of_ble_eq_true rfl), (Nat.le_of_ble_eq_true rfl)⟩) ?_
  exact ze_i hx hb hr hlk (zk_nb (by unfold v_X4_isBelow; repeat (first | exact Or.inl rfl | exact Or.inr rfl | split))) (by rfl) dX10_hasRoom_18
def v_X10_queued0 (S : TS) (F : TF) (G : TG) (q : TQ) (k : Nat) : Int32 := if (zp S 0 k).isSome = true then v_X1_length S F G q 4 0 k else (-1)
set_option maxHeartbeats 4000000 in
set_option maxRecDepth 100000 in
theorem k_X10_queued0 (l : Launch) (D : va_G) (yc : Nat → ClassId) (e0 : Nat) (A : Nat → Prop) (S : TS) (Z : Nat × Nat) (F : TF) (G : TG) (q : TQ) (k : Nat) (hk : k < zn S) : Met l yX10_queued (ws_ yX10_queued cX10_queued 4 (some .int)) ({ frames := 5, cells := 0, slots := 0, locals := 107 }) (PT D yc e0 A S Z F G q [.ref (zg S 7 0 0), .int (nI k), .int 0]) (zQ (some (.int (v_X10_queued0 S F G q k)))) 0 0 zno := by
  refine tk_M (by decide) (Nat.le_of_ble_eq_true rfl) ?_
  intro p e s m args below meth c ls hx hb hml hr hlk hown hts hW hS hA hC hl
  have hK := hC.1
  have hN := hC.2.1
  have hn12 := hW.n12
  have hl : lv_has ls 4 [(0, .ref (zg S 7 0 0)), (1, .int (nI k)), (2, .int 0)] := hl
  refine lv_aload_n hx hb dX10_queued_0 rfl (lv_at hl 0 rfl) ?_
  refine lv_iload_n hx hb dX10_queued_1 rfl (lv_at hl 1 rfl) ?_
  refine zr_q (va_runV (As := [.int (nI k)]) (rest := []) ⟨hx, hb, hml, hown, hts⟩ (k_X10_stageOf l D yc e0 A S Z F G q k (by first | assumption | omega | decide)) (cwV 1 hts (lw_V wq219 wq221 ws2 wq1 wq222) rfl rfl rfl (by decide +kernel) ⟨(Nat.le_of_ble_eq_true rfl), (Nat.le_of_ble_eq_true rfl)⟩) (tp_V hC hW hS hA 7 0 0 dm7 rfl rfl) rfl rfl hl.1 rfl (lv_room (Nat.le_of_ble_eq_true rfl)) dX10_queued_2 ⟨(Nat.le_of_ble_eq_true rfl), (Nat.le_of_ble_eq_true rfl)⟩) ?_
  refine lv_iload_n hx hb dX10_queued_5 rfl (lv_at hl 2 rfl) ?_
  refine zr_q (va_runV (As := [.int 0]) (rest := []) ⟨hx, hb, hml, hown, hts⟩ (k_X8_channel0 l D yc e0 A S Z F G q 0 k (by first | assumption | omega | decide) (by first | assumption | omega | decide)) (cwV 1 hts (lw_V wq657 wq466 wq467 wq16 wq468) rfl rfl rfl (by decide +kernel) ⟨(Nat.le_of_ble_eq_true rfl), (Nat.le_of_ble_eq_true rfl)⟩) (tp_V hC hW hS hA 2 0 k (dm2 (by omega) (by omega)) rfl rfl) rfl rfl hl.1 rfl (lv_room (Nat.le_of_ble_eq_true rfl)) dX10_queued_6 ⟨(Nat.le_of_ble_eq_true rfl), (Nat.le_of_ble_eq_true rfl)⟩) ?_
  by_cases ho1 : (zp S 0 k).isSome = true
  · refine zk_tv (y := .ref (zg S 4 0 k)) (by show zch S 0 0 k = _; unfold zch; rw [if_pos ho1]) ?_
    refine lv_astore_n (lv' := [(3, .ref (zg S 4 0 k)), (0, .ref (zg S 7 0 0)), (1, .int (nI k)), (2, .int 0)]) hx hb dX10_queued_9 rfl hl (by decide) rfl (fun ls hl => ?_)
    refine lv_aload_n hx hb dX10_queued_10 rfl (lv_at hl 0 rfl) ?_
    refine lv_ifnonnull (tgt := 18) hx hb dX10_queued_11 (by decide) ?_
    refine lv_aload_n hx hb dX10_queued_18 rfl (lv_at hl 0 rfl) ?_
    refine zr_i (va_runV (As := []) (rest := []) ⟨hx, hb, hml, hown, hts⟩ (k_X1_length l D yc e0 A S Z F G q 4 0 k (Or.inl rfl) (dm4 (by omega) (by omega) (by assumption))) (cwV 0 hts (lw_V wq763 wq309 wq310 wq17 wq311) rfl rfl rfl (by decide +kernel) ⟨(Nat.le_of_ble_eq_true rfl), (Nat.le_of_ble_eq_true rfl)⟩) (tp_V hC hW hS hA 4 0 k (dm4 (by omega) (by omega) (by assumption)) (cel_ch (Or.inl rfl)) rfl) rfl rfl hl.1 rfl (lv_room (Nat.le_of_ble_eq_true rfl)) dX10_queued_19 ⟨(Nat.le_of_ble_eq_true rfl), (Nat.le_of_ble_eq_true rfl)⟩) ?_
    exact ze_i hx hb hr hlk rfl (by unfold v_X10_queued0; rw [if_pos ho1]) dX10_queued_22
  · refine zk_tv (y := .null) (by show zch S 0 0 k = _; unfold zch; rw [if_neg ho1]) ?_
    refine lv_astore_nN (lv' := [(3, .null), (0, .ref (zg S 7 0 0)), (1, .int (nI k)), (2, .int 0)]) hx hb dX10_queued_9 rfl hl (by decide) rfl (fun ls hl => ?_)
    refine lv_aload_nN hx hb dX10_queued_10 rfl (lv_at hl 0 rfl) ?_
    refine lv_ifnonnullN hx hb dX10_queued_11 ?_
    refine lv_iconst (v := (-1)) hx hb dX10_queued_14 (by decide) ?_
    refine lv_goto (tgt := 22) hx hb dX10_queued_15 (by decide) ?_
    exact ze_i hx hb hr hlk rfl (by unfold v_X10_queued0; rw [if_neg ho1]) dX10_queued_22
def v_X10_isBlocked0 (S : TS) (F : TF) (G : TG) (q : TQ) (k : Nat) : Int32 := if (zp S 0 k).isSome = true then if (F 4 0 k 2) = 0 then 0 else 1 else 0
set_option maxHeartbeats 4000000 in
set_option maxRecDepth 100000 in
theorem k_X10_isBlocked0 (l : Launch) (D : va_G) (yc : Nat → ClassId) (e0 : Nat) (A : Nat → Prop) (S : TS) (Z : Nat × Nat) (F : TF) (G : TG) (q : TQ) (k : Nat) (hk : k < zn S) : Met l yX10_isBlocked (ws_ yX10_isBlocked cX10_isBlocked 4 (some .boolean)) ({ frames := 5, cells := 0, slots := 0, locals := 107 }) (PT D yc e0 A S Z F G q [.ref (zg S 7 0 0), .int (nI k), .int 0]) (zQ (some (.int (v_X10_isBlocked0 S F G q k)))) 0 0 zno := by
  refine tk_M (by decide) (Nat.le_of_ble_eq_true rfl) ?_
  intro p e s m args below meth c ls hx hb hml hr hlk hown hts hW hS hA hC hl
  have hK := hC.1
  have hN := hC.2.1
  have hn12 := hW.n12
  have hl : lv_has ls 4 [(0, .ref (zg S 7 0 0)), (1, .int (nI k)), (2, .int 0)] := hl
  refine lv_aload_n hx hb dX10_isBlocked_0 rfl (lv_at hl 0 rfl) ?_
  refine lv_iload_n hx hb dX10_isBlocked_1 rfl (lv_at hl 1 rfl) ?_
  refine zr_q (va_runV (As := [.int (nI k)]) (rest := []) ⟨hx, hb, hml, hown, hts⟩ (k_X10_stageOf l D yc e0 A S Z F G q k (by first | assumption | omega | decide)) (cwV 1 hts (lw_V wq219 wq221 ws2 wq1 wq222) rfl rfl rfl (by decide +kernel) ⟨(Nat.le_of_ble_eq_true rfl), (Nat.le_of_ble_eq_true rfl)⟩) (tp_V hC hW hS hA 7 0 0 dm7 rfl rfl) rfl rfl hl.1 rfl (lv_room (Nat.le_of_ble_eq_true rfl)) dX10_isBlocked_2 ⟨(Nat.le_of_ble_eq_true rfl), (Nat.le_of_ble_eq_true rfl)⟩) ?_
  refine lv_iload_n hx hb dX10_isBlocked_5 rfl (lv_at hl 2 rfl) ?_
  refine zr_q (va_runV (As := [.int 0]) (rest := []) ⟨hx, hb, hml, hown, hts⟩ (k_X8_channel0 l D yc e0 A S Z F G q 0 k (by first | assumption | omega | decide) (by first | assumption | omega | decide)) (cwV 1 hts (lw_V wq657 wq466 wq467 wq16 wq468) rfl rfl rfl (by decide +kernel) ⟨(Nat.le_of_ble_eq_true rfl), (Nat.le_of_ble_eq_true rfl)⟩) (tp_V hC hW hS hA 2 0 k (dm2 (by omega) (by omega)) rfl rfl) rfl rfl hl.1 rfl (lv_room (Nat.le_of_ble_eq_true rfl)) dX10_isBlocked_6 ⟨(Nat.le_of_ble_eq_true rfl), (Nat.le_of_ble_eq_true rfl)⟩) ?_
  by_cases ho1 : (zp S 0 k).isSome = true
  · refine zk_tv (y := .ref (zg S 4 0 k)) (by show zch S 0 0 k = _; unfold zch; rw [if_pos ho1]) ?_
    refine lv_astore_n (lv' := [(3, .ref (zg S 4 0 k)), (0, .ref (zg S 7 0 0)), (1, .int (nI k)), (2, .int 0)]) hx hb dX10_isBlocked_9 rfl hl (by decide) rfl (fun ls hl => ?_)
    refine lv_aload_n hx hb dX10_isBlocked_10 rfl (lv_at hl 0 rfl) ?_
    refine lv_ifnull hx hb dX10_isBlocked_11 ?_
    refine lv_aload_n hx hb dX10_isBlocked_14 rfl (lv_at hl 0 rfl) ?_
    refine t_getN (D := D) (ci := 1) (v := .int (F 4 0 k 2)) (C := RX1) (T := TX1) (N := 3) hx hb hts iX1 hown hK hW 4 0 k (dm4 (by omega) (by omega) (by assumption)) (cel_ch (Or.inl rfl)) rfl 2 (by decide) (zk_tab rfl (hN _ wr943 rfl)) (fun _ h9 => h9) rfl dX10_isBlocked_15 ?_
    refine lv_if_eq (tgt := 25) hx hb dX10_isBlocked_18 (by decide) (fun hb2 => ?_) (fun hb2 => ?_)
    · refine lv_iconst (v := 0) hx hb dX10_isBlocked_25 (by decide) ?_
      exact ze_i hx hb hr hlk rfl (by unfold v_X10_isBlocked0; rw [if_pos ho1, if_pos hb2]) dX10_isBlocked_26
    · refine lv_iconst (v := 1) hx hb dX10_isBlocked_21 (by decide) ?_
      refine lv_goto (tgt := 26) hx hb dX10_isBlocked_22 (by decide) ?_
      exact ze_i hx hb hr hlk rfl (by unfold v_X10_isBlocked0; rw [if_pos ho1, if_neg hb2]) dX10_isBlocked_26
  · refine zk_tv (y := .null) (by show zch S 0 0 k = _; unfold zch; rw [if_neg ho1]) ?_
    refine lv_astore_nN (lv' := [(3, .null), (0, .ref (zg S 7 0 0)), (1, .int (nI k)), (2, .int 0)]) hx hb dX10_isBlocked_9 rfl hl (by decide) rfl (fun ls hl => ?_)
    refine lv_aload_nN hx hb dX10_isBlocked_10 rfl (lv_at hl 0 rfl) ?_
    refine lv_ifnullN (tgt := 25) hx hb dX10_isBlocked_11 (by decide) ?_
    refine lv_iconst (v := 0) hx hb dX10_isBlocked_25 (by decide) ?_
    exact ze_i hx hb hr hlk rfl (by unfold v_X10_isBlocked0; rw [if_neg ho1]) dX10_isBlocked_26
def v_X10_queued1 (S : TS) (F : TF) (G : TG) (q : TQ) (k : Nat) : Int32 := if (zp S 1 k).isSome = true then v_X1_length S F G q 5 0 k else (-1)
set_option maxHeartbeats 4000000 in
set_option maxRecDepth 100000 in
theorem k_X10_queued1 (l : Launch) (D : va_G) (yc : Nat → ClassId) (e0 : Nat) (A : Nat → Prop) (S : TS) (Z : Nat × Nat) (F : TF) (G : TG) (q : TQ) (k : Nat) (hk : k < zn S) : Met l yX10_queued (ws_ yX10_queued cX10_queued 4 (some .int)) ({ frames := 5, cells := 0, slots := 0, locals := 107 }) (PT D yc e0 A S Z F G q [.ref (zg S 7 0 0), .int (nI k), .int 1]) (zQ (some (.int (v_X10_queued1 S F G q k)))) 0 0 zno := by
  refine tk_M (by decide) (Nat.le_of_ble_eq_true rfl) ?_
  intro p e s m args below meth c ls hx hb hml hr hlk hown hts hW hS hA hC hl
  have hK := hC.1
  have hN := hC.2.1
  have hn12 := hW.n12
  have hl : lv_has ls 4 [(0, .ref (zg S 7 0 0)), (1, .int (nI k)), (2, .int 1)] := hl
  refine lv_aload_n hx hb dX10_queued_0 rfl (lv_at hl 0 rfl) ?_
  refine lv_iload_n hx hb dX10_queued_1 rfl (lv_at hl 1 rfl) ?_
  refine zr_q (va_runV (As := [.int (nI k)]) (rest := []) ⟨hx, hb, hml, hown, hts⟩ (k_X10_stageOf l D yc e0 A S Z F G q k (by first | assumption | omega | decide)) (cwV 1 hts (lw_V wq219 wq221 ws2 wq1 wq222) rfl rfl rfl (by decide +kernel) ⟨(Nat.le_of_ble_eq_true rfl), (Nat.le_of_ble_eq_true rfl)⟩) (tp_V hC hW hS hA 7 0 0 dm7 rfl rfl) rfl rfl hl.1 rfl (lv_room (Nat.le_of_ble_eq_true rfl)) dX10_queued_2 ⟨(Nat.le_of_ble_eq_true rfl), (Nat.le_of_ble_eq_true rfl)⟩) ?_
  refine lv_iload_n hx hb dX10_queued_5 rfl (lv_at hl 2 rfl) ?_
  refine zr_q (va_runV (As := [.int 1]) (rest := []) ⟨hx, hb, hml, hown, hts⟩ (k_X8_channel1 l D yc e0 A S Z F G q 0 k (by first | assumption | omega | decide) (by first | assumption | omega | decide)) (cwV 1 hts (lw_V wq657 wq466 wq467 wq16 wq468) rfl rfl rfl (by decide +kernel) ⟨(Nat.le_of_ble_eq_true rfl), (Nat.le_of_ble_eq_true rfl)⟩) (tp_V hC hW hS hA 2 0 k (dm2 (by omega) (by omega)) rfl rfl) rfl rfl hl.1 rfl (lv_room (Nat.le_of_ble_eq_true rfl)) dX10_queued_6 ⟨(Nat.le_of_ble_eq_true rfl), (Nat.le_of_ble_eq_true rfl)⟩) ?_
  by_cases ho1 : (zp S 1 k).isSome = true
  · refine zk_tv (y := .ref (zg S 5 0 k)) (by show zch S 1 0 k = _; unfold zch; rw [if_pos ho1]) ?_
    refine lv_astore_n (lv' := [(3, .ref (zg S 5 0 k)), (0, .ref (zg S 7 0 0)), (1, .int (nI k)), (2, .int 1)]) hx hb dX10_queued_9 rfl hl (by decide) rfl (fun ls hl => ?_)
    refine lv_aload_n hx hb dX10_queued_10 rfl (lv_at hl 0 rfl) ?_
    refine lv_ifnonnull (tgt := 18) hx hb dX10_queued_11 (by decide) ?_
    refine lv_aload_n hx hb dX10_queued_18 rfl (lv_at hl 0 rfl) ?_
    refine zr_i (va_runV (As := []) (rest := []) ⟨hx, hb, hml, hown, hts⟩ (k_X1_length l D yc e0 A S Z F G q 5 0 k (Or.inr rfl) (dm5 (by omega) (by omega) (by assumption))) (cwV 0 hts (lw_V wq763 wq309 wq310 wq17 wq311) rfl rfl rfl (by decide +kernel) ⟨(Nat.le_of_ble_eq_true rfl), (Nat.le_of_ble_eq_true rfl)⟩) (tp_V hC hW hS hA 5 0 k (dm5 (by omega) (by omega) (by assumption)) (cel_ch (Or.inr rfl)) rfl) rfl rfl hl.1 rfl (lv_room (Nat.le_of_ble_eq_true rfl)) dX10_queued_19 ⟨(Nat.le_of_ble_eq_true rfl), (Nat.le_of_ble_eq_true rfl)⟩) ?_
    exact ze_i hx hb hr hlk rfl (by unfold v_X10_queued1; rw [if_pos ho1]) dX10_queued_22
  · refine zk_tv (y := .null) (by show zch S 1 0 k = _; unfold zch; rw [if_neg ho1]) ?_
    refine lv_astore_nN (lv' := [(3, .null), (0, .ref (zg S 7 0 0)), (1, .int (nI k)), (2, .int 1)]) hx hb dX10_queued_9 rfl hl (by decide) rfl (fun ls hl => ?_)
    refine lv_aload_nN hx hb dX10_queued_10 rfl (lv_at hl 0 rfl) ?_
    refine lv_ifnonnullN hx hb dX10_queued_11 ?_
    refine lv_iconst (v := (-1)) hx hb dX10_queued_14 (by decide) ?_
    refine lv_goto (tgt := 22) hx hb dX10_queued_15 (by decide) ?_
    exact ze_i hx hb hr hlk rfl (by unfold v_X10_queued1; rw [if_neg ho1]) dX10_queued_22
def v_X10_isBlocked1 (S : TS) (F : TF) (G : TG) (q : TQ) (k : Nat) : Int32 := if (zp S 1 k).isSome = true then if (F 5 0 k 2) = 0 then 0 else 1 else 0
set_option maxHeartbeats 4000000 in
set_option maxRecDepth 100000 in
theorem k_X10_isBlocked1 (l : Launch) (D : va_G) (yc : Nat → ClassId) (e0 : Nat) (A : Nat → Prop) (S : TS) (Z : Nat × Nat) (F : TF) (G : TG) (q : TQ) (k : Nat) (hk : k < zn S) : Met l yX10_isBlocked (ws_ yX10_isBlocked cX10_isBlocked 4 (some .boolean)) ({ frames := 5, cells := 0, slots := 0, locals := 107 }) (PT D yc e0 A S Z F G q [.ref (zg S 7 0 0), .int (nI k), .int 1]) (zQ (some (.int (v_X10_isBlocked1 S F G q k)))) 0 0 zno := by
  refine tk_M (by decide) (Nat.le_of_ble_eq_true rfl) ?_
  intro p e s m args below meth c ls hx hb hml hr hlk hown hts hW hS hA hC hl
  have hK := hC.1
  have hN := hC.2.1
  have hn12 := hW.n12
  have hl : lv_has ls 4 [(0, .ref (zg S 7 0 0)), (1, .int (nI k)), (2, .int 1)] := hl
  refine lv_aload_n hx hb dX10_isBlocked_0 rfl (lv_at hl 0 rfl) ?_
  refine lv_iload_n hx hb dX10_isBlocked_1 rfl (lv_at hl 1 rfl) ?_
  refine zr_q (va_runV (As := [.int (nI k)]) (rest := []) ⟨hx, hb, hml, hown, hts⟩ (k_X10_stageOf l D yc e0 A S Z F G q k (by first | assumption | omega | decide)) (cwV 1 hts (lw_V wq219 wq221 ws2 wq1 wq222) rfl rfl rfl (by decide +kernel) ⟨(Nat.le_of_ble_eq_true rfl), (Nat.le_of_ble_eq_true rfl)⟩) (tp_V hC hW hS hA 7 0 0 dm7 rfl rfl) rfl rfl hl.1 rfl (lv_room (Nat.le_of_ble_eq_true rfl)) dX10_isBlocked_2 ⟨(Nat.le_of_ble_eq_true rfl), (Nat.le_of_ble_eq_true rfl)⟩) ?_
  refine lv_iload_n hx hb dX10_isBlocked_5 rfl (lv_at hl 2 rfl) ?_
  refine zr_q (va_runV (As := [.int 1]) (rest := []) ⟨hx, hb, hml, hown, hts⟩ (k_X8_channel1 l D yc e0 A S Z F G q 0 k (by first | assumption | omega | decide) (by first | assumption | omega | decide)) (cwV 1 hts (lw_V wq657 wq466 wq467 wq16 wq468) rfl rfl rfl (by decide +kernel) ⟨(Nat.le_of_ble_eq_true rfl), (Nat.le_of_ble_eq_true rfl)⟩) (tp_V hC hW hS hA 2 0 k (dm2 (by omega) (by omega)) rfl rfl) rfl rfl hl.1 rfl (lv_room (Nat.le_of_ble_eq_true rfl)) dX10_isBlocked_6 ⟨(Nat.le_of_ble_eq_true rfl), (Nat.le_of_ble_eq_true rfl)⟩) ?_
  by_cases ho1 : (zp S 1 k).isSome = true
  · refine zk_tv (y := .ref (zg S 5 0 k)) (by show zch S 1 0 k = _; unfold zch; rw [if_pos ho1]) ?_
    refine lv_astore_n (lv' := [(3, .ref (zg S 5 0 k)), (0, .ref (zg S 7 0 0)), (1, .int (nI k)), (2, .int 1)]) hx hb dX10_isBlocked_9 rfl hl (by decide) rfl (fun ls hl => ?_)
    refine lv_aload_n hx hb dX10_isBlocked_10 rfl (lv_at hl 0 rfl) ?_
    refine lv_ifnull hx hb dX10_isBlocked_11 ?_
    refine lv_aload_n hx hb dX10_isBlocked_14 rfl (lv_at hl 0 rfl) ?_
    refine t_getN (D := D) (ci := 1) (v := .int (F 5 0 k 2)) (C := RX1) (T := TX1) (N := 3) hx hb hts iX1 hown hK hW 5 0 k (dm5 (by omega) (by omega) (by assumption)) (cel_ch (Or.inr rfl)) rfl 2 (by decide) (zk_tab rfl (hN _ wr943 rfl)) (fun _ h9 => h9) rfl dX10_isBlocked_15 ?_
    refine lv_if_eq (tgt := 25) hx hb dX10_isBlocked_18 (by decide) (fun hb2 => ?_) (fun hb2 => ?_)
    · refine lv_iconst (v := 0) hx hb dX10_isBlocked_25 (by decide) ?_
      exact ze_i hx hb hr hlk rfl (by unfold v_X10_isBlocked1; rw [if_pos ho1, if_pos hb2]) dX10_isBlocked_26
    · refine lv_iconst (v := 1) hx hb dX10_isBlocked_21 (by decide) ?_
      refine lv_goto (tgt := 26) hx hb dX10_isBlocked_22 (by decide) ?_
      exact ze_i hx hb hr hlk rfl (by unfold v_X10_isBlocked1; rw [if_pos ho1, if_neg hb2]) dX10_isBlocked_26
  · refine zk_tv (y := .null) (by show zch S 1 0 k = _; unfold zch; rw [if_neg ho1]) ?_
    refine lv_astore_nN (lv' := [(3, .null), (0, .ref (zg S 7 0 0)), (1, .int (nI k)), (2, .int 1)]) hx hb dX10_isBlocked_9 rfl hl (by decide) rfl (fun ls hl => ?_)
    refine lv_aload_nN hx hb dX10_isBlocked_10 rfl (lv_at hl 0 rfl) ?_
    refine lv_ifnullN (tgt := 25) hx hb dX10_isBlocked_11 (by decide) ?_
    refine lv_iconst (v := 0) hx hb dX10_isBlocked_25 (by decide) ?_
    exact ze_i hx hb hr hlk rfl (by unfold v_X10_isBlocked1; rw [if_neg ho1]) dX10_isBlocked_26
def v_X10_nextEnd (S : TS) (F : TF) (G : TG) (q : TQ) (k : Nat) : Int32 := if (v_X7_length S F G q 0 (3 * k)) ≤ (v_X7_firstEndingAbove S F G q 0 (3 * k) (F 0 0 (3 * k) 0)) then (-1) else v_X7_endAt S F G q 0 (3 * k) (v_X7_firstEndingAbove S F G q 0 (3 * k) (F 0 0 (3 * k) 0))
set_option maxHeartbeats 4000000 in
set_option maxRecDepth 100000 in
theorem k_X10_nextEnd (l : Launch) (D : va_G) (yc : Nat → ClassId) (e0 : Nat) (A : Nat → Prop) (S : TS) (Z : Nat × Nat) (F : TF) (G : TG) (q : TQ) (k : Nat) (hk : k < zn S) (hs : F 8 0 k 0 = 3 ∨ F 8 0 k 0 = 4) : Met l yX10_nextEnd (ws_ yX10_nextEnd cX10_nextEnd 5 (some .int)) ({ frames := 6, cells := 0, slots := 0, locals := 129 }) (PT D yc e0 A S Z F G q [.ref (zg S 7 0 0), .int (nI k)]) (zQ (some (.int (v_X10_nextEnd S F G q k)))) 0 0 zno := by
  refine tk_M (by decide) (Nat.le_of_ble_eq_true rfl) ?_
  intro p e s m args below meth c ls hx hb hml hr hlk hown hts hW hS hA hC hl
  have hK := hC.1
  have hN := hC.2.1
  have hn12 := hW.n12
  have hl : lv_has ls 5 [(0, .ref (zg S 7 0 0)), (1, .int (nI k))] := hl
  refine lv_aload_n hx hb dX10_nextEnd_0 rfl (lv_at hl 0 rfl) ?_
  refine lv_iload_n hx hb dX10_nextEnd_1 rfl (lv_at hl 1 rfl) ?_
  refine zr_q (va_runV (As := [.int (nI k)]) (rest := []) ⟨hx, hb, hml, hown, hts⟩ (k_X10_spanStageOf l D yc e0 A S Z F G q k (by first | assumption | omega | decide) (by first | assumption | omega | decide)) (cwV 1 hts (lw_V wq773 wq775 ws22 wq1 wq776) rfl rfl rfl (by decide +kernel) ⟨(Nat.le_of_ble_eq_true rfl), (Nat.le_of_ble_eq_true rfl)⟩) (tp_V hC hW hS hA 7 0 0 dm7 rfl rfl) rfl rfl hl.1 rfl (lv_room (Nat.le_of_ble_eq_true rfl)) dX10_nextEnd_2 ⟨(Nat.le_of_ble_eq_true rfl), (Nat.le_of_ble_eq_true rfl)⟩) ?_
  refine zk_tv (y := .ref (zg S 2 0 k)) (by unfold v_X10_spanStageOf; repeat' (first | rfl | split)) ?_
  refine lv_astore_n (lv' := [(2, .ref (zg S 2 0 k)), (0, .ref (zg S 7 0 0)), (1, .int (nI k))]) hx hb dX10_nextEnd_5 rfl hl (by decide) rfl (fun ls hl => ?_)
  refine lv_aload_n hx hb dX10_nextEnd_6 rfl (lv_at hl 0 rfl) ?_
  refine t_getN (D := D) (ci := 7) (v := .ref (zg S 0 0 (3 * k))) (C := RX8) (T := TX8) (N := 12) hx hb hts iX8 hown hK hW 2 0 k (dm2 (by omega) (by omega)) rfl rfl 7 (by decide) (zk_tab rfl (hN _ wr1120 rfl)) (fun _ h9 => h9) rfl dX10_nextEnd_7 ?_
  refine t_getN (D := D) (ci := 8) (v := .ref (zg S 1 0 (3 * k))) (C := RX9) (T := TX9) (N := 11) hx hb hts iX9 hown hK hW 0 0 (3 * k) (dm0 (by omega) (by omega)) rfl rfl 8 (by decide) (zk_tab rfl (hN _ wr1075 rfl)) (fun _ h9 => h9) rfl dX10_nextEnd_10 ?_
  refine lv_astore_n (lv' := [(3, .ref (zg S 1 0 (3 * k))), (2, .ref (zg S 2 0 k)), (0, .ref (zg S 7 0 0)), (1, .int (nI k))]) hx hb dX10_nextEnd_13 rfl hl (by decide) rfl (fun ls hl => ?_)
  refine lv_aload_n hx hb dX10_nextEnd_14 rfl (lv_at hl 0 rfl) ?_
  refine lv_aload_n hx hb dX10_nextEnd_15 rfl (lv_at hl 1 rfl) ?_
  refine t_getN (D := D) (ci := 7) (v := .ref (zg S 0 0 (3 * k))) (C := RX8) (T := TX8) (N := 12) hx hb hts iX8 hown hK hW 2 0 k (dm2 (by omega) (by omega)) rfl rfl 7 (by decide) (zk_tab rfl (hN _ wr1120 rfl)) (fun _ h9 => h9) rfl dX10_nextEnd_16 ?_
  refine t_getN (D := D) (ci := 8) (v := .int (F 0 0 (3 * k) 0)) (C := RX9) (T := TX9) (N := 11) hx hb hts iX9 hown hK hW 0 0 (3 * k) (dm0 (by omega) (by omega)) rfl rfl 0 (by decide) (zk_tab rfl (hN _ wr1053 rfl)) (fun _ h9 => h9) rfl dX10_nextEnd_19 ?_
  refine zr_i (va_runV (As := [.int (F 0 0 (3 * k) 0)]) (rest := []) ⟨hx, hb, hml, hown, hts⟩ (k_X7_firstEndingAbove l D yc e0 A S Z F G q 0 (3 * k) (F 0 0 (3 * k) 0) (by first | assumption | omega | decide) (by first | assumption | omega | decide)) (cwV 1 hts (lw_V wq777 wq409 wq410 wq23 wq411) rfl rfl rfl (by decide +kernel) ⟨(Nat.le_of_ble_eq_true rfl), (Nat.le_of_ble_eq_true rfl)⟩) (tp_V hC hW hS hA 1 0 (3 * k) (dm1 (by omega) (by omega)) rfl rfl) rfl rfl hl.1 rfl (lv_room (Nat.le_of_ble_eq_true rfl)) dX10_nextEnd_22 ⟨(Nat.le_of_ble_eq_true rfl), (Nat.le_of_ble_eq_true rfl)⟩) ?_
  refine lv_istore (lv' := [(4, .int (v_X7_firstEndingAbove S F G q 0 (3 * k) (F 0 0 (3 * k) 0))), (3, .ref (zg S 1 0 (3 * k))), (2, .ref (zg S 2 0 k)), (0, .ref (zg S 7 0 0)), (1, .int (nI k))]) hx hb dX10_nextEnd_25 hl (by decide) rfl (fun ls hl => ?_)
  refine lv_iload hx hb dX10_nextEnd_27 (lv_at hl 0 rfl) ?_
  refine lv_aload_n hx hb dX10_nextEnd_29 rfl (lv_at hl 1 rfl) ?_
  refine zr_i (va_runV (As := []) (rest := [.int (v_X7_firstEndingAbove S F G q 0 (3 * k) (F 0 0 (3 * k) 0))]) ⟨hx, hb, hml, hown, hts⟩ (k_X7_length l D yc e0 A S Z F G q 0 (3 * k) (by first | assumption | omega | decide) (by first | assumption | omega | decide)) (cwV 0 hts (lw_V wq778 wq552 wq553 wq23 wq554) rfl rfl rfl (by decide +kernel) ⟨(Nat.le_of_ble_eq_true rfl), (Nat.le_of_ble_eq_true rfl)⟩) (tp_V hC hW hS hA 1 0 (3 * k) (dm1 (by omega) (by omega)) rfl rfl) rfl rfl hl.1 rfl (lv_room (Nat.le_of_ble_eq_true rfl)) dX10_nextEnd_30 ⟨(Nat.le_of_ble_eq_true rfl), (Nat.le_of_ble_eq_true rfl)⟩) ?_
  refine lv_icmp_ge (tgt := 45) hx hb dX10_nextEnd_33 (by decide) (fun hb1 => ?_) (fun hb1 => ?_)
  · refine lv_iconst (v := (-1)) hx hb dX10_nextEnd_45 (by decide) ?_
    exact ze_i hx hb hr hlk rfl (by unfold v_X10_nextEnd; rw [if_pos hb1]) dX10_nextEnd_46
  · refine lv_aload_n hx hb dX10_nextEnd_36 rfl (lv_at hl 1 rfl) ?_
    refine lv_iload hx hb dX10_nextEnd_37 (lv_at hl 0 rfl) ?_
    refine zr_i (va_runV (As := [.int (v_X7_firstEndingAbove S F G q 0 (3 * k) (F 0 0 (3 * k) 0))]) (rest := []) ⟨hx, hb, hml, hown, hts⟩ (k_X7_endAt l D yc e0 A S Z F G q 0 (3 * k) (v_X7_firstEndingAbove S F G q 0 (3 * k) (F 0 0 (3 * k) 0)) (by first | assumption | omega | decide) (by first | assumption | omega | decide)) (cwV 1 hts (lw_V wq779 wq441 wq442 wq23 wq443) rfl rfl rfl (by decide +kernel) ⟨(Nat.le_of_ble_eq_true rfl), (Nat.le_of_ble_eq_true rfl)⟩) (tp_V hC hW hS hA 1 0 (3 * k) (dm1 (by omega) (by omega)) rfl rfl) rfl rfl hl.1 rfl (lv_room (Nat.le_of_ble_eq_true rfl)) dX10_nextEnd_39 ⟨(Nat.le_of_ble_eq_true rfl), (Nat.le_of_ble_eq_true rfl)⟩) ?_
    refine lv_goto (tgt := 46) hx hb dX10_nextEnd_42 (by decide) ?_
    exact ze_i hx hb hr hlk rfl (by unfold v_X10_nextEnd; rw [if_neg hb1]) dX10_nextEnd_46
def v_X10_outputs (S : TS) (F : TF) (G : TG) (q : TQ) (k : Nat) : Int32 := F 0 0 (3 * k) 7
set_option maxHeartbeats 4000000 in
set_option maxRecDepth 100000 in
theorem k_X10_outputs (l : Launch) (D : va_G) (yc : Nat → ClassId) (e0 : Nat) (A : Nat → Prop) (S : TS) (Z : Nat × Nat) (F : TF) (G : TG) (q : TQ) (k : Nat) (hk : k < zn S) (hs : F 8 0 k 0 = 7) : Met l yX10_outputs (ws_ yX10_outputs cX10_outputs 2 (some .int)) ({ frames := 6, cells := 0, slots := 0, locals := 129 }) (PT D yc e0 A S Z F G q [.ref (zg S 7 0 0), .int (nI k)]) (zQ (some (.int (v_X10_outputs S F G q k)))) 0 0 zno := by
  refine tk_M (by decide) (Nat.le_of_ble_eq_true rfl) ?_
  intro p e s m args below meth c ls hx hb hml hr hlk hown hts hW hS hA hC hl
  have hK := hC.1
  have hN := hC.2.1
  have hn12 := hW.n12
  have hl : lv_has ls 2 [(0, .ref (zg S 7 0 0)), (1, .int (nI k))] := hl
  refine lv_aload_n hx hb dX10_outputs_0 rfl (lv_at hl 0 rfl) ?_
  refine lv_iload_n hx hb dX10_outputs_1 rfl (lv_at hl 1 rfl) ?_
  refine zr_q (va_runV (As := [.int (nI k)]) (rest := []) ⟨hx, hb, hml, hown, hts⟩ (k_X10_sinkOf l D yc e0 A S Z F G q k (by first | assumption | omega | decide) (by first | assumption | omega | decide)) (cwV 1 hts (lw_V wq662 wq664 ws20 wq1 wq665) rfl rfl rfl (by decide +kernel) ⟨(Nat.le_of_ble_eq_true rfl), (Nat.le_of_ble_eq_true rfl)⟩) (tp_V hC hW hS hA 7 0 0 dm7 rfl rfl) rfl rfl hl.1 rfl (lv_room (Nat.le_of_ble_eq_true rfl)) dX10_outputs_2 ⟨(Nat.le_of_ble_eq_true rfl), (Nat.le_of_ble_eq_true rfl)⟩) ?_
  refine t_getN (D := D) (ci := 7) (v := .ref (zg S 0 0 (3 * k))) (C := RX8) (T := TX8) (N := 12) hx hb hts iX8 hown hK hW 2 0 k (dm2 (by omega) (by omega)) rfl rfl 7 (by decide) (zk_tab rfl (hN _ wr1120 rfl)) (fun _ h9 => h9) rfl dX10_outputs_5 ?_
  refine t_getN (D := D) (ci := 8) (v := .int (F 0 0 (3 * k) 7)) (C := RX9) (T := TX9) (N := 11) hx hb hts iX9 hown hK hW 0 0 (3 * k) (dm0 (by omega) (by omega)) rfl rfl 7 (by decide) (zk_tab rfl (hN _ wr1072 rfl)) (fun _ h9 => h9) rfl dX10_outputs_8 ?_
  exact ze_i hx hb hr hlk rfl (by rfl) dX10_outputs_11
def v_X10_committed (S : TS) (F : TF) (G : TG) (q : TQ) (k : Nat) : Int32 := F 0 0 (3 * k + (G 0 k).1) 7
set_option maxHeartbeats 4000000 in
set_option maxRecDepth 100000 in
theorem k_X10_committed (l : Launch) (D : va_G) (yc : Nat → ClassId) (e0 : Nat) (A : Nat → Prop) (S : TS) (Z : Nat × Nat) (F : TF) (G : TG) (q : TQ) (k : Nat) (hk : k < zn S) (hs : F 8 0 k 0 = 7) (hG : (G 0 k).1 < 3) : Met l yX10_committed (ws_ yX10_committed cX10_committed 2 (some .int)) ({ frames := 6, cells := 0, slots := 0, locals := 129 }) (PT D yc e0 A S Z F G q [.ref (zg S 7 0 0), .int (nI k)]) (zQ (some (.int (v_X10_committed S F G q k)))) 0 0 zno := by
  refine tk_M (by decide) (Nat.le_of_ble_eq_true rfl) ?_
  intro p e s m args below meth c ls hx hb hml hr hlk hown hts hW hS hA hC hl
  have hK := hC.1
  have hN := hC.2.1
  have hn12 := hW.n12
  have hl : lv_has ls 2 [(0, .ref (zg S 7 0 0)), (1, .int (nI k))] := hl
  refine lv_aload_n hx hb dX10_committed_0 rfl (lv_at hl 0 rfl) ?_
  refine lv_iload_n hx hb dX10_committed_1 rfl (lv_at hl 1 rfl) ?_
  refine zr_q (va_runV (As := [.int (nI k)]) (rest := []) ⟨hx, hb, hml, hown, hts⟩ (k_X10_sinkOf l D yc e0 A S Z F G q k (by first | assumption | omega | decide) (by first | assumption | omega | decide)) (cwV 1 hts (lw_V wq662 wq664 ws20 wq1 wq665) rfl rfl rfl (by decide +kernel) ⟨(Nat.le_of_ble_eq_true rfl), (Nat.le_of_ble_eq_true rfl)⟩) (tp_V hC hW hS hA 7 0 0 dm7 rfl rfl) rfl rfl hl.1 rfl (lv_room (Nat.le_of_ble_eq_true rfl)) dX10_committed_2 ⟨(Nat.le_of_ble_eq_true rfl), (Nat.le_of_ble_eq_true rfl)⟩) ?_
  refine t_getN (D := D) (ci := 7) (v := .ref (zg S 0 0 (3 * k + (G 0 k).1))) (C := RX8) (T := TX8) (N := 12) hx hb hts iX8 hown hK hW 2 0 k (dm2 (by omega) (by omega)) rfl rfl 8 (by decide) (zk_tab rfl (hN _ wr1122 rfl)) (fun _ h9 => h9) rfl dX10_committed_5 ?_
  refine t_getN (D := D) (ci := 8) (v := .int (F 0 0 (3 * k + (G 0 k).1) 7)) (C := RX9) (T := TX9) (N := 11) hx hb hts iX9 hown hK hW 0 0 (3 * k + (G 0 k).1) (dm0 (by omega) (by omega)) rfl rfl 7 (by decide) (zk_tab rfl (hN _ wr1072 rfl)) (fun _ h9 => h9) rfl dX10_committed_8 ?_
  exact ze_i hx hb hr hlk rfl (by rfl) dX10_committed_11
def v_X10_complete (S : TS) (F : TF) (G : TG) (q : TQ) : Int32 := F 6 0 0 6
set_option maxHeartbeats 4000000 in
set_option maxRecDepth 100000 in
theorem k_X10_complete (l : Launch) (D : va_G) (yc : Nat → ClassId) (e0 : Nat) (A : Nat → Prop) (S : TS) (Z : Nat × Nat) (F : TF) (G : TG) (q : TQ)   : Met l yX10_complete (ws_ yX10_complete cX10_complete 1 (some .int)) ({ frames := 0, cells := 0, slots := 0, locals := 0 }) (PT D yc e0 A S Z F G q [.ref (zg S 7 0 0)]) (zQ (some (.int (v_X10_complete S F G q)))) 0 0 zno := by
  refine tk_M (by decide) (Nat.le_of_ble_eq_true rfl) ?_
  intro p e s m args below meth c ls hx hb hml hr hlk hown hts hW hS hA hC hl
  have hK := hC.1
  have hN := hC.2.1
  have hn12 := hW.n12
  have hl : lv_has ls 1 [(0, .ref (zg S 7 0 0))] := hl
  refine lv_aload_n hx hb dX10_complete_0 rfl (lv_at hl 0 rfl) ?_
  refine t_get (D := D) (ci := 9) (v := .ref (zg S 6 0 0)) (C := RX10) (T := TX10) (N := 5) hx hb hts iX10 hown hK hW 7 0 0 dm7 rfl rfl 0 (by decide) (hts _ wq95) (fun _ h9 => h9) rfl dX10_complete_1 ?_
  refine t_getN (D := D) (ci := 2) (v := .int (F 6 0 0 6)) (C := RX2) (T := TX2) (N := 8) hx hb hts iX2 hown hK hW 6 0 0 (dm6 (by omega)) rfl rfl 6 (by decide) (zk_tab rfl (hN _ wr76 rfl)) (fun _ h9 => h9) rfl dX10_complete_4 ?_
  exact ze_i hx hb hr hlk rfl (by rfl) dX10_complete_7
def v_X10_begun (S : TS) (F : TF) (G : TG) (q : TQ) : Int32 := F 6 0 0 5
set_option maxHeartbeats 4000000 in
set_option maxRecDepth 100000 in
theorem k_X10_begun (l : Launch) (D : va_G) (yc : Nat → ClassId) (e0 : Nat) (A : Nat → Prop) (S : TS) (Z : Nat × Nat) (F : TF) (G : TG) (q : TQ)   : Met l yX10_begun (ws_ yX10_begun cX10_begun 1 (some .int)) ({ frames := 0, cells := 0, slots := 0, locals := 0 }) (PT D yc e0 A S Z F G q [.ref (zg S 7 0 0)]) (zQ (some (.int (v_X10_begun S F G q)))) 0 0 zno := by
  refine tk_M (by decide) (Nat.le_of_ble_eq_true rfl) ?_
  intro p e s m args below meth c ls hx hb hml hr hlk hown hts hW hS hA hC hl
  have hK := hC.1
  have hN := hC.2.1
  have hn12 := hW.n12
  have hl : lv_has ls 1 [(0, .ref (zg S 7 0 0))] := hl
  refine lv_aload_n hx hb dX10_begun_0 rfl (lv_at hl 0 rfl) ?_
  refine t_get (D := D) (ci := 9) (v := .ref (zg S 6 0 0)) (C := RX10) (T := TX10) (N := 5) hx hb hts iX10 hown hK hW 7 0 0 dm7 rfl rfl 0 (by decide) (hts _ wq95) (fun _ h9 => h9) rfl dX10_begun_1 ?_
  refine t_getN (D := D) (ci := 2) (v := .int (F 6 0 0 5)) (C := RX2) (T := TX2) (N := 8) hx hb hts iX2 hown hK hW 6 0 0 (dm6 (by omega)) rfl rfl 5 (by decide) (zk_tab rfl (hN _ wr74 rfl)) (fun _ h9 => h9) rfl dX10_begun_4 ?_
  exact ze_i hx hb hr hlk rfl (by rfl) dX10_begun_7
def v_X10_crashes (S : TS) (F : TF) (G : TG) (q : TQ) : Int32 := F 7 0 0 3
set_option maxHeartbeats 4000000 in
set_option maxRecDepth 100000 in
theorem k_X10_crashes (l : Launch) (D : va_G) (yc : Nat → ClassId) (e0 : Nat) (A : Nat → Prop) (S : TS) (Z : Nat × Nat) (F : TF) (G : TG) (q : TQ)   : Met l yX10_crashes (ws_ yX10_crashes cX10_crashes 1 (some .int)) ({ frames := 0, cells := 0, slots := 0, locals := 0 }) (PT D yc e0 A S Z F G q [.ref (zg S 7 0 0)]) (zQ (some (.int (v_X10_crashes S F G q)))) 0 0 zno := by
  refine tk_M (by decide) (Nat.le_of_ble_eq_true rfl) ?_
  intro p e s m args below meth c ls hx hb hml hr hlk hown hts hW hS hA hC hl
  have hK := hC.1
  have hN := hC.2.1
  have hn12 := hW.n12
  have hl : lv_has ls 1 [(0, .ref (zg S 7 0 0))] := hl
  refine lv_aload_n hx hb dX10_crashes_0 rfl (lv_at hl 0 rfl) ?_
  refine t_get (D := D) (ci := 9) (v := .int (F 7 0 0 3)) (C := RX10) (T := TX10) (N := 5) hx hb hts iX10 hown hK hW 7 0 0 dm7 rfl rfl 3 (by decide) (hts _ wq98) (fun _ h9 => h9) rfl dX10_crashes_1 ?_
  exact ze_i hx hb hr hlk rfl (by rfl) dX10_crashes_4
def v_X10_worked (S : TS) (F : TF) (G : TG) (q : TQ) : Int32 := F 7 0 0 4
set_option maxHeartbeats 4000000 in
set_option maxRecDepth 100000 in
theorem k_X10_worked (l : Launch) (D : va_G) (yc : Nat → ClassId) (e0 : Nat) (A : Nat → Prop) (S : TS) (Z : Nat × Nat) (F : TF) (G : TG) (q : TQ)   : Met l yX10_worked (ws_ yX10_worked cX10_worked 1 (some .int)) ({ frames := 0, cells := 0, slots := 0, locals := 0 }) (PT D yc e0 A S Z F G q [.ref (zg S 7 0 0)]) (zQ (some (.int (v_X10_worked S F G q)))) 0 0 zno := by
  refine tk_M (by decide) (Nat.le_of_ble_eq_true rfl) ?_
  intro p e s m args below meth c ls hx hb hml hr hlk hown hts hW hS hA hC hl
  have hK := hC.1
  have hN := hC.2.1
  have hn12 := hW.n12
  have hl : lv_has ls 1 [(0, .ref (zg S 7 0 0))] := hl
  refine lv_aload_n hx hb dX10_worked_0 rfl (lv_at hl 0 rfl) ?_
  refine t_get (D := D) (ci := 9) (v := .int (F 7 0 0 4)) (C := RX10) (T := TX10) (N := 5) hx hb hts iX10 hown hK hW 7 0 0 dm7 rfl rfl 4 (by decide) (hts _ wq99) (fun _ h9 => h9) rfl dX10_worked_1 ?_
  exact ze_i hx hb hr hlk rfl (by rfl) dX10_worked_4
def v_X10_inFlight (S : TS) (F : TF) (G : TG) (q : TQ) : Int32 := v_X2_waiting S F G q 0
set_option maxHeartbeats 4000000 in
set_option maxRecDepth 100000 in
theorem k_X10_inFlight (l : Launch) (D : va_G) (yc : Nat → ClassId) (e0 : Nat) (A : Nat → Prop) (S : TS) (Z : Nat × Nat) (F : TF) (G : TG) (q : TQ)   : Met l yX10_inFlight (ws_ yX10_inFlight cX10_inFlight 1 (some .int)) ({ frames := 4, cells := 0, slots := 0, locals := 87 }) (PT D yc e0 A S Z F G q [.ref (zg S 7 0 0)]) (zQ (some (.int (v_X10_inFlight S F G q)))) 0 0 zno := by
  refine tk_M (by decide) (Nat.le_of_ble_eq_true rfl) ?_
  intro p e s m args below meth c ls hx hb hml hr hlk hown hts hW hS hA hC hl
  have hK := hC.1
  have hN := hC.2.1
  have hn12 := hW.n12
  have hl : lv_has ls 1 [(0, .ref (zg S 7 0 0))] := hl
  refine lv_aload_n hx hb dX10_inFlight_0 rfl (lv_at hl 0 rfl) ?_
  refine t_get (D := D) (ci := 9) (v := .ref (zg S 6 0 0)) (C := RX10) (T := TX10) (N := 5) hx hb hts iX10 hown hK hW 7 0 0 dm7 rfl rfl 0 (by decide) (hts _ wq95) (fun _ h9 => h9) rfl dX10_inFlight_1 ?_
  refine zr_i (va_runV (As := []) (rest := []) ⟨hx, hb, hml, hown, hts⟩ (k_X2_waiting l D yc e0 A S Z F G q 0 (by first | assumption | omega | decide)) (cwV 0 hts (lw_V wq678 wq679 wq680 wq2 wq681) rfl rfl rfl (by decide +kernel) ⟨(Nat.le_of_ble_eq_true rfl), (Nat.le_of_ble_eq_true rfl)⟩) (tp_V hC hW hS hA 6 0 0 (dm6 (by omega)) rfl rfl) rfl rfl hl.1 rfl (lv_room (Nat.le_of_ble_eq_true rfl)) dX10_inFlight_4 ⟨(Nat.le_of_ble_eq_true rfl), (Nat.le_of_ble_eq_true rfl)⟩) ?_
  exact ze_i hx hb hr hlk rfl (by rfl) dX10_inFlight_7
def v_X10_next (S : TS) (F : TF) (G : TG) (q : TQ) (w : Nat) : Int32 := v_X2_nextToWork S F G q 0 w
set_option maxHeartbeats 4000000 in
set_option maxRecDepth 100000 in
theorem k_X10_next (l : Launch) (D : va_G) (yc : Nat → ClassId) (e0 : Nat) (A : Nat → Prop) (S : TS) (Z : Nat × Nat) (F : TF) (G : TG) (q : TQ) (w : Nat) (hw : F 6 0 0 3 = nI w - 1) (hwn : w ≤ zn S) : Met l yX10_next (ws_ yX10_next cX10_next 1 (some .int)) ({ frames := 7, cells := 0, slots := 0, locals := 152 }) (PT D yc e0 A S Z F G q [.ref (zg S 7 0 0)]) (zQ (some (.int (v_X10_next S F G q w)))) 0 0 zno := by
  refine tk_M (by decide) (Nat.le_of_ble_eq_true rfl) ?_
  intro p e s m args below meth c ls hx hb hml hr hlk hown hts hW hS hA hC hl
  have hK := hC.1
  have hN := hC.2.1
  have hn12 := hW.n12
  have hl : lv_has ls 1 [(0, .ref (zg S 7 0 0))] := hl
  refine lv_aload_n hx hb dX10_next_0 rfl (lv_at hl 0 rfl) ?_
  refine t_get (D := D) (ci := 9) (v := .ref (zg S 6 0 0)) (C := RX10) (T := TX10) (N := 5) hx hb hts iX10 hown hK hW 7 0 0 dm7 rfl rfl 0 (by decide) (hts _ wq95) (fun _ h9 => h9) rfl dX10_next_1 ?_
  refine zr_i (va_runV (As := []) (rest := []) ⟨hx, hb, hml, hown, hts⟩ (k_X2_nextToWork l D yc e0 A S Z F G q 0 w (by first | assumption | omega | decide) (by first | assumption | omega | decide) (by first | assumption | omega | decide)) (cwV 0 hts (lw_V wq277 wq278 wq279 wq2 wq280) rfl rfl rfl (by decide +kernel) ⟨(Nat.le_of_ble_eq_true rfl), (Nat.le_of_ble_eq_true rfl)⟩) (tp_V hC hW hS hA 6 0 0 (dm6 (by omega)) rfl rfl) rfl rfl hl.1 rfl (lv_room (Nat.le_of_ble_eq_true rfl)) dX10_next_4 ⟨(Nat.le_of_ble_eq_true rfl), (Nat.le_of_ble_eq_true rfl)⟩) ?_
  exact ze_i hx hb hr hlk rfl (by rfl) dX10_next_7
def v_X10_meanQueue (S : TS) (F : TF) (G : TG) (q : TQ) : UInt64 := if (v_X2_channels S F G q 0) = 0 then FP.dconst0 else FP.ddiv (FP.i2d (v_X2_waiting S F G q 0)) (FP.i2d (v_X2_channels S F G q 0))
set_option maxHeartbeats 4000000 in
set_option maxRecDepth 100000 in
theorem k_X10_meanQueue (l : Launch) (D : va_G) (yc : Nat → ClassId) (e0 : Nat) (A : Nat → Prop) (S : TS) (Z : Nat × Nat) (F : TF) (G : TG) (q : TQ)   : Met l yX10_meanQueue (ws_ yX10_meanQueue cX10_meanQueue 2 (some .double)) ({ frames := 4, cells := 0, slots := 0, locals := 87 }) (PT D yc e0 A S Z F G q [.ref (zg S 7 0 0)]) (zQ (some (.double (v_X10_meanQueue S F G q)))) 0 0 zno := by
  refine tk_M (by decide) (Nat.le_of_ble_eq_true rfl) ?_
  intro p e s m args below meth c ls hx hb hml hr hlk hown hts hW hS hA hC hl
  have hK := hC.1
  have hN := hC.2.1
  have hn12 := hW.n12
  have hl : lv_has ls 2 [(0, .ref (zg S 7 0 0))] := hl
  refine lv_aload_n hx hb dX10_meanQueue_0 rfl (lv_at hl 0 rfl) ?_
  refine t_get (D := D) (ci := 9) (v := .ref (zg S 6 0 0)) (C := RX10) (T := TX10) (N := 5) hx hb hts iX10 hown hK hW 7 0 0 dm7 rfl rfl 0 (by decide) (hts _ wq95) (fun _ h9 => h9) rfl dX10_meanQueue_1 ?_
  refine zr_i (va_runV (As := []) (rest := []) ⟨hx, hb, hml, hown, hts⟩ (k_X2_channels l D yc e0 A S Z F G q 0 (by first | assumption | omega | decide)) (cwV 0 hts (lw_V wq1201 wq1202 wq1203 wq2 wq1204) rfl rfl rfl (by decide +kernel) ⟨(Nat.le_of_ble_eq_true rfl), (Nat.le_of_ble_eq_true rfl)⟩) (tp_V hC hW hS hA 6 0 0 (dm6 (by omega)) rfl rfl) rfl rfl hl.1 rfl (lv_room (Nat.le_of_ble_eq_true rfl)) dX10_meanQueue_4 ⟨(Nat.le_of_ble_eq_true rfl), (Nat.le_of_ble_eq_true rfl)⟩) ?_
  refine lv_istore_n (lv' := [(1, .int (v_X2_channels S F G q 0)), (0, .ref (zg S 7 0 0))]) hx hb dX10_meanQueue_7 rfl hl (by decide) rfl (fun ls hl => ?_)
  refine lv_iload_n hx hb dX10_meanQueue_8 rfl (lv_at hl 0 rfl) ?_
  refine lv_if_ne (tgt := 16) hx hb dX10_meanQueue_9 (by decide) (fun hb1 => ?_) (fun hb1 => ?_)
  · refine lv_aload_n hx hb dX10_meanQueue_16 rfl (lv_at hl 1 rfl) ?_
    refine t_get (D := D) (ci := 9) (v := .ref (zg S 6 0 0)) (C := RX10) (T := TX10) (N := 5) hx hb hts iX10 hown hK hW 7 0 0 dm7 rfl rfl 0 (by decide) (hts _ wq95) (fun _ h9 => h9) rfl dX10_meanQueue_17 ?_
    refine zr_i (va_runV (As := []) (rest := []) ⟨hx, hb, hml, hown, hts⟩ (k_X2_waiting l D yc e0 A S Z F G q 0 (by first | assumption | omega | decide)) (cwV 0 hts (lw_V wq678 wq679 wq680 wq2 wq681) rfl rfl rfl (by decide +kernel) ⟨(Nat.le_of_ble_eq_true rfl), (Nat.le_of_ble_eq_true rfl)⟩) (tp_V hC hW hS hA 6 0 0 (dm6 (by omega)) rfl rfl) rfl rfl hl.1 rfl (lv_room (Nat.le_of_ble_eq_true rfl)) dX10_meanQueue_20 ⟨(Nat.le_of_ble_eq_true rfl), (Nat.le_of_ble_eq_true rfl)⟩) ?_
    refine lv_i2d hx hb dX10_meanQueue_23 ?_
    refine lv_iload_n hx hb dX10_meanQueue_24 rfl (lv_at hl 0 rfl) ?_
    refine lv_i2d hx hb dX10_meanQueue_25 ?_
    refine lv_ddiv hx hb dX10_meanQueue_26 (zfp_n64 (zfp_div (by assumption))) ?_
    exact ze_d hx hb hr hlk (by unfold v_X10_meanQueue; rw [if_neg hb1]) dX10_meanQueue_27
  · refine lv_dconst0 hx hb dX10_meanQueue_12 ?_
    refine lv_goto (tgt := 27) hx hb dX10_meanQueue_13 (by decide) ?_
    exact ze_d hx hb hr hlk (by unfold v_X10_meanQueue; rw [if_pos hb1]) dX10_meanQueue_27
def v_X10_wouldLose (S : TS) (F : TF) (G : TG) (q : TQ) (k : Nat) : Int32 := (F 0 0 (3 * k) 7) - (F 0 0 (3 * k + (G 0 k).1) 7)
set_option maxHeartbeats 4000000 in
set_option maxRecDepth 100000 in
theorem k_X10_wouldLose (l : Launch) (D : va_G) (yc : Nat → ClassId) (e0 : Nat) (A : Nat → Prop) (S : TS) (Z : Nat × Nat) (F : TF) (G : TG) (q : TQ) (k : Nat) (hk : k < zn S) (hs : F 8 0 k 0 = 7) (hG : (G 0 k).1 < 3) : Met l yX10_wouldLose (ws_ yX10_wouldLose cX10_wouldLose 3 (some .int)) ({ frames := 6, cells := 0, slots := 0, locals := 129 }) (PT D yc e0 A S Z F G q [.ref (zg S 7 0 0), .int (nI k)]) (zQ (some (.int (v_X10_wouldLose S F G q k)))) 0 0 zno := by
  refine tk_M (by decide) (Nat.le_of_ble_eq_true rfl) ?_
  intro p e s m args below meth c ls hx hb hml hr hlk hown hts hW hS hA hC hl
  have hK := hC.1
  have hN := hC.2.1
  have hn12 := hW.n12
  have hl : lv_has ls 3 [(0, .ref (zg S 7 0 0)), (1, .int (nI k))] := hl
  refine lv_aload_n hx hb dX10_wouldLose_0 rfl (lv_at hl 0 rfl) ?_
  refine lv_iload_n hx hb dX10_wouldLose_1 rfl (lv_at hl 1 rfl) ?_
  refine zr_q (va_runV (As := [.int (nI k)]) (rest := []) ⟨hx, hb, hml, hown, hts⟩ (k_X10_sinkOf l D yc e0 A S Z F G q k (by first | assumption | omega | decide) (by first | assumption | omega | decide)) (cwV 1 hts (lw_V wq662 wq664 ws20 wq1 wq665) rfl rfl rfl (by decide +kernel) ⟨(Nat.le_of_ble_eq_true rfl), (Nat.le_of_ble_eq_true rfl)⟩) (tp_V hC hW hS hA 7 0 0 dm7 rfl rfl) rfl rfl hl.1 rfl (lv_room (Nat.le_of_ble_eq_true rfl)) dX10_wouldLose_2 ⟨(Nat.le_of_ble_eq_true rfl), (Nat.le_of_ble_eq_true rfl)⟩) ?_
  refine lv_astore_n (lv' := [(2, .ref (zg S 2 0 k)), (0, .ref (zg S 7 0 0)), (1, .int (nI k))]) hx hb dX10_wouldLose_5 rfl hl (by decide) rfl (fun ls hl => ?_)
  refine lv_aload_n hx hb dX10_wouldLose_6 rfl (lv_at hl 0 rfl) ?_
  refine t_getN (D := D) (ci := 7) (v := .ref (zg S 0 0 (3 * k))) (C := RX8) (T := TX8) (N := 12) hx hb hts iX8 hown hK hW 2 0 k (dm2 (by omega) (by omega)) rfl rfl 7 (by decide) (zk_tab rfl (hN _ wr1120 rfl)) (fun _ h9 => h9) rfl dX10_wouldLose_7 ?_
  refine t_getN (D := D) (ci := 8) (v := .int (F 0 0 (3 * k) 7)) (C := RX9) (T := TX9) (N := 11) hx hb hts iX9 hown hK hW 0 0 (3 * k) (dm0 (by omega) (by omega)) rfl rfl 7 (by decide) (zk_tab rfl (hN _ wr1072 rfl)) (fun _ h9 => h9) rfl dX10_wouldLose_10 ?_
  refine lv_aload_n hx hb dX10_wouldLose_13 rfl (lv_at hl 0 rfl) ?_
  refine t_getN (D := D) (ci := 7) (v := .ref (zg S 0 0 (3 * k + (G 0 k).1))) (C := RX8) (T := TX8) (N := 12) hx hb hts iX8 hown hK hW 2 0 k (dm2 (by omega) (by omega)) rfl rfl 8 (by decide) (zk_tab rfl (hN _ wr1122 rfl)) (fun _ h9 => h9) rfl dX10_wouldLose_14 ?_
  refine t_getN (D := D) (ci := 8) (v := .int (F 0 0 (3 * k + (G 0 k).1) 7)) (C := RX9) (T := TX9) (N := 11) hx hb hts iX9 hown hK hW 0 0 (3 * k + (G 0 k).1) (dm0 (by omega) (by omega)) rfl rfl 7 (by decide) (zk_tab rfl (hN _ wr1072 rfl)) (fun _ h9 => h9) rfl dX10_wouldLose_17 ?_
  refine lv_isub hx hb dX10_wouldLose_20 ?_
  exact ze_i hx hb hr hlk rfl (by rfl) dX10_wouldLose_21
def v_X10_wouldReplay (S : TS) (F : TF) (G : TG) (q : TQ) (k : Nat) : Int32 := (F 0 0 (3 * k) 4) - (F 0 0 (3 * k + (G 0 k).1) 4)
set_option maxHeartbeats 4000000 in
set_option maxRecDepth 100000 in
theorem k_X10_wouldReplay (l : Launch) (D : va_G) (yc : Nat → ClassId) (e0 : Nat) (A : Nat → Prop) (S : TS) (Z : Nat × Nat) (F : TF) (G : TG) (q : TQ) (k : Nat) (hk : k < zn S) (hs : F 8 0 k 0 = 0) (hG : (G 0 k).1 < 3) : Met l yX10_wouldReplay (ws_ yX10_wouldReplay cX10_wouldReplay 3 (some .int)) ({ frames := 6, cells := 0, slots := 0, locals := 129 }) (PT D yc e0 A S Z F G q [.ref (zg S 7 0 0), .int (nI k)]) (zQ (some (.int (v_X10_wouldReplay S F G q k)))) 0 0 zno := by
  refine tk_M (by decide) (Nat.le_of_ble_eq_true rfl) ?_
  intro p e s m args below meth c ls hx hb hml hr hlk hown hts hW hS hA hC hl
  have hK := hC.1
  have hN := hC.2.1
  have hn12 := hW.n12
  have hl : lv_has ls 3 [(0, .ref (zg S 7 0 0)), (1, .int (nI k))] := hl
  refine lv_aload_n hx hb dX10_wouldReplay_0 rfl (lv_at hl 0 rfl) ?_
  refine lv_iload_n hx hb dX10_wouldReplay_1 rfl (lv_at hl 1 rfl) ?_
  refine zr_q (va_runV (As := [.int (nI k)]) (rest := []) ⟨hx, hb, hml, hown, hts⟩ (k_X10_sourceOf l D yc e0 A S Z F G q k (by first | assumption | omega | decide) (by first | assumption | omega | decide)) (cwV 1 hts (lw_V wq215 wq217 ws1 wq1 wq218) rfl rfl rfl (by decide +kernel) ⟨(Nat.le_of_ble_eq_true rfl), (Nat.le_of_ble_eq_true rfl)⟩) (tp_V hC hW hS hA 7 0 0 dm7 rfl rfl) rfl rfl hl.1 rfl (lv_room (Nat.le_of_ble_eq_true rfl)) dX10_wouldReplay_2 ⟨(Nat.le_of_ble_eq_true rfl), (Nat.le_of_ble_eq_true rfl)⟩) ?_
  refine lv_astore_n (lv' := [(2, .ref (zg S 2 0 k)), (0, .ref (zg S 7 0 0)), (1, .int (nI k))]) hx hb dX10_wouldReplay_5 rfl hl (by decide) rfl (fun ls hl => ?_)
  refine lv_aload_n hx hb dX10_wouldReplay_6 rfl (lv_at hl 0 rfl) ?_
  refine t_getN (D := D) (ci := 7) (v := .ref (zg S 0 0 (3 * k))) (C := RX8) (T := TX8) (N := 12) hx hb hts iX8 hown hK hW 2 0 k (dm2 (by omega) (by omega)) rfl rfl 7 (by decide) (zk_tab rfl (hN _ wr1120 rfl)) (fun _ h9 => h9) rfl dX10_wouldReplay_7 ?_
  refine t_getN (D := D) (ci := 8) (v := .int (F 0 0 (3 * k) 4)) (C := RX9) (T := TX9) (N := 11) hx hb hts iX9 hown hK hW 0 0 (3 * k) (dm0 (by omega) (by omega)) rfl rfl 4 (by decide) (zk_tab rfl (hN _ wr1063 rfl)) (fun _ h9 => h9) rfl dX10_wouldReplay_10 ?_
  refine lv_aload_n hx hb dX10_wouldReplay_13 rfl (lv_at hl 0 rfl) ?_
  refine t_getN (D := D) (ci := 7) (v := .ref (zg S 0 0 (3 * k + (G 0 k).1))) (C := RX8) (T := TX8) (N := 12) hx hb hts iX8 hown hK hW 2 0 k (dm2 (by omega) (by omega)) rfl rfl 8 (by decide) (zk_tab rfl (hN _ wr1122 rfl)) (fun _ h9 => h9) rfl dX10_wouldReplay_14 ?_
  refine t_getN (D := D) (ci := 8) (v := .int (F 0 0 (3 * k + (G 0 k).1) 4)) (C := RX9) (T := TX9) (N := 11) hx hb hts iX9 hown hK hW 0 0 (3 * k + (G 0 k).1) (dm0 (by omega) (by omega)) rfl rfl 4 (by decide) (zk_tab rfl (hN _ wr1063 rfl)) (fun _ h9 => h9) rfl dX10_wouldReplay_17 ?_
  refine lv_isub hx hb dX10_wouldReplay_20 ?_
  exact ze_i hx hb hr hlk rfl (by rfl) dX10_wouldReplay_21
def v_X10_outputAt (S : TS) (F : TF) (G : TG) (q : TQ) (k : Nat) (i1 : Int32) : Int64 := v_X6_at S F G q (ro 0 k) i1
set_option maxHeartbeats 4000000 in
set_option maxRecDepth 100000 in
theorem k_X10_outputAt (l : Launch) (D : va_G) (yc : Nat → ClassId) (e0 : Nat) (A : Nat → Prop) (S : TS) (Z : Nat × Nat) (F : TF) (G : TG) (q : TQ) (k : Nat) (i1 : Int32) (hk : k < zn S) (hs : F 8 0 k 0 = 7) (h1 : ¬ i1 < 0) (h2 : ¬ (F 0 0 (3 * k) 7) ≤ i1) : Met l yX10_outputAt (ws_ yX10_outputAt cX10_outputAt 4 (some .long)) ({ frames := 6, cells := 0, slots := 0, locals := 129 }) (PT D yc e0 A S Z F G q [.ref (zg S 7 0 0), .int (nI k), .int i1]) (zQ (some (.long (v_X10_outputAt S F G q k i1)))) 0 0 zno := by
  refine tk_M (by decide) (Nat.le_of_ble_eq_true rfl) ?_
  intro p e s m args below meth c ls hx hb hml hr hlk hown hts hW hS hA hC hl
  have hK := hC.1
  have hN := hC.2.1
  have hn12 := hW.n12
  have hl : lv_has ls 4 [(0, .ref (zg S 7 0 0)), (1, .int (nI k)), (2, .int i1)] := hl
  refine lv_aload_n hx hb dX10_outputAt_0 rfl (lv_at hl 0 rfl) ?_
  refine lv_iload_n hx hb dX10_outputAt_1 rfl (lv_at hl 1 rfl) ?_
  refine zr_q (va_runV (As := [.int (nI k)]) (rest := []) ⟨hx, hb, hml, hown, hts⟩ (k_X10_sinkOf l D yc e0 A S Z F G q k (by first | assumption | omega | decide) (by first | assumption | omega | decide)) (cwV 1 hts (lw_V wq662 wq664 ws20 wq1 wq665) rfl rfl rfl (by decide +kernel) ⟨(Nat.le_of_ble_eq_true rfl), (Nat.le_of_ble_eq_true rfl)⟩) (tp_V hC hW hS hA 7 0 0 dm7 rfl rfl) rfl rfl hl.1 rfl (lv_room (Nat.le_of_ble_eq_true rfl)) dX10_outputAt_2 ⟨(Nat.le_of_ble_eq_true rfl), (Nat.le_of_ble_eq_true rfl)⟩) ?_
  refine lv_astore_n (lv' := [(3, .ref (zg S 2 0 k)), (0, .ref (zg S 7 0 0)), (1, .int (nI k)), (2, .int i1)]) hx hb dX10_outputAt_5 rfl hl (by decide) rfl (fun ls hl => ?_)
  refine lv_iload_n hx hb dX10_outputAt_6 rfl (lv_at hl 3 rfl) ?_
  refine lv_if_lt (tgt := 25) hx hb dX10_outputAt_7 (by decide) (fun h9 => absurd h9 h1) (fun _ => ?_)
  refine lv_iload_n hx hb dX10_outputAt_10 rfl (lv_at hl 3 rfl) ?_
  refine lv_aload_n hx hb dX10_outputAt_11 rfl (lv_at hl 0 rfl) ?_
  refine t_getN (D := D) (ci := 7) (v := .ref (zg S 0 0 (3 * k))) (C := RX8) (T := TX8) (N := 12) hx hb hts iX8 hown hK hW 2 0 k (dm2 (by omega) (by omega)) rfl rfl 7 (by decide) (zk_tab rfl (hN _ wr1120 rfl)) (fun _ h9 => h9) rfl dX10_outputAt_12 ?_
  refine t_getN (D := D) (ci := 8) (v := .int (F 0 0 (3 * k) 7)) (C := RX9) (T := TX9) (N := 11) hx hb hts iX9 hown hK hW 0 0 (3 * k) (dm0 (by omega) (by omega)) rfl rfl 7 (by decide) (zk_tab rfl (hN _ wr1072 rfl)) (fun _ h9 => h9) rfl dX10_outputAt_15 ?_
  refine lv_icmp_ge (tgt := 25) hx hb dX10_outputAt_18 (by decide) (fun h9 => absurd h9 h2) (fun _ => ?_)
  refine lv_iconst (v := 1) hx hb dX10_outputAt_21 (by decide) ?_
  refine lv_goto (tgt := 26) hx hb dX10_outputAt_22 (by decide) ?_
  refine zr_v (va_runS (As := [.int 1]) (rest := []) ⟨hx, hb, hml, hown, hts⟩ (k_X10_refuseUnless l 1 (by first | assumption | omega | decide)) (va_cwS 1 hts (lw_S wq193 wq194 wq1 wq195) rfl rfl rfl (by decide +kernel) ⟨(Nat.le_of_ble_eq_true rfl), (Nat.le_of_ble_eq_true rfl)⟩) tp_N rfl rfl hl.1 rfl (lv_room (Nat.le_of_ble_eq_true rfl)) dX10_outputAt_26 ⟨(Nat.le_of_ble_eq_true rfl), (Nat.le_of_ble_eq_true rfl)⟩) ?_
  refine lv_aload_n hx hb dX10_outputAt_29 rfl (lv_at hl 0 rfl) ?_
  refine t_getN (D := D) (ci := 7) (v := .ref (zr S (ro 0 k))) (C := RX8) (T := TX8) (N := 12) hx hb hts iX8 hown hK hW 2 0 k (dm2 (by omega) (by omega)) rfl rfl 6 (by decide) (zk_tab rfl (hN _ wr1117 rfl)) (fun _ h9 => h9) rfl dX10_outputAt_30 ?_
  refine lv_iload_n hx hb dX10_outputAt_33 rfl (lv_at hl 3 rfl) ?_
  refine zr_l (va_runV (As := [.int i1]) (rest := []) ⟨hx, hb, hml, hown, hts⟩ (k_X6_at l D yc e0 A S Z F G q (ro 0 k) i1 (dr_o hW.n12 (by omega) (by omega))) (cwV 1 hts (lw_V wq790 wq391 wq392 wq15 wq393) rfl rfl rfl (by decide +kernel) ⟨(Nat.le_of_ble_eq_true rfl), (Nat.le_of_ble_eq_true rfl)⟩) (tp_R hC hW hS hA (ro 0 k) (dr_o hW.n12 (by omega) (by omega))) rfl rfl hl.1 rfl (lv_room (Nat.le_of_ble_eq_true rfl)) dX10_outputAt_34 ⟨(Nat.le_of_ble_eq_true rfl), (Nat.le_of_ble_eq_true rfl)⟩) ?_
  exact ze_l hx hb hr hlk (by rfl) dX10_outputAt_37
end
section
theorem wq624 : (Jvm.Cond.instanceMethod ({ cls := "WeirStream", name := "stages", desc := "()I" } : Jvm.MethodName)) ∈ lw_all := lw_in (lw_tb (List.mem_of_getElem? (i := 624) (by decide +kernel))) rfl
theorem wq625 : (Jvm.Cond.selects "WeirStream" ({ cls := "WeirStream", name := "stages", desc := "()I" } : Jvm.MethodName) ({ cls := "WeirStream", name := "stages", desc := "()I" } : Jvm.MethodName)) ∈ lw_all := lw_in (lw_tb (List.mem_of_getElem? (i := 625) (by decide +kernel))) rfl
theorem wq626 : (Jvm.Cond.code ({ cls := "WeirStream", name := "stages", desc := "()I" } : Jvm.MethodName) prog_1_method_18_code (1 : Nat) (Option.some Jvm.ClassFile.FieldType.int)) ∈ lw_all := lw_in (lw_tb (List.mem_of_getElem? (i := 626) (by decide +kernel))) rfl
theorem wq628 : (Jvm.Cond.instanceMethod ({ cls := "WeirStream", name := "sortOf", desc := "(I)I" } : Jvm.MethodName)) ∈ lw_all := lw_in (lw_tb (List.mem_of_getElem? (i := 628) (by decide +kernel))) rfl
theorem wq629 : (Jvm.Cond.selects "WeirStream" ({ cls := "WeirStream", name := "sortOf", desc := "(I)I" } : Jvm.MethodName) ({ cls := "WeirStream", name := "sortOf", desc := "(I)I" } : Jvm.MethodName)) ∈ lw_all := lw_in (lw_tb (List.mem_of_getElem? (i := 629) (by decide +kernel))) rfl
theorem wq630 : (Jvm.Cond.code ({ cls := "WeirStream", name := "sortOf", desc := "(I)I" } : Jvm.MethodName) prog_1_method_20_code (2 : Nat) (Option.some Jvm.ClassFile.FieldType.int)) ∈ lw_all := lw_in (lw_tb (List.mem_of_getElem? (i := 630) (by decide +kernel))) rfl
theorem wq632 : (Jvm.Cond.instanceMethod ({ cls := "WeirStream", name := "markOf", desc := "(I)I" } : Jvm.MethodName)) ∈ lw_all := lw_in (lw_tb (List.mem_of_getElem? (i := 632) (by decide +kernel))) rfl
theorem wq633 : (Jvm.Cond.selects "WeirStream" ({ cls := "WeirStream", name := "markOf", desc := "(I)I" } : Jvm.MethodName) ({ cls := "WeirStream", name := "markOf", desc := "(I)I" } : Jvm.MethodName)) ∈ lw_all := lw_in (lw_tb (List.mem_of_getElem? (i := 633) (by decide +kernel))) rfl
theorem wq634 : (Jvm.Cond.code ({ cls := "WeirStream", name := "markOf", desc := "(I)I" } : Jvm.MethodName) prog_1_method_21_code (2 : Nat) (Option.some Jvm.ClassFile.FieldType.int)) ∈ lw_all := lw_in (lw_tb (List.mem_of_getElem? (i := 634) (by decide +kernel))) rfl
theorem wq636 : (Jvm.Cond.instanceMethod ({ cls := "WeirStream", name := "taken", desc := "(I)I" } : Jvm.MethodName)) ∈ lw_all := lw_in (lw_tb (List.mem_of_getElem? (i := 636) (by decide +kernel))) rfl
theorem wq637 : (Jvm.Cond.selects "WeirStream" ({ cls := "WeirStream", name := "taken", desc := "(I)I" } : Jvm.MethodName) ({ cls := "WeirStream", name := "taken", desc := "(I)I" } : Jvm.MethodName)) ∈ lw_all := lw_in (lw_tb (List.mem_of_getElem? (i := 637) (by decide +kernel))) rfl
theorem wq638 : (Jvm.Cond.code ({ cls := "WeirStream", name := "taken", desc := "(I)I" } : Jvm.MethodName) prog_1_method_22_code (2 : Nat) (Option.some Jvm.ClassFile.FieldType.int)) ∈ lw_all := lw_in (lw_tb (List.mem_of_getElem? (i := 638) (by decide +kernel))) rfl
theorem wq640 : (Jvm.Cond.instanceMethod ({ cls := "WeirStream", name := "kept", desc := "(I)I" } : Jvm.MethodName)) ∈ lw_all := lw_in (lw_tb (List.mem_of_getElem? (i := 640) (by decide +kernel))) rfl
theorem wq641 : (Jvm.Cond.selects "WeirStream" ({ cls := "WeirStream", name := "kept", desc := "(I)I" } : Jvm.MethodName) ({ cls := "WeirStream", name := "kept", desc := "(I)I" } : Jvm.MethodName)) ∈ lw_all := lw_in (lw_tb (List.mem_of_getElem? (i := 641) (by decide +kernel))) rfl
theorem wq642 : (Jvm.Cond.code ({ cls := "WeirStream", name := "kept", desc := "(I)I" } : Jvm.MethodName) prog_1_method_25_code (3 : Nat) (Option.some Jvm.ClassFile.FieldType.int)) ∈ lw_all := lw_in (lw_tb (List.mem_of_getElem? (i := 642) (by decide +kernel))) rfl
theorem wq650 : (Jvm.Cond.instanceMethod ({ cls := "WeirStream", name := "isReady", desc := "(I)Z" } : Jvm.MethodName)) ∈ lw_all := lw_in (lw_tb (List.mem_of_getElem? (i := 650) (by decide +kernel))) rfl
theorem wq651 : (Jvm.Cond.selects "WeirStream" ({ cls := "WeirStream", name := "isReady", desc := "(I)Z" } : Jvm.MethodName) ({ cls := "WeirStream", name := "isReady", desc := "(I)Z" } : Jvm.MethodName)) ∈ lw_all := lw_in (lw_tb (List.mem_of_getElem? (i := 651) (by decide +kernel))) rfl
theorem wq652 : (Jvm.Cond.code ({ cls := "WeirStream", name := "isReady", desc := "(I)Z" } : Jvm.MethodName) prog_1_method_26_code (2 : Nat) (Option.some Jvm.ClassFile.FieldType.boolean)) ∈ lw_all := lw_in (lw_tb (List.mem_of_getElem? (i := 652) (by decide +kernel))) rfl
theorem wq654 : (Jvm.Cond.instanceMethod ({ cls := "WeirStream", name := "isBlocked", desc := "(IZ)Z" } : Jvm.MethodName)) ∈ lw_all := lw_in (lw_tb (List.mem_of_getElem? (i := 654) (by decide +kernel))) rfl
theorem wq655 : (Jvm.Cond.selects "WeirStream" ({ cls := "WeirStream", name := "isBlocked", desc := "(IZ)Z" } : Jvm.MethodName) ({ cls := "WeirStream", name := "isBlocked", desc := "(IZ)Z" } : Jvm.MethodName)) ∈ lw_all := lw_in (lw_tb (List.mem_of_getElem? (i := 655) (by decide +kernel))) rfl
theorem wq656 : (Jvm.Cond.code ({ cls := "WeirStream", name := "isBlocked", desc := "(IZ)Z" } : Jvm.MethodName) prog_1_method_29_code (4 : Nat) (Option.some Jvm.ClassFile.FieldType.boolean)) ∈ lw_all := lw_in (lw_tb (List.mem_of_getElem? (i := 656) (by decide +kernel))) rfl
theorem wq659 : (Jvm.Cond.instanceMethod ({ cls := "WeirStream", name := "outputs", desc := "(I)I" } : Jvm.MethodName)) ∈ lw_all := lw_in (lw_tb (List.mem_of_getElem? (i := 659) (by decide +kernel))) rfl
theorem wq660 : (Jvm.Cond.selects "WeirStream" ({ cls := "WeirStream", name := "outputs", desc := "(I)I" } : Jvm.MethodName) ({ cls := "WeirStream", name := "outputs", desc := "(I)I" } : Jvm.MethodName)) ∈ lw_all := lw_in (lw_tb (List.mem_of_getElem? (i := 660) (by decide +kernel))) rfl
theorem wq661 : (Jvm.Cond.code ({ cls := "WeirStream", name := "outputs", desc := "(I)I" } : Jvm.MethodName) prog_1_method_34_code (2 : Nat) (Option.some Jvm.ClassFile.FieldType.int)) ∈ lw_all := lw_in (lw_tb (List.mem_of_getElem? (i := 661) (by decide +kernel))) rfl
theorem wq667 : (Jvm.Cond.instanceMethod ({ cls := "WeirStream", name := "committed", desc := "(I)I" } : Jvm.MethodName)) ∈ lw_all := lw_in (lw_tb (List.mem_of_getElem? (i := 667) (by decide +kernel))) rfl
theorem wq668 : (Jvm.Cond.selects "WeirStream" ({ cls := "WeirStream", name := "committed", desc := "(I)I" } : Jvm.MethodName) ({ cls := "WeirStream", name := "committed", desc := "(I)I" } : Jvm.MethodName)) ∈ lw_all := lw_in (lw_tb (List.mem_of_getElem? (i := 668) (by decide +kernel))) rfl
theorem wq669 : (Jvm.Cond.code ({ cls := "WeirStream", name := "committed", desc := "(I)I" } : Jvm.MethodName) prog_1_method_35_code (2 : Nat) (Option.some Jvm.ClassFile.FieldType.int)) ∈ lw_all := lw_in (lw_tb (List.mem_of_getElem? (i := 669) (by decide +kernel))) rfl
theorem wq671 : (Jvm.Cond.instanceMethod ({ cls := "WeirStream", name := "begun", desc := "()I" } : Jvm.MethodName)) ∈ lw_all := lw_in (lw_tb (List.mem_of_getElem? (i := 671) (by decide +kernel))) rfl
theorem wq672 : (Jvm.Cond.selects "WeirStream" ({ cls := "WeirStream", name := "begun", desc := "()I" } : Jvm.MethodName) ({ cls := "WeirStream", name := "begun", desc := "()I" } : Jvm.MethodName)) ∈ lw_all := lw_in (lw_tb (List.mem_of_getElem? (i := 672) (by decide +kernel))) rfl
theorem wq673 : (Jvm.Cond.code ({ cls := "WeirStream", name := "begun", desc := "()I" } : Jvm.MethodName) prog_1_method_40_code (1 : Nat) (Option.some Jvm.ClassFile.FieldType.int)) ∈ lw_all := lw_in (lw_tb (List.mem_of_getElem? (i := 673) (by decide +kernel))) rfl
theorem wq675 : (Jvm.Cond.instanceMethod ({ cls := "WeirStream", name := "inFlight", desc := "()I" } : Jvm.MethodName)) ∈ lw_all := lw_in (lw_tb (List.mem_of_getElem? (i := 675) (by decide +kernel))) rfl
theorem wq676 : (Jvm.Cond.selects "WeirStream" ({ cls := "WeirStream", name := "inFlight", desc := "()I" } : Jvm.MethodName) ({ cls := "WeirStream", name := "inFlight", desc := "()I" } : Jvm.MethodName)) ∈ lw_all := lw_in (lw_tb (List.mem_of_getElem? (i := 676) (by decide +kernel))) rfl
theorem wq677 : (Jvm.Cond.code ({ cls := "WeirStream", name := "inFlight", desc := "()I" } : Jvm.MethodName) prog_1_method_43_code (1 : Nat) (Option.some Jvm.ClassFile.FieldType.int)) ∈ lw_all := lw_in (lw_tb (List.mem_of_getElem? (i := 677) (by decide +kernel))) rfl
theorem wq684 : (Jvm.Cond.instanceMethod ({ cls := "WeirStream", name := "next", desc := "()I" } : Jvm.MethodName)) ∈ lw_all := lw_in (lw_tb (List.mem_of_getElem? (i := 684) (by decide +kernel))) rfl
theorem wq685 : (Jvm.Cond.selects "WeirStream" ({ cls := "WeirStream", name := "next", desc := "()I" } : Jvm.MethodName) ({ cls := "WeirStream", name := "next", desc := "()I" } : Jvm.MethodName)) ∈ lw_all := lw_in (lw_tb (List.mem_of_getElem? (i := 685) (by decide +kernel))) rfl
theorem wq686 : (Jvm.Cond.code ({ cls := "WeirStream", name := "next", desc := "()I" } : Jvm.MethodName) prog_1_method_44_code (1 : Nat) (Option.some Jvm.ClassFile.FieldType.int)) ∈ lw_all := lw_in (lw_tb (List.mem_of_getElem? (i := 686) (by decide +kernel))) rfl
theorem wq712 : (Jvm.Cond.constantLong "WeirStream" (273 : Nat) (58014 : Int64)) ∈ lw_all := lw_in (lw_tb (List.mem_of_getElem? (i := 712) (by decide +kernel))) rfl
theorem wq713 : (Jvm.Cond.constantLong "WeirStream" (275 : Nat) (31 : Int64)) ∈ lw_all := lw_in (lw_tb (List.mem_of_getElem? (i := 713) (by decide +kernel))) rfl
theorem wq714 : (Jvm.Cond.methodLink "WeirStream" (277 : Nat) ({ cls := "WeirStream", name := "stages", desc := "()I" } : Jvm.MethodName)) ∈ lw_all := lw_in (lw_tb (List.mem_of_getElem? (i := 714) (by decide +kernel))) rfl
theorem wq715 : (Jvm.Cond.methodLink "WeirStream" (280 : Nat) ({ cls := "WeirStream", name := "isStarted", desc := "()Z" } : Jvm.MethodName)) ∈ lw_all := lw_in (lw_tb (List.mem_of_getElem? (i := 715) (by decide +kernel))) rfl
theorem wq716 : (Jvm.Cond.instanceMethod ({ cls := "WeirStream", name := "isStarted", desc := "()Z" } : Jvm.MethodName)) ∈ lw_all := lw_in (lw_tb (List.mem_of_getElem? (i := 716) (by decide +kernel))) rfl
theorem wq717 : (Jvm.Cond.selects "WeirStream" ({ cls := "WeirStream", name := "isStarted", desc := "()Z" } : Jvm.MethodName) ({ cls := "WeirStream", name := "isStarted", desc := "()Z" } : Jvm.MethodName)) ∈ lw_all := lw_in (lw_tb (List.mem_of_getElem? (i := 717) (by decide +kernel))) rfl
theorem wq718 : (Jvm.Cond.code ({ cls := "WeirStream", name := "isStarted", desc := "()Z" } : Jvm.MethodName) prog_1_method_19_code (1 : Nat) (Option.some Jvm.ClassFile.FieldType.boolean)) ∈ lw_all := lw_in (lw_tb (List.mem_of_getElem? (i := 718) (by decide +kernel))) rfl
theorem wq719 : (Jvm.Cond.methodLink "WeirStream" (284 : Nat) ({ cls := "WeirStream", name := "bit", desc := "(Z)I" } : Jvm.MethodName)) ∈ lw_all := lw_in (lw_tb (List.mem_of_getElem? (i := 719) (by decide +kernel))) rfl
theorem wq720 : (Jvm.Cond.static ({ cls := "WeirStream", name := "bit", desc := "(Z)I" } : Jvm.MethodName)) ∈ lw_all := lw_in (lw_tb (List.mem_of_getElem? (i := 720) (by decide +kernel))) rfl
theorem wq721 : (Jvm.Cond.code ({ cls := "WeirStream", name := "bit", desc := "(Z)I" } : Jvm.MethodName) prog_1_method_53_code (1 : Nat) (Option.some Jvm.ClassFile.FieldType.int)) ∈ lw_all := lw_in (lw_tb (List.mem_of_getElem? (i := 721) (by decide +kernel))) rfl
theorem wq722 : (Jvm.Cond.methodLink "WeirStream" (288 : Nat) ({ cls := "WeirStream", name := "complete", desc := "()I" } : Jvm.MethodName)) ∈ lw_all := lw_in (lw_tb (List.mem_of_getElem? (i := 722) (by decide +kernel))) rfl
theorem wq723 : (Jvm.Cond.instanceMethod ({ cls := "WeirStream", name := "complete", desc := "()I" } : Jvm.MethodName)) ∈ lw_all := lw_in (lw_tb (List.mem_of_getElem? (i := 723) (by decide +kernel))) rfl
theorem wq724 : (Jvm.Cond.selects "WeirStream" ({ cls := "WeirStream", name := "complete", desc := "()I" } : Jvm.MethodName) ({ cls := "WeirStream", name := "complete", desc := "()I" } : Jvm.MethodName)) ∈ lw_all := lw_in (lw_tb (List.mem_of_getElem? (i := 724) (by decide +kernel))) rfl
theorem wq725 : (Jvm.Cond.code ({ cls := "WeirStream", name := "complete", desc := "()I" } : Jvm.MethodName) prog_1_method_39_code (1 : Nat) (Option.some Jvm.ClassFile.FieldType.int)) ∈ lw_all := lw_in (lw_tb (List.mem_of_getElem? (i := 725) (by decide +kernel))) rfl
theorem wq726 : (Jvm.Cond.methodLink "WeirStream" (291 : Nat) ({ cls := "WeirStream", name := "begun", desc := "()I" } : Jvm.MethodName)) ∈ lw_all := lw_in (lw_tb (List.mem_of_getElem? (i := 726) (by decide +kernel))) rfl
theorem wq727 : (Jvm.Cond.methodLink "WeirStream" (294 : Nat) ({ cls := "WeirStream", name := "crashes", desc := "()I" } : Jvm.MethodName)) ∈ lw_all := lw_in (lw_tb (List.mem_of_getElem? (i := 727) (by decide +kernel))) rfl
theorem wq728 : (Jvm.Cond.instanceMethod ({ cls := "WeirStream", name := "crashes", desc := "()I" } : Jvm.MethodName)) ∈ lw_all := lw_in (lw_tb (List.mem_of_getElem? (i := 728) (by decide +kernel))) rfl
theorem wq729 : (Jvm.Cond.selects "WeirStream" ({ cls := "WeirStream", name := "crashes", desc := "()I" } : Jvm.MethodName) ({ cls := "WeirStream", name := "crashes", desc := "()I" } : Jvm.MethodName)) ∈ lw_all := lw_in (lw_tb (List.mem_of_getElem? (i := 729) (by decide +kernel))) rfl
theorem wq730 : (Jvm.Cond.code ({ cls := "WeirStream", name := "crashes", desc := "()I" } : Jvm.MethodName) prog_1_method_41_code (1 : Nat) (Option.some Jvm.ClassFile.FieldType.int)) ∈ lw_all := lw_in (lw_tb (List.mem_of_getElem? (i := 730) (by decide +kernel))) rfl
theorem wq731 : (Jvm.Cond.methodLink "WeirStream" (297 : Nat) ({ cls := "WeirStream", name := "worked", desc := "()I" } : Jvm.MethodName)) ∈ lw_all := lw_in (lw_tb (List.mem_of_getElem? (i := 731) (by decide +kernel))) rfl
theorem wq732 : (Jvm.Cond.instanceMethod ({ cls := "WeirStream", name := "worked", desc := "()I" } : Jvm.MethodName)) ∈ lw_all := lw_in (lw_tb (List.mem_of_getElem? (i := 732) (by decide +kernel))) rfl
theorem wq733 : (Jvm.Cond.selects "WeirStream" ({ cls := "WeirStream", name := "worked", desc := "()I" } : Jvm.MethodName) ({ cls := "WeirStream", name := "worked", desc := "()I" } : Jvm.MethodName)) ∈ lw_all := lw_in (lw_tb (List.mem_of_getElem? (i := 733) (by decide +kernel))) rfl
theorem wq734 : (Jvm.Cond.code ({ cls := "WeirStream", name := "worked", desc := "()I" } : Jvm.MethodName) prog_1_method_42_code (1 : Nat) (Option.some Jvm.ClassFile.FieldType.int)) ∈ lw_all := lw_in (lw_tb (List.mem_of_getElem? (i := 734) (by decide +kernel))) rfl
theorem wq735 : (Jvm.Cond.methodLink "WeirStream" (300 : Nat) ({ cls := "WeirStream", name := "inFlight", desc := "()I" } : Jvm.MethodName)) ∈ lw_all := lw_in (lw_tb (List.mem_of_getElem? (i := 735) (by decide +kernel))) rfl
theorem wq736 : (Jvm.Cond.methodLink "WeirStream" (303 : Nat) ({ cls := "WeirStream", name := "next", desc := "()I" } : Jvm.MethodName)) ∈ lw_all := lw_in (lw_tb (List.mem_of_getElem? (i := 736) (by decide +kernel))) rfl
theorem wq737 : (Jvm.Cond.methodLink "WeirStream" (306 : Nat) ({ cls := "WeirStream", name := "digestOfStage", desc := "(JI)J" } : Jvm.MethodName)) ∈ lw_all := lw_in (lw_tb (List.mem_of_getElem? (i := 737) (by decide +kernel))) rfl
theorem wq739 : (Jvm.Cond.instanceMethod ({ cls := "WeirStream", name := "digestOfStage", desc := "(JI)J" } : Jvm.MethodName)) ∈ lw_all := lw_in (lw_tb (List.mem_of_getElem? (i := 739) (by decide +kernel))) rfl
theorem wq740 : (Jvm.Cond.code ({ cls := "WeirStream", name := "digestOfStage", desc := "(JI)J" } : Jvm.MethodName) prog_1_method_51_code (7 : Nat) (Option.some Jvm.ClassFile.FieldType.long)) ∈ lw_all := lw_in (lw_tb (List.mem_of_getElem? (i := 740) (by decide +kernel))) rfl
theorem wq741 : (Jvm.Cond.methodLink "WeirStream" (310 : Nat) ({ cls := "WeirStream", name := "sortOf", desc := "(I)I" } : Jvm.MethodName)) ∈ lw_all := lw_in (lw_tb (List.mem_of_getElem? (i := 741) (by decide +kernel))) rfl
theorem wq742 : (Jvm.Cond.methodLink "WeirStream" (313 : Nat) ({ cls := "WeirStream", name := "markOf", desc := "(I)I" } : Jvm.MethodName)) ∈ lw_all := lw_in (lw_tb (List.mem_of_getElem? (i := 742) (by decide +kernel))) rfl
theorem wq743 : (Jvm.Cond.methodLink "WeirStream" (316 : Nat) ({ cls := "WeirStream", name := "taken", desc := "(I)I" } : Jvm.MethodName)) ∈ lw_all := lw_in (lw_tb (List.mem_of_getElem? (i := 743) (by decide +kernel))) rfl
theorem wq744 : (Jvm.Cond.methodLink "WeirStream" (318 : Nat) ({ cls := "WeirStream", name := "emitted", desc := "(I)I" } : Jvm.MethodName)) ∈ lw_all := lw_in (lw_tb (List.mem_of_getElem? (i := 744) (by decide +kernel))) rfl
theorem wq745 : (Jvm.Cond.instanceMethod ({ cls := "WeirStream", name := "emitted", desc := "(I)I" } : Jvm.MethodName)) ∈ lw_all := lw_in (lw_tb (List.mem_of_getElem? (i := 745) (by decide +kernel))) rfl
theorem wq746 : (Jvm.Cond.selects "WeirStream" ({ cls := "WeirStream", name := "emitted", desc := "(I)I" } : Jvm.MethodName) ({ cls := "WeirStream", name := "emitted", desc := "(I)I" } : Jvm.MethodName)) ∈ lw_all := lw_in (lw_tb (List.mem_of_getElem? (i := 746) (by decide +kernel))) rfl
theorem wq747 : (Jvm.Cond.code ({ cls := "WeirStream", name := "emitted", desc := "(I)I" } : Jvm.MethodName) prog_1_method_23_code (2 : Nat) (Option.some Jvm.ClassFile.FieldType.int)) ∈ lw_all := lw_in (lw_tb (List.mem_of_getElem? (i := 747) (by decide +kernel))) rfl
theorem wq748 : (Jvm.Cond.methodLink "WeirStream" (320 : Nat) ({ cls := "WeirStream", name := "late", desc := "(I)I" } : Jvm.MethodName)) ∈ lw_all := lw_in (lw_tb (List.mem_of_getElem? (i := 748) (by decide +kernel))) rfl
theorem wq749 : (Jvm.Cond.instanceMethod ({ cls := "WeirStream", name := "late", desc := "(I)I" } : Jvm.MethodName)) ∈ lw_all := lw_in (lw_tb (List.mem_of_getElem? (i := 749) (by decide +kernel))) rfl
theorem wq750 : (Jvm.Cond.selects "WeirStream" ({ cls := "WeirStream", name := "late", desc := "(I)I" } : Jvm.MethodName) ({ cls := "WeirStream", name := "late", desc := "(I)I" } : Jvm.MethodName)) ∈ lw_all := lw_in (lw_tb (List.mem_of_getElem? (i := 750) (by decide +kernel))) rfl
theorem wq751 : (Jvm.Cond.code ({ cls := "WeirStream", name := "late", desc := "(I)I" } : Jvm.MethodName) prog_1_method_24_code (2 : Nat) (Option.some Jvm.ClassFile.FieldType.int)) ∈ lw_all := lw_in (lw_tb (List.mem_of_getElem? (i := 751) (by decide +kernel))) rfl
theorem wq752 : (Jvm.Cond.methodLink "WeirStream" (322 : Nat) ({ cls := "WeirStream", name := "kept", desc := "(I)I" } : Jvm.MethodName)) ∈ lw_all := lw_in (lw_tb (List.mem_of_getElem? (i := 752) (by decide +kernel))) rfl
theorem wq753 : (Jvm.Cond.methodLink "WeirStream" (325 : Nat) ({ cls := "WeirStream", name := "isReady", desc := "(I)Z" } : Jvm.MethodName)) ∈ lw_all := lw_in (lw_tb (List.mem_of_getElem? (i := 753) (by decide +kernel))) rfl
theorem wq754 : (Jvm.Cond.methodLink "WeirStream" (328 : Nat) ({ cls := "WeirStream", name := "hasRoom", desc := "(I)Z" } : Jvm.MethodName)) ∈ lw_all := lw_in (lw_tb (List.mem_of_getElem? (i := 754) (by decide +kernel))) rfl
theorem wq755 : (Jvm.Cond.instanceMethod ({ cls := "WeirStream", name := "hasRoom", desc := "(I)Z" } : Jvm.MethodName)) ∈ lw_all := lw_in (lw_tb (List.mem_of_getElem? (i := 755) (by decide +kernel))) rfl
theorem wq756 : (Jvm.Cond.selects "WeirStream" ({ cls := "WeirStream", name := "hasRoom", desc := "(I)Z" } : Jvm.MethodName) ({ cls := "WeirStream", name := "hasRoom", desc := "(I)Z" } : Jvm.MethodName)) ∈ lw_all := lw_in (lw_tb (List.mem_of_getElem? (i := 756) (by decide +kernel))) rfl
theorem wq757 : (Jvm.Cond.code ({ cls := "WeirStream", name := "hasRoom", desc := "(I)Z" } : Jvm.MethodName) prog_1_method_27_code (2 : Nat) (Option.some Jvm.ClassFile.FieldType.boolean)) ∈ lw_all := lw_in (lw_tb (List.mem_of_getElem? (i := 757) (by decide +kernel))) rfl
theorem wq759 : (Jvm.Cond.methodLink "WeirStream" (331 : Nat) ({ cls := "WeirStream", name := "queued", desc := "(IZ)I" } : Jvm.MethodName)) ∈ lw_all := lw_in (lw_tb (List.mem_of_getElem? (i := 759) (by decide +kernel))) rfl
theorem wq760 : (Jvm.Cond.instanceMethod ({ cls := "WeirStream", name := "queued", desc := "(IZ)I" } : Jvm.MethodName)) ∈ lw_all := lw_in (lw_tb (List.mem_of_getElem? (i := 760) (by decide +kernel))) rfl
theorem wq761 : (Jvm.Cond.selects "WeirStream" ({ cls := "WeirStream", name := "queued", desc := "(IZ)I" } : Jvm.MethodName) ({ cls := "WeirStream", name := "queued", desc := "(IZ)I" } : Jvm.MethodName)) ∈ lw_all := lw_in (lw_tb (List.mem_of_getElem? (i := 761) (by decide +kernel))) rfl
theorem wq762 : (Jvm.Cond.code ({ cls := "WeirStream", name := "queued", desc := "(IZ)I" } : Jvm.MethodName) prog_1_method_28_code (4 : Nat) (Option.some Jvm.ClassFile.FieldType.int)) ∈ lw_all := lw_in (lw_tb (List.mem_of_getElem? (i := 762) (by decide +kernel))) rfl
theorem wq764 : (Jvm.Cond.methodLink "WeirStream" (335 : Nat) ({ cls := "WeirStream", name := "isBlocked", desc := "(IZ)Z" } : Jvm.MethodName)) ∈ lw_all := lw_in (lw_tb (List.mem_of_getElem? (i := 764) (by decide +kernel))) rfl
theorem wq765 : (Jvm.Cond.methodLink "WeirStream" (339 : Nat) ({ cls := "WeirStream", name := "depthOf", desc := "(I)I" } : Jvm.MethodName)) ∈ lw_all := lw_in (lw_tb (List.mem_of_getElem? (i := 765) (by decide +kernel))) rfl
theorem wq766 : (Jvm.Cond.instanceMethod ({ cls := "WeirStream", name := "depthOf", desc := "(I)I" } : Jvm.MethodName)) ∈ lw_all := lw_in (lw_tb (List.mem_of_getElem? (i := 766) (by decide +kernel))) rfl
theorem wq767 : (Jvm.Cond.selects "WeirStream" ({ cls := "WeirStream", name := "depthOf", desc := "(I)I" } : Jvm.MethodName) ({ cls := "WeirStream", name := "depthOf", desc := "(I)I" } : Jvm.MethodName)) ∈ lw_all := lw_in (lw_tb (List.mem_of_getElem? (i := 767) (by decide +kernel))) rfl
theorem wq768 : (Jvm.Cond.code ({ cls := "WeirStream", name := "depthOf", desc := "(I)I" } : Jvm.MethodName) prog_1_method_31_code (2 : Nat) (Option.some Jvm.ClassFile.FieldType.int)) ∈ lw_all := lw_in (lw_tb (List.mem_of_getElem? (i := 768) (by decide +kernel))) rfl
theorem wq769 : (Jvm.Cond.methodLink "WeirStream" (342 : Nat) ({ cls := "WeirStream", name := "nextEnd", desc := "(I)I" } : Jvm.MethodName)) ∈ lw_all := lw_in (lw_tb (List.mem_of_getElem? (i := 769) (by decide +kernel))) rfl
theorem wq770 : (Jvm.Cond.instanceMethod ({ cls := "WeirStream", name := "nextEnd", desc := "(I)I" } : Jvm.MethodName)) ∈ lw_all := lw_in (lw_tb (List.mem_of_getElem? (i := 770) (by decide +kernel))) rfl
theorem wq771 : (Jvm.Cond.selects "WeirStream" ({ cls := "WeirStream", name := "nextEnd", desc := "(I)I" } : Jvm.MethodName) ({ cls := "WeirStream", name := "nextEnd", desc := "(I)I" } : Jvm.MethodName)) ∈ lw_all := lw_in (lw_tb (List.mem_of_getElem? (i := 771) (by decide +kernel))) rfl
theorem wq772 : (Jvm.Cond.code ({ cls := "WeirStream", name := "nextEnd", desc := "(I)I" } : Jvm.MethodName) prog_1_method_33_code (5 : Nat) (Option.some Jvm.ClassFile.FieldType.int)) ∈ lw_all := lw_in (lw_tb (List.mem_of_getElem? (i := 772) (by decide +kernel))) rfl
theorem wq780 : (Jvm.Cond.methodLink "WeirStream" (345 : Nat) ({ cls := "WeirStream", name := "digestOfOutput", desc := "(JI)J" } : Jvm.MethodName)) ∈ lw_all := lw_in (lw_tb (List.mem_of_getElem? (i := 780) (by decide +kernel))) rfl
theorem wq782 : (Jvm.Cond.instanceMethod ({ cls := "WeirStream", name := "digestOfOutput", desc := "(JI)J" } : Jvm.MethodName)) ∈ lw_all := lw_in (lw_tb (List.mem_of_getElem? (i := 782) (by decide +kernel))) rfl
theorem wq783 : (Jvm.Cond.code ({ cls := "WeirStream", name := "digestOfOutput", desc := "(JI)J" } : Jvm.MethodName) prog_1_method_52_code (10 : Nat) (Option.some Jvm.ClassFile.FieldType.long)) ∈ lw_all := lw_in (lw_tb (List.mem_of_getElem? (i := 783) (by decide +kernel))) rfl
theorem wq784 : (Jvm.Cond.methodLink "WeirStream" (348 : Nat) ({ cls := "WeirStream", name := "outputs", desc := "(I)I" } : Jvm.MethodName)) ∈ lw_all := lw_in (lw_tb (List.mem_of_getElem? (i := 784) (by decide +kernel))) rfl
theorem wq785 : (Jvm.Cond.methodLink "WeirStream" (351 : Nat) ({ cls := "WeirStream", name := "committed", desc := "(I)I" } : Jvm.MethodName)) ∈ lw_all := lw_in (lw_tb (List.mem_of_getElem? (i := 785) (by decide +kernel))) rfl
theorem wq786 : (Jvm.Cond.methodLink "WeirStream" (243 : Nat) ({ cls := "WeirStream", name := "outputAt", desc := "(II)J" } : Jvm.MethodName)) ∈ lw_all := lw_in (lw_tb (List.mem_of_getElem? (i := 786) (by decide +kernel))) rfl
theorem wq788 : (Jvm.Cond.instanceMethod ({ cls := "WeirStream", name := "outputAt", desc := "(II)J" } : Jvm.MethodName)) ∈ lw_all := lw_in (lw_tb (List.mem_of_getElem? (i := 788) (by decide +kernel))) rfl
theorem wq789 : (Jvm.Cond.code ({ cls := "WeirStream", name := "outputAt", desc := "(II)J" } : Jvm.MethodName) prog_1_method_63_code (4 : Nat) (Option.some Jvm.ClassFile.FieldType.long)) ∈ lw_all := lw_in (lw_tb (List.mem_of_getElem? (i := 789) (by decide +kernel))) rfl
theorem wq791 : (Jvm.Cond.methodLink "WeirStream" (247 : Nat) ({ cls := "WeirStream$Item", name := "key", desc := "(J)I" } : Jvm.MethodName)) ∈ lw_all := lw_in (lw_tb (List.mem_of_getElem? (i := 791) (by decide +kernel))) rfl
theorem wq792 : (Jvm.Cond.methodLink "WeirStream" (251 : Nat) ({ cls := "WeirStream$Item", name := "value", desc := "(J)I" } : Jvm.MethodName)) ∈ lw_all := lw_in (lw_tb (List.mem_of_getElem? (i := 792) (by decide +kernel))) rfl
theorem wq793 : (Jvm.Cond.methodLink "WeirStream" (254 : Nat) ({ cls := "WeirStream$Item", name := "time", desc := "(J)I" } : Jvm.MethodName)) ∈ lw_all := lw_in (lw_tb (List.mem_of_getElem? (i := 793) (by decide +kernel))) rfl
theorem ws21 : Cond.selects "WeirStream" ⟨"WeirStream", "digestOfStage", "(JI)J"⟩ ⟨"WeirStream", "digestOfStage", "(JI)J"⟩ ∈ lw_all := lw_in (lw_ps (List.mem_of_getElem? (i := 21) (by decide +kernel))) rfl
theorem ws23 : Cond.selects "WeirStream" ⟨"WeirStream", "digestOfOutput", "(JI)J"⟩ ⟨"WeirStream", "digestOfOutput", "(JI)J"⟩ ∈ lw_all := lw_in (lw_ps (List.mem_of_getElem? (i := 23) (by decide +kernel))) rfl
theorem ws24 : Cond.selects "WeirStream" ⟨"WeirStream", "outputAt", "(II)J"⟩ ⟨"WeirStream", "outputAt", "(II)J"⟩ ∈ lw_all := lw_in (lw_ps (List.mem_of_getElem? (i := 24) (by decide +kernel))) rfl
theorem dX10_digestOfOutput_40 : decode cX10_digestOfOutput 40 = .ok (.iload 7, 2) := by decide +kernel
theorem dX10_digestOfOutput_42 : decode cX10_digestOfOutput 42 = .ok (.iload 6, 2) := by decide +kernel
theorem dX10_digestOfOutput_44 : decode cX10_digestOfOutput 44 = .ok (.if_icmp .ge 63, 3) := by decide +kernel
theorem dX10_digestOfOutput_107 : decode cX10_digestOfOutput 107 = .ok (.lload 4, 2) := by decide +kernel
theorem dX10_digestOfOutput_109 : decode cX10_digestOfOutput 109 = .ok (.lreturn, 1) := by decide +kernel
theorem dX10_digestOfOutput_47 : decode cX10_digestOfOutput 47 = .ok (.aload_n 0, 1) := by decide +kernel
theorem dX10_digestOfOutput_48 : decode cX10_digestOfOutput 48 = .ok (.iload_n 3, 1) := by decide +kernel
theorem dX10_digestOfOutput_49 : decode cX10_digestOfOutput 49 = .ok (.iload 7, 2) := by decide +kernel
theorem dX10_digestOfOutput_51 : decode cX10_digestOfOutput 51 = .ok (.invokevirtual 243, 3) := by decide +kernel
theorem dX10_digestOfOutput_54 : decode cX10_digestOfOutput 54 = .ok (.lstore 8, 2) := by decide +kernel
theorem dX10_digestOfOutput_56 : decode cX10_digestOfOutput 56 = .ok (.lload 4, 2) := by decide +kernel
theorem dX10_digestOfOutput_58 : decode cX10_digestOfOutput 58 = .ok (.ldc2_w 275, 3) := by decide +kernel
theorem dX10_digestOfOutput_61 : decode cX10_digestOfOutput 61 = .ok (.lmul, 1) := by decide +kernel
theorem dX10_digestOfOutput_62 : decode cX10_digestOfOutput 62 = .ok (.lload 8, 2) := by decide +kernel
theorem dX10_digestOfOutput_64 : decode cX10_digestOfOutput 64 = .ok (.invokestatic 247, 3) := by decide +kernel
theorem dX10_digestOfOutput_67 : decode cX10_digestOfOutput 67 = .ok (.i2l, 1) := by decide +kernel
theorem dX10_digestOfOutput_68 : decode cX10_digestOfOutput 68 = .ok (.ladd, 1) := by decide +kernel
theorem dX10_digestOfOutput_69 : decode cX10_digestOfOutput 69 = .ok (.lstore 4, 2) := by decide +kernel
theorem dX10_digestOfOutput_71 : decode cX10_digestOfOutput 71 = .ok (.lload 4, 2) := by decide +kernel
theorem dX10_digestOfOutput_73 : decode cX10_digestOfOutput 73 = .ok (.ldc2_w 275, 3) := by decide +kernel
theorem dX10_digestOfOutput_76 : decode cX10_digestOfOutput 76 = .ok (.lmul, 1) := by decide +kernel
theorem dX10_digestOfOutput_77 : decode cX10_digestOfOutput 77 = .ok (.lload 8, 2) := by decide +kernel
theorem dX10_digestOfOutput_79 : decode cX10_digestOfOutput 79 = .ok (.invokestatic 251, 3) := by decide +kernel
theorem dX10_digestOfOutput_82 : decode cX10_digestOfOutput 82 = .ok (.i2l, 1) := by decide +kernel
theorem dX10_digestOfOutput_83 : decode cX10_digestOfOutput 83 = .ok (.ladd, 1) := by decide +kernel
theorem dX10_digestOfOutput_84 : decode cX10_digestOfOutput 84 = .ok (.lstore 4, 2) := by decide +kernel
theorem dX10_digestOfOutput_86 : decode cX10_digestOfOutput 86 = .ok (.lload 4, 2) := by decide +kernel
theorem dX10_digestOfOutput_88 : decode cX10_digestOfOutput 88 = .ok (.ldc2_w 275, 3) := by decide +kernel
theorem dX10_digestOfOutput_91 : decode cX10_digestOfOutput 91 = .ok (.lmul, 1) := by decide +kernel
theorem dX10_digestOfOutput_92 : decode cX10_digestOfOutput 92 = .ok (.lload 8, 2) := by decide +kernel
theorem dX10_digestOfOutput_94 : decode cX10_digestOfOutput 94 = .ok (.invokestatic 254, 3) := by decide +kernel
theorem dX10_digestOfOutput_97 : decode cX10_digestOfOutput 97 = .ok (.i2l, 1) := by decide +kernel
theorem dX10_digestOfOutput_98 : decode cX10_digestOfOutput 98 = .ok (.ladd, 1) := by decide +kernel
theorem dX10_digestOfOutput_99 : decode cX10_digestOfOutput 99 = .ok (.lstore 4, 2) := by decide +kernel
theorem dX10_digestOfOutput_101 : decode cX10_digestOfOutput 101 = .ok (.iinc 7 1, 3) := by decide +kernel
theorem dX10_digestOfOutput_104 : decode cX10_digestOfOutput 104 = .ok (.goto (-64), 3) := by decide +kernel
theorem dX10_digestOfOutput_0 : decode cX10_digestOfOutput 0 = .ok (.lload_n 1, 1) := by decide +kernel
theorem dX10_digestOfOutput_1 : decode cX10_digestOfOutput 1 = .ok (.lstore 4, 2) := by decide +kernel
theorem dX10_digestOfOutput_3 : decode cX10_digestOfOutput 3 = .ok (.aload_n 0, 1) := by decide +kernel
theorem dX10_digestOfOutput_4 : decode cX10_digestOfOutput 4 = .ok (.iload_n 3, 1) := by decide +kernel
theorem dX10_digestOfOutput_5 : decode cX10_digestOfOutput 5 = .ok (.invokevirtual 348, 3) := by decide +kernel
theorem dX10_digestOfOutput_8 : decode cX10_digestOfOutput 8 = .ok (.istore 6, 2) := by decide +kernel
theorem dX10_digestOfOutput_10 : decode cX10_digestOfOutput 10 = .ok (.lload 4, 2) := by decide +kernel
theorem dX10_digestOfOutput_12 : decode cX10_digestOfOutput 12 = .ok (.ldc2_w 275, 3) := by decide +kernel
theorem dX10_digestOfOutput_15 : decode cX10_digestOfOutput 15 = .ok (.lmul, 1) := by decide +kernel
theorem dX10_digestOfOutput_16 : decode cX10_digestOfOutput 16 = .ok (.iload 6, 2) := by decide +kernel
theorem dX10_digestOfOutput_18 : decode cX10_digestOfOutput 18 = .ok (.i2l, 1) := by decide +kernel
theorem dX10_digestOfOutput_19 : decode cX10_digestOfOutput 19 = .ok (.ladd, 1) := by decide +kernel
theorem dX10_digestOfOutput_20 : decode cX10_digestOfOutput 20 = .ok (.lstore 4, 2) := by decide +kernel
theorem dX10_digestOfOutput_22 : decode cX10_digestOfOutput 22 = .ok (.lload 4, 2) := by decide +kernel
theorem dX10_digestOfOutput_24 : decode cX10_digestOfOutput 24 = .ok (.ldc2_w 275, 3) := by decide +kernel
theorem dX10_digestOfOutput_27 : decode cX10_digestOfOutput 27 = .ok (.lmul, 1) := by decide +kernel
theorem dX10_digestOfOutput_28 : decode cX10_digestOfOutput 28 = .ok (.aload_n 0, 1) := by decide +kernel
theorem dX10_digestOfOutput_29 : decode cX10_digestOfOutput 29 = .ok (.iload_n 3, 1) := by decide +kernel
theorem dX10_digestOfOutput_30 : decode cX10_digestOfOutput 30 = .ok (.invokevirtual 351, 3) := by decide +kernel
theorem dX10_digestOfOutput_33 : decode cX10_digestOfOutput 33 = .ok (.i2l, 1) := by decide +kernel
theorem dX10_digestOfOutput_34 : decode cX10_digestOfOutput 34 = .ok (.ladd, 1) := by decide +kernel
theorem dX10_digestOfOutput_35 : decode cX10_digestOfOutput 35 = .ok (.lstore 4, 2) := by decide +kernel
theorem dX10_digestOfOutput_37 : decode cX10_digestOfOutput 37 = .ok (.iconst 0, 1) := by decide +kernel
theorem dX10_digestOfOutput_38 : decode cX10_digestOfOutput 38 = .ok (.istore 7, 2) := by decide +kernel
theorem dX10_digestOfStage_0 : decode cX10_digestOfStage 0 = .ok (.lload_n 1, 1) := by decide +kernel
theorem dX10_digestOfStage_1 : decode cX10_digestOfStage 1 = .ok (.lstore 4, 2) := by decide +kernel
theorem dX10_digestOfStage_3 : decode cX10_digestOfStage 3 = .ok (.lload 4, 2) := by decide +kernel
theorem dX10_digestOfStage_5 : decode cX10_digestOfStage 5 = .ok (.ldc2_w 275, 3) := by decide +kernel
theorem dX10_digestOfStage_8 : decode cX10_digestOfStage 8 = .ok (.lmul, 1) := by decide +kernel
theorem dX10_digestOfStage_9 : decode cX10_digestOfStage 9 = .ok (.aload_n 0, 1) := by decide +kernel
theorem dX10_digestOfStage_10 : decode cX10_digestOfStage 10 = .ok (.iload_n 3, 1) := by decide +kernel
theorem dX10_digestOfStage_11 : decode cX10_digestOfStage 11 = .ok (.invokevirtual 310, 3) := by decide +kernel
theorem dX10_digestOfStage_14 : decode cX10_digestOfStage 14 = .ok (.i2l, 1) := by decide +kernel
theorem dX10_digestOfStage_15 : decode cX10_digestOfStage 15 = .ok (.ladd, 1) := by decide +kernel
theorem dX10_digestOfStage_16 : decode cX10_digestOfStage 16 = .ok (.lstore 4, 2) := by decide +kernel
theorem dX10_digestOfStage_18 : decode cX10_digestOfStage 18 = .ok (.lload 4, 2) := by decide +kernel
theorem dX10_digestOfStage_20 : decode cX10_digestOfStage 20 = .ok (.ldc2_w 275, 3) := by decide +kernel
theorem dX10_digestOfStage_23 : decode cX10_digestOfStage 23 = .ok (.lmul, 1) := by decide +kernel
theorem dX10_digestOfStage_24 : decode cX10_digestOfStage 24 = .ok (.aload_n 0, 1) := by decide +kernel
theorem dX10_digestOfStage_25 : decode cX10_digestOfStage 25 = .ok (.iload_n 3, 1) := by decide +kernel
theorem dX10_digestOfStage_26 : decode cX10_digestOfStage 26 = .ok (.invokevirtual 313, 3) := by decide +kernel
theorem dX10_digestOfStage_29 : decode cX10_digestOfStage 29 = .ok (.i2l, 1) := by decide +kernel
theorem dX10_digestOfStage_30 : decode cX10_digestOfStage 30 = .ok (.ladd, 1) := by decide +kernel
theorem dX10_digestOfStage_31 : decode cX10_digestOfStage 31 = .ok (.lstore 4, 2) := by decide +kernel
theorem dX10_digestOfStage_33 : decode cX10_digestOfStage 33 = .ok (.lload 4, 2) := by decide +kernel
theorem dX10_digestOfStage_35 : decode cX10_digestOfStage 35 = .ok (.ldc2_w 275, 3) := by decide +kernel
theorem dX10_digestOfStage_38 : decode cX10_digestOfStage 38 = .ok (.lmul, 1) := by decide +kernel
theorem dX10_digestOfStage_39 : decode cX10_digestOfStage 39 = .ok (.aload_n 0, 1) := by decide +kernel
theorem dX10_digestOfStage_40 : decode cX10_digestOfStage 40 = .ok (.iload_n 3, 1) := by decide +kernel
theorem dX10_digestOfStage_41 : decode cX10_digestOfStage 41 = .ok (.invokevirtual 316, 3) := by decide +kernel
theorem dX10_digestOfStage_44 : decode cX10_digestOfStage 44 = .ok (.i2l, 1) := by decide +kernel
theorem dX10_digestOfStage_45 : decode cX10_digestOfStage 45 = .ok (.ladd, 1) := by decide +kernel
theorem dX10_digestOfStage_46 : decode cX10_digestOfStage 46 = .ok (.lstore 4, 2) := by decide +kernel
theorem dX10_digestOfStage_48 : decode cX10_digestOfStage 48 = .ok (.lload 4, 2) := by decide +kernel
theorem dX10_digestOfStage_50 : decode cX10_digestOfStage 50 = .ok (.ldc2_w 275, 3) := by decide +kernel
theorem dX10_digestOfStage_53 : decode cX10_digestOfStage 53 = .ok (.lmul, 1) := by decide +kernel
theorem dX10_digestOfStage_54 : decode cX10_digestOfStage 54 = .ok (.aload_n 0, 1) := by decide +kernel
theorem dX10_digestOfStage_55 : decode cX10_digestOfStage 55 = .ok (.iload_n 3, 1) := by decide +kernel
theorem dX10_digestOfStage_56 : decode cX10_digestOfStage 56 = .ok (.invokevirtual 318, 3) := by decide +kernel
theorem dX10_digestOfStage_59 : decode cX10_digestOfStage 59 = .ok (.i2l, 1) := by decide +kernel
theorem dX10_digestOfStage_60 : decode cX10_digestOfStage 60 = .ok (.ladd, 1) := by decide +kernel
theorem dX10_digestOfStage_61 : decode cX10_digestOfStage 61 = .ok (.lstore 4, 2) := by decide +kernel
theorem dX10_digestOfStage_63 : decode cX10_digestOfStage 63 = .ok (.lload 4, 2) := by decide +kernel
theorem dX10_digestOfStage_65 : decode cX10_digestOfStage 65 = .ok (.ldc2_w 275, 3) := by decide +kernel
theorem dX10_digestOfStage_68 : decode cX10_digestOfStage 68 = .ok (.lmul, 1) := by decide +kernel
theorem dX10_digestOfStage_69 : decode cX10_digestOfStage 69 = .ok (.aload_n 0, 1) := by decide +kernel
theorem dX10_digestOfStage_70 : decode cX10_digestOfStage 70 = .ok (.iload_n 3, 1) := by decide +kernel
theorem dX10_digestOfStage_71 : decode cX10_digestOfStage 71 = .ok (.invokevirtual 320, 3) := by decide +kernel
theorem dX10_digestOfStage_74 : decode cX10_digestOfStage 74 = .ok (.i2l, 1) := by decide +kernel
theorem dX10_digestOfStage_75 : decode cX10_digestOfStage 75 = .ok (.ladd, 1) := by decide +kernel
theorem dX10_digestOfStage_76 : decode cX10_digestOfStage 76 = .ok (.lstore 4, 2) := by decide +kernel
theorem dX10_digestOfStage_78 : decode cX10_digestOfStage 78 = .ok (.lload 4, 2) := by decide +kernel
theorem dX10_digestOfStage_80 : decode cX10_digestOfStage 80 = .ok (.ldc2_w 275, 3) := by decide +kernel
theorem dX10_digestOfStage_83 : decode cX10_digestOfStage 83 = .ok (.lmul, 1) := by decide +kernel
theorem dX10_digestOfStage_84 : decode cX10_digestOfStage 84 = .ok (.aload_n 0, 1) := by decide +kernel
theorem dX10_digestOfStage_85 : decode cX10_digestOfStage 85 = .ok (.iload_n 3, 1) := by decide +kernel
theorem dX10_digestOfStage_86 : decode cX10_digestOfStage 86 = .ok (.invokevirtual 322, 3) := by decide +kernel
theorem dX10_digestOfStage_89 : decode cX10_digestOfStage 89 = .ok (.i2l, 1) := by decide +kernel
theorem dX10_digestOfStage_90 : decode cX10_digestOfStage 90 = .ok (.ladd, 1) := by decide +kernel
theorem dX10_digestOfStage_91 : decode cX10_digestOfStage 91 = .ok (.lstore 4, 2) := by decide +kernel
theorem dX10_digestOfStage_93 : decode cX10_digestOfStage 93 = .ok (.lload 4, 2) := by decide +kernel
theorem dX10_digestOfStage_95 : decode cX10_digestOfStage 95 = .ok (.ldc2_w 275, 3) := by decide +kernel
theorem dX10_digestOfStage_98 : decode cX10_digestOfStage 98 = .ok (.lmul, 1) := by decide +kernel
theorem dX10_digestOfStage_99 : decode cX10_digestOfStage 99 = .ok (.aload_n 0, 1) := by decide +kernel
theorem dX10_digestOfStage_100 : decode cX10_digestOfStage 100 = .ok (.iload_n 3, 1) := by decide +kernel
theorem dX10_digestOfStage_101 : decode cX10_digestOfStage 101 = .ok (.invokevirtual 325, 3) := by decide +kernel
theorem dX10_digestOfStage_104 : decode cX10_digestOfStage 104 = .ok (.invokestatic 284, 3) := by decide +kernel
theorem dX10_digestOfStage_107 : decode cX10_digestOfStage 107 = .ok (.i2l, 1) := by decide +kernel
theorem dX10_digestOfStage_108 : decode cX10_digestOfStage 108 = .ok (.ladd, 1) := by decide +kernel
theorem dX10_digestOfStage_109 : decode cX10_digestOfStage 109 = .ok (.lstore 4, 2) := by decide +kernel
theorem dX10_digestOfStage_111 : decode cX10_digestOfStage 111 = .ok (.lload 4, 2) := by decide +kernel
theorem dX10_digestOfStage_113 : decode cX10_digestOfStage 113 = .ok (.ldc2_w 275, 3) := by decide +kernel
theorem dX10_digestOfStage_116 : decode cX10_digestOfStage 116 = .ok (.lmul, 1) := by decide +kernel
theorem dX10_digestOfStage_117 : decode cX10_digestOfStage 117 = .ok (.aload_n 0, 1) := by decide +kernel
theorem dX10_digestOfStage_118 : decode cX10_digestOfStage 118 = .ok (.iload_n 3, 1) := by decide +kernel
theorem dX10_digestOfStage_119 : decode cX10_digestOfStage 119 = .ok (.invokevirtual 328, 3) := by decide +kernel
theorem dX10_digestOfStage_122 : decode cX10_digestOfStage 122 = .ok (.invokestatic 284, 3) := by decide +kernel
theorem dX10_digestOfStage_125 : decode cX10_digestOfStage 125 = .ok (.i2l, 1) := by decide +kernel
theorem dX10_digestOfStage_126 : decode cX10_digestOfStage 126 = .ok (.ladd, 1) := by decide +kernel
theorem dX10_digestOfStage_127 : decode cX10_digestOfStage 127 = .ok (.lstore 4, 2) := by decide +kernel
theorem dX10_digestOfStage_129 : decode cX10_digestOfStage 129 = .ok (.lload 4, 2) := by decide +kernel
theorem dX10_digestOfStage_131 : decode cX10_digestOfStage 131 = .ok (.ldc2_w 275, 3) := by decide +kernel
theorem dX10_digestOfStage_134 : decode cX10_digestOfStage 134 = .ok (.lmul, 1) := by decide +kernel
theorem dX10_digestOfStage_135 : decode cX10_digestOfStage 135 = .ok (.aload_n 0, 1) := by decide +kernel
theorem dX10_digestOfStage_136 : decode cX10_digestOfStage 136 = .ok (.iload_n 3, 1) := by decide +kernel
theorem dX10_digestOfStage_137 : decode cX10_digestOfStage 137 = .ok (.iconst 0, 1) := by decide +kernel
theorem dX10_digestOfStage_138 : decode cX10_digestOfStage 138 = .ok (.invokevirtual 331, 3) := by decide +kernel
theorem dX10_digestOfStage_141 : decode cX10_digestOfStage 141 = .ok (.i2l, 1) := by decide +kernel
theorem dX10_digestOfStage_142 : decode cX10_digestOfStage 142 = .ok (.ladd, 1) := by decide +kernel
theorem dX10_digestOfStage_143 : decode cX10_digestOfStage 143 = .ok (.lstore 4, 2) := by decide +kernel
theorem dX10_digestOfStage_145 : decode cX10_digestOfStage 145 = .ok (.lload 4, 2) := by decide +kernel
theorem dX10_digestOfStage_147 : decode cX10_digestOfStage 147 = .ok (.ldc2_w 275, 3) := by decide +kernel
theorem dX10_digestOfStage_150 : decode cX10_digestOfStage 150 = .ok (.lmul, 1) := by decide +kernel
theorem dX10_digestOfStage_151 : decode cX10_digestOfStage 151 = .ok (.aload_n 0, 1) := by decide +kernel
theorem dX10_digestOfStage_152 : decode cX10_digestOfStage 152 = .ok (.iload_n 3, 1) := by decide +kernel
theorem dX10_digestOfStage_153 : decode cX10_digestOfStage 153 = .ok (.iconst 0, 1) := by decide +kernel
theorem dX10_digestOfStage_154 : decode cX10_digestOfStage 154 = .ok (.invokevirtual 335, 3) := by decide +kernel
theorem dX10_digestOfStage_157 : decode cX10_digestOfStage 157 = .ok (.invokestatic 284, 3) := by decide +kernel
theorem dX10_digestOfStage_160 : decode cX10_digestOfStage 160 = .ok (.i2l, 1) := by decide +kernel
theorem dX10_digestOfStage_161 : decode cX10_digestOfStage 161 = .ok (.ladd, 1) := by decide +kernel
theorem dX10_digestOfStage_162 : decode cX10_digestOfStage 162 = .ok (.lstore 4, 2) := by decide +kernel
theorem dX10_digestOfStage_164 : decode cX10_digestOfStage 164 = .ok (.lload 4, 2) := by decide +kernel
theorem dX10_digestOfStage_166 : decode cX10_digestOfStage 166 = .ok (.ldc2_w 275, 3) := by decide +kernel
theorem dX10_digestOfStage_169 : decode cX10_digestOfStage 169 = .ok (.lmul, 1) := by decide +kernel
theorem dX10_digestOfStage_170 : decode cX10_digestOfStage 170 = .ok (.aload_n 0, 1) := by decide +kernel
theorem dX10_digestOfStage_171 : decode cX10_digestOfStage 171 = .ok (.iload_n 3, 1) := by decide +kernel
theorem dX10_digestOfStage_172 : decode cX10_digestOfStage 172 = .ok (.iconst 1, 1) := by decide +kernel
theorem dX10_digestOfStage_173 : decode cX10_digestOfStage 173 = .ok (.invokevirtual 331, 3) := by decide +kernel
theorem dX10_digestOfStage_176 : decode cX10_digestOfStage 176 = .ok (.i2l, 1) := by decide +kernel
theorem dX10_digestOfStage_177 : decode cX10_digestOfStage 177 = .ok (.ladd, 1) := by decide +kernel
theorem dX10_digestOfStage_178 : decode cX10_digestOfStage 178 = .ok (.lstore 4, 2) := by decide +kernel
theorem dX10_digestOfStage_180 : decode cX10_digestOfStage 180 = .ok (.lload 4, 2) := by decide +kernel
theorem dX10_digestOfStage_182 : decode cX10_digestOfStage 182 = .ok (.ldc2_w 275, 3) := by decide +kernel
theorem dX10_digestOfStage_185 : decode cX10_digestOfStage 185 = .ok (.lmul, 1) := by decide +kernel
theorem dX10_digestOfStage_186 : decode cX10_digestOfStage 186 = .ok (.aload_n 0, 1) := by decide +kernel
theorem dX10_digestOfStage_187 : decode cX10_digestOfStage 187 = .ok (.iload_n 3, 1) := by decide +kernel
theorem dX10_digestOfStage_188 : decode cX10_digestOfStage 188 = .ok (.iconst 1, 1) := by decide +kernel
theorem dX10_digestOfStage_189 : decode cX10_digestOfStage 189 = .ok (.invokevirtual 335, 3) := by decide +kernel
theorem dX10_digestOfStage_192 : decode cX10_digestOfStage 192 = .ok (.invokestatic 284, 3) := by decide +kernel
theorem dX10_digestOfStage_195 : decode cX10_digestOfStage 195 = .ok (.i2l, 1) := by decide +kernel
theorem dX10_digestOfStage_196 : decode cX10_digestOfStage 196 = .ok (.ladd, 1) := by decide +kernel
theorem dX10_digestOfStage_197 : decode cX10_digestOfStage 197 = .ok (.lstore 4, 2) := by decide +kernel
theorem dX10_digestOfStage_199 : decode cX10_digestOfStage 199 = .ok (.lload 4, 2) := by decide +kernel
theorem dX10_digestOfStage_201 : decode cX10_digestOfStage 201 = .ok (.ldc2_w 275, 3) := by decide +kernel
theorem dX10_digestOfStage_204 : decode cX10_digestOfStage 204 = .ok (.lmul, 1) := by decide +kernel
theorem dX10_digestOfStage_205 : decode cX10_digestOfStage 205 = .ok (.aload_n 0, 1) := by decide +kernel
theorem dX10_digestOfStage_206 : decode cX10_digestOfStage 206 = .ok (.iload_n 3, 1) := by decide +kernel
theorem dX10_digestOfStage_207 : decode cX10_digestOfStage 207 = .ok (.invokevirtual 339, 3) := by decide +kernel
theorem dX10_digestOfStage_210 : decode cX10_digestOfStage 210 = .ok (.i2l, 1) := by decide +kernel
theorem dX10_digestOfStage_211 : decode cX10_digestOfStage 211 = .ok (.ladd, 1) := by decide +kernel
theorem dX10_digestOfStage_212 : decode cX10_digestOfStage 212 = .ok (.lstore 4, 2) := by decide +kernel
theorem dX10_digestOfStage_214 : decode cX10_digestOfStage 214 = .ok (.aload_n 0, 1) := by decide +kernel
theorem dX10_digestOfStage_215 : decode cX10_digestOfStage 215 = .ok (.iload_n 3, 1) := by decide +kernel
theorem dX10_digestOfStage_216 : decode cX10_digestOfStage 216 = .ok (.invokevirtual 310, 3) := by decide +kernel
theorem dX10_digestOfStage_219 : decode cX10_digestOfStage 219 = .ok (.istore 6, 2) := by decide +kernel
theorem dX10_digestOfStage_221 : decode cX10_digestOfStage 221 = .ok (.iload 6, 2) := by decide +kernel
theorem dX10_digestOfStage_223 : decode cX10_digestOfStage 223 = .ok (.iconst 3, 1) := by decide +kernel
theorem dX10_digestOfStage_224 : decode cX10_digestOfStage 224 = .ok (.if_icmp .eq 9, 3) := by decide +kernel
theorem dX10_digestOfStage_233 : decode cX10_digestOfStage 233 = .ok (.lload 4, 2) := by decide +kernel
theorem dX10_digestOfStage_235 : decode cX10_digestOfStage 235 = .ok (.ldc2_w 275, 3) := by decide +kernel
theorem dX10_digestOfStage_238 : decode cX10_digestOfStage 238 = .ok (.lmul, 1) := by decide +kernel
theorem dX10_digestOfStage_239 : decode cX10_digestOfStage 239 = .ok (.aload_n 0, 1) := by decide +kernel
theorem dX10_digestOfStage_240 : decode cX10_digestOfStage 240 = .ok (.iload_n 3, 1) := by decide +kernel
theorem dX10_digestOfStage_241 : decode cX10_digestOfStage 241 = .ok (.invokevirtual 342, 3) := by decide +kernel
theorem dX10_digestOfStage_244 : decode cX10_digestOfStage 244 = .ok (.i2l, 1) := by decide +kernel
theorem dX10_digestOfStage_245 : decode cX10_digestOfStage 245 = .ok (.ladd, 1) := by decide +kernel
theorem dX10_digestOfStage_246 : decode cX10_digestOfStage 246 = .ok (.lstore 4, 2) := by decide +kernel
theorem dX10_digestOfStage_248 : decode cX10_digestOfStage 248 = .ok (.iload 6, 2) := by decide +kernel
theorem dX10_digestOfStage_250 : decode cX10_digestOfStage 250 = .ok (.bipush 7, 2) := by decide +kernel
theorem dX10_digestOfStage_252 : decode cX10_digestOfStage 252 = .ok (.if_icmp .ne 13, 3) := by decide +kernel
theorem dX10_digestOfStage_255 : decode cX10_digestOfStage 255 = .ok (.aload_n 0, 1) := by decide +kernel
theorem dX10_digestOfStage_256 : decode cX10_digestOfStage 256 = .ok (.lload 4, 2) := by decide +kernel
theorem dX10_digestOfStage_258 : decode cX10_digestOfStage 258 = .ok (.iload_n 3, 1) := by decide +kernel
theorem dX10_digestOfStage_259 : decode cX10_digestOfStage 259 = .ok (.invokevirtual 345, 3) := by decide +kernel
theorem dX10_digestOfStage_262 : decode cX10_digestOfStage 262 = .ok (.goto 5, 3) := by decide +kernel
theorem dX10_digestOfStage_267 : decode cX10_digestOfStage 267 = .ok (.lreturn, 1) := by decide +kernel
theorem dX10_digestOfStage_265 : decode cX10_digestOfStage 265 = .ok (.lload 4, 2) := by decide +kernel
theorem dX10_digestOfStage_227 : decode cX10_digestOfStage 227 = .ok (.iload 6, 2) := by decide +kernel
theorem dX10_digestOfStage_229 : decode cX10_digestOfStage 229 = .ok (.iconst 4, 1) := by decide +kernel
theorem dX10_digestOfStage_230 : decode cX10_digestOfStage 230 = .ok (.if_icmp .ne 18, 3) := by decide +kernel
theorem dX10_digest_105 : decode cX10_digest 105 = .ok (.iload_n 3, 1) := by decide +kernel
theorem dX10_digest_106 : decode cX10_digest 106 = .ok (.aload_n 0, 1) := by decide +kernel
theorem dX10_digest_107 : decode cX10_digest 107 = .ok (.getfield 12, 3) := by decide +kernel
theorem dX10_digest_110 : decode cX10_digest 110 = .ok (.invokevirtual 88, 3) := by decide +kernel
theorem dX10_digest_113 : decode cX10_digest 113 = .ok (.if_icmp .ge 16, 3) := by decide +kernel
theorem dX10_digest_129 : decode cX10_digest 129 = .ok (.lload_n 1, 1) := by decide +kernel
theorem dX10_digest_130 : decode cX10_digest 130 = .ok (.lreturn, 1) := by decide +kernel
theorem dX10_digest_116 : decode cX10_digest 116 = .ok (.aload_n 0, 1) := by decide +kernel
theorem dX10_digest_117 : decode cX10_digest 117 = .ok (.lload_n 1, 1) := by decide +kernel
theorem dX10_digest_118 : decode cX10_digest 118 = .ok (.iload_n 3, 1) := by decide +kernel
theorem dX10_digest_119 : decode cX10_digest 119 = .ok (.invokevirtual 306, 3) := by decide +kernel
theorem dX10_digest_122 : decode cX10_digest 122 = .ok (.lstore_n 1, 1) := by decide +kernel
theorem dX10_digest_123 : decode cX10_digest 123 = .ok (.iinc 3 1, 3) := by decide +kernel
theorem dX10_digest_126 : decode cX10_digest 126 = .ok (.goto (-21), 3) := by decide +kernel
theorem dX10_digest_0 : decode cX10_digest 0 = .ok (.ldc2_w 273, 3) := by decide +kernel
theorem dX10_digest_3 : decode cX10_digest 3 = .ok (.lstore_n 1, 1) := by decide +kernel
theorem dX10_digest_4 : decode cX10_digest 4 = .ok (.lload_n 1, 1) := by decide +kernel
theorem dX10_digest_5 : decode cX10_digest 5 = .ok (.ldc2_w 275, 3) := by decide +kernel
theorem dX10_digest_8 : decode cX10_digest 8 = .ok (.lmul, 1) := by decide +kernel
theorem dX10_digest_9 : decode cX10_digest 9 = .ok (.aload_n 0, 1) := by decide +kernel
theorem dX10_digest_10 : decode cX10_digest 10 = .ok (.invokevirtual 277, 3) := by decide +kernel
theorem dX10_digest_13 : decode cX10_digest 13 = .ok (.i2l, 1) := by decide +kernel
theorem dX10_digest_14 : decode cX10_digest 14 = .ok (.ladd, 1) := by decide +kernel
theorem dX10_digest_15 : decode cX10_digest 15 = .ok (.lstore_n 1, 1) := by decide +kernel
theorem dX10_digest_16 : decode cX10_digest 16 = .ok (.lload_n 1, 1) := by decide +kernel
theorem dX10_digest_17 : decode cX10_digest 17 = .ok (.ldc2_w 275, 3) := by decide +kernel
theorem dX10_digest_20 : decode cX10_digest 20 = .ok (.lmul, 1) := by decide +kernel
theorem dX10_digest_21 : decode cX10_digest 21 = .ok (.aload_n 0, 1) := by decide +kernel
theorem dX10_digest_22 : decode cX10_digest 22 = .ok (.invokevirtual 280, 3) := by decide +kernel
theorem dX10_digest_25 : decode cX10_digest 25 = .ok (.invokestatic 284, 3) := by decide +kernel
theorem dX10_digest_28 : decode cX10_digest 28 = .ok (.i2l, 1) := by decide +kernel
theorem dX10_digest_29 : decode cX10_digest 29 = .ok (.ladd, 1) := by decide +kernel
theorem dX10_digest_30 : decode cX10_digest 30 = .ok (.lstore_n 1, 1) := by decide +kernel
theorem dX10_digest_31 : decode cX10_digest 31 = .ok (.lload_n 1, 1) := by decide +kernel
theorem dX10_digest_32 : decode cX10_digest 32 = .ok (.ldc2_w 275, 3) := by decide +kernel
theorem dX10_digest_35 : decode cX10_digest 35 = .ok (.lmul, 1) := by decide +kernel
theorem dX10_digest_36 : decode cX10_digest 36 = .ok (.aload_n 0, 1) := by decide +kernel
theorem dX10_digest_37 : decode cX10_digest 37 = .ok (.invokevirtual 288, 3) := by decide +kernel
theorem dX10_digest_40 : decode cX10_digest 40 = .ok (.i2l, 1) := by decide +kernel
theorem dX10_digest_41 : decode cX10_digest 41 = .ok (.ladd, 1) := by decide +kernel
theorem dX10_digest_42 : decode cX10_digest 42 = .ok (.lstore_n 1, 1) := by decide +kernel
theorem dX10_digest_43 : decode cX10_digest 43 = .ok (.lload_n 1, 1) := by decide +kernel
theorem dX10_digest_44 : decode cX10_digest 44 = .ok (.ldc2_w 275, 3) := by decide +kernel
theorem dX10_digest_47 : decode cX10_digest 47 = .ok (.lmul, 1) := by decide +kernel
theorem dX10_digest_48 : decode cX10_digest 48 = .ok (.aload_n 0, 1) := by decide +kernel
theorem dX10_digest_49 : decode cX10_digest 49 = .ok (.invokevirtual 291, 3) := by decide +kernel
theorem dX10_digest_52 : decode cX10_digest 52 = .ok (.i2l, 1) := by decide +kernel
theorem dX10_digest_53 : decode cX10_digest 53 = .ok (.ladd, 1) := by decide +kernel
theorem dX10_digest_54 : decode cX10_digest 54 = .ok (.lstore_n 1, 1) := by decide +kernel
theorem dX10_digest_55 : decode cX10_digest 55 = .ok (.lload_n 1, 1) := by decide +kernel
theorem dX10_digest_56 : decode cX10_digest 56 = .ok (.ldc2_w 275, 3) := by decide +kernel
theorem dX10_digest_59 : decode cX10_digest 59 = .ok (.lmul, 1) := by decide +kernel
theorem dX10_digest_60 : decode cX10_digest 60 = .ok (.aload_n 0, 1) := by decide +kernel
theorem dX10_digest_61 : decode cX10_digest 61 = .ok (.invokevirtual 294, 3) := by decide +kernel
theorem dX10_digest_64 : decode cX10_digest 64 = .ok (.i2l, 1) := by decide +kernel
theorem dX10_digest_65 : decode cX10_digest 65 = .ok (.ladd, 1) := by decide +kernel
theorem dX10_digest_66 : decode cX10_digest 66 = .ok (.lstore_n 1, 1) := by decide +kernel
theorem dX10_digest_67 : decode cX10_digest 67 = .ok (.lload_n 1, 1) := by decide +kernel
theorem dX10_digest_68 : decode cX10_digest 68 = .ok (.ldc2_w 275, 3) := by decide +kernel
theorem dX10_digest_71 : decode cX10_digest 71 = .ok (.lmul, 1) := by decide +kernel
theorem dX10_digest_72 : decode cX10_digest 72 = .ok (.aload_n 0, 1) := by decide +kernel
theorem dX10_digest_73 : decode cX10_digest 73 = .ok (.invokevirtual 297, 3) := by decide +kernel
theorem dX10_digest_76 : decode cX10_digest 76 = .ok (.i2l, 1) := by decide +kernel
theorem dX10_digest_77 : decode cX10_digest 77 = .ok (.ladd, 1) := by decide +kernel
theorem dX10_digest_78 : decode cX10_digest 78 = .ok (.lstore_n 1, 1) := by decide +kernel
theorem dX10_digest_79 : decode cX10_digest 79 = .ok (.lload_n 1, 1) := by decide +kernel
theorem dX10_digest_80 : decode cX10_digest 80 = .ok (.ldc2_w 275, 3) := by decide +kernel
theorem dX10_digest_83 : decode cX10_digest 83 = .ok (.lmul, 1) := by decide +kernel
theorem dX10_digest_84 : decode cX10_digest 84 = .ok (.aload_n 0, 1) := by decide +kernel
theorem dX10_digest_85 : decode cX10_digest 85 = .ok (.invokevirtual 300, 3) := by decide +kernel
theorem dX10_digest_88 : decode cX10_digest 88 = .ok (.i2l, 1) := by decide +kernel
theorem dX10_digest_89 : decode cX10_digest 89 = .ok (.ladd, 1) := by decide +kernel
theorem dX10_digest_90 : decode cX10_digest 90 = .ok (.lstore_n 1, 1) := by decide +kernel
theorem dX10_digest_91 : decode cX10_digest 91 = .ok (.lload_n 1, 1) := by decide +kernel
theorem dX10_digest_92 : decode cX10_digest 92 = .ok (.ldc2_w 275, 3) := by decide +kernel
theorem dX10_digest_95 : decode cX10_digest 95 = .ok (.lmul, 1) := by decide +kernel
theorem dX10_digest_96 : decode cX10_digest 96 = .ok (.aload_n 0, 1) := by decide +kernel
theorem dX10_digest_97 : decode cX10_digest 97 = .ok (.invokevirtual 303, 3) := by decide +kernel
theorem dX10_digest_100 : decode cX10_digest 100 = .ok (.i2l, 1) := by decide +kernel
theorem dX10_digest_101 : decode cX10_digest 101 = .ok (.ladd, 1) := by decide +kernel
theorem dX10_digest_102 : decode cX10_digest 102 = .ok (.lstore_n 1, 1) := by decide +kernel
theorem dX10_digest_103 : decode cX10_digest 103 = .ok (.iconst 0, 1) := by decide +kernel
theorem dX10_digest_104 : decode cX10_digest 104 = .ok (.istore_n 3, 1) := by decide +kernel
end
section
def r_X10_digestOfOutput (S : TS) (F : TF) (G : TG) (q : TQ) (l1 : Int64) (k : Nat) : Nat → Nat → Int64 → Int64
  | 0, _, d => d
  | n + 1, i, d => r_X10_digestOfOutput S F G q l1 k n (i + 1) (((((d * 31) + (v_X3_key (v_X10_outputAt S F G q k (nI i))).toInt64) * 31) + (v_X3_value (v_X10_outputAt S F G q k (nI i))).toInt64) * 31 + (v_X3_time (v_X10_outputAt S F G q k (nI i))).toInt64)
set_option maxHeartbeats 4000000 in
set_option maxRecDepth 100000 in
theorem lp_X10_digestOfOutput {p : Program} {l : Launch} {e : Env} {s : State} {m : MethodId} {args : Array Value} {below : List Frame} {meth : Method} {c : Code} {D : va_G} {yc : Nat → ClassId} {e0 : Nat} {A : Nat → Prop} {S : TS} {Z : Nat × Nat} {F : TF} {G : TG} {q : TQ} (l1 : Int64) (k : Nat) (hk : k < zn S) (hs : F 8 0 k 0 = 7) (hG : (G 0 k).1 < 3) (hO : ¬ F 0 0 (3 * k) 7 < 0) (hx : p.tables.exec = Jvm.exec) (hb : c.code = cX10_digestOfOutput) (hml : c.maxLocals = 10) (hr : meth.sig.returnType = (some .long)) (hlk : meth.locks = false) (hown : s.vm.findClass yX10_digestOfOutput.cls = some m.cls) (hts : ∀ w ∈ lw_all, w.before args s = true) (hW : WT D yc e0 A S Z F G q s.heap) (hS : va_S A s.heap s.heap []) (hA : ∀ a, s.heap.size ≤ a → A a) (hC : CX D yc e0 A s) : ∀ (n : Nat) (i : Nat) (d : Int64) (ls : Array Slot), i + n = (F 0 0 (3 * k) 7).toNatClampNeg → lv_has ls 10 [(7, .int (nI i)), (4, .long d), (6, .int (nI (F 0 0 (3 * k) 7).toNatClampNeg)), (0, .ref (zg S 7 0 0)), (1, .long l1), (3, .int (nI k))] → W p l e ({ frames := 7, cells := 0, slots := 0, locals := 152 }) s m args below meth c s.heap [] 0 0 (MQ below (zQ (some (.long (r_X10_digestOfOutput S F G q l1 k n i d)))) args s 0 0 zno) (F0 m 40 ls []) := by
  have hK := hC.1
  have hN := hC.2.1
  have hn12 := hW.n12
  have hzl := znl (F 0 0 (3 * k) 7)
  intro n
  induction n with
  | zero =>
    intro i d ls hinv hl
    refine lv_iload hx hb dX10_digestOfOutput_40 (lv_at hl 0 rfl) ?_
    refine lv_iload hx hb dX10_digestOfOutput_42 (lv_at hl 2 rfl) ?_
    refine lv_icmp_ge (tgt := 107) hx hb dX10_digestOfOutput_44 (by decide) (fun _ => ?_) (fun h9 => absurd (nI_le (by omega) (by omega)) h9)
    refine lv_lload hx hb dX10_digestOfOutput_107 (lv_at hl 1 rfl) ?_
    exact ze_l hx hb hr hlk (by rfl) dX10_digestOfOutput_109
  | succ n ih =>
    intro i d ls hinv hl
    refine lv_iload hx hb dX10_digestOfOutput_40 (lv_at hl 0 rfl) ?_
    refine lv_iload hx hb dX10_digestOfOutput_42 (lv_at hl 2 rfl) ?_
    refine lv_icmp_ge (tgt := 107) hx hb dX10_digestOfOutput_44 (by decide) (fun h9 => absurd h9 (nI_ge (by omega) (by omega))) (fun _ => ?_)
    refine lv_aload_n hx hb dX10_digestOfOutput_47 rfl (lv_at hl 3 rfl) ?_
    refine lv_iload_n hx hb dX10_digestOfOutput_48 rfl (lv_at hl 5 rfl) ?_
    refine lv_iload hx hb dX10_digestOfOutput_49 (lv_at hl 0 rfl) ?_
    refine zr_l (va_runV (As := [.int (nI k), .int (nI i)]) (rest := []) ⟨hx, hb, hml, hown, hts⟩ (k_X10_outputAt l D yc e0 A S Z F G q k (nI i) (by first | assumption | omega | decide) (by first | assumption | omega | decide) (nI_pos (by omega)) (by rw [znn hO]; exact nI_ge (by omega) (by omega))) (cwV 2 hts (lw_V wq786 wq788 ws24 wq1 wq789) rfl rfl rfl (by decide +kernel) ⟨(Nat.le_of_ble_eq_true rfl), (Nat.le_of_ble_eq_true rfl)⟩) (tp_V hC hW hS hA 7 0 0 dm7 rfl rfl) rfl rfl hl.1 rfl (lv_room (Nat.le_of_ble_eq_true rfl)) dX10_digestOfOutput_51 ⟨(Nat.le_of_ble_eq_true rfl), (Nat.le_of_ble_eq_true rfl)⟩) ?_
    refine lv_lstore (lv' := [(8, .long (v_X10_outputAt S F G q k (nI i))), (7, .int (nI i)), (4, .long d), (6, .int (nI (F 0 0 (3 * k) 7).toNatClampNeg)), (0, .ref (zg S 7 0 0)), (1, .long l1), (3, .int (nI k))]) hx hb dX10_digestOfOutput_54 hl (by decide) rfl (fun ls hl => ?_)
    refine lv_lload hx hb dX10_digestOfOutput_56 (lv_at hl 2 rfl) ?_
    refine lv_ldc2 hx hb hown (hts _ wq713) dX10_digestOfOutput_58 ?_
    refine lv_lmul hx hb dX10_digestOfOutput_61 ?_
    refine lv_lload hx hb dX10_digestOfOutput_62 (lv_at hl 0 rfl) ?_
    refine zr_i (va_runS (As := [.long (v_X10_outputAt S F G q k (nI i))]) (rest := [.long (d * 31)]) ⟨hx, hb, hml, hown, hts⟩ (k_X3_key l (v_X10_outputAt S F G q k (nI i))) (va_cwS 1 hts (lw_S wq791 wq488 wq25 wq489) rfl rfl rfl (by decide +kernel) ⟨(Nat.le_of_ble_eq_true rfl), (Nat.le_of_ble_eq_true rfl)⟩) tp_N rfl rfl hl.1 rfl (lv_room (Nat.le_of_ble_eq_true rfl)) dX10_digestOfOutput_64 ⟨(Nat.le_of_ble_eq_true rfl), (Nat.le_of_ble_eq_true rfl)⟩) ?_
    refine lv_i2l (v := (v_X3_key (v_X10_outputAt S F G q k (nI i))).toInt64) hx hb dX10_digestOfOutput_67 rfl ?_
    refine lv_ladd hx hb dX10_digestOfOutput_68 ?_
    refine lv_lstore (lv' := [(4, .long ((d * 31) + ((v_X3_key (v_X10_outputAt S F G q k (nI i))).toInt64))), (8, .long (v_X10_outputAt S F G q k (nI i))), (7, .int (nI i)), (6, .int (nI (F 0 0 (3 * k) 7).toNatClampNeg)), (0, .ref (zg S 7 0 0)), (1, .long l1), (3, .int (nI k))]) hx hb dX10_digestOfOutput_69 hl (by decide) rfl (fun ls hl => ?_)
    refine lv_lload hx hb dX10_digestOfOutput_71 (lv_at hl 0 rfl) ?_
    refine lv_ldc2 hx hb hown (hts _ wq713) dX10_digestOfOutput_73 ?_
    refine lv_lmul hx hb dX10_digestOfOutput_76 ?_
    refine lv_lload hx hb dX10_digestOfOutput_77 (lv_at hl 1 rfl) ?_
    refine zr_i (va_runS (As := [.long (v_X10_outputAt S F G q k (nI i))]) (rest := [.long (((d * 31) + ((v_X3_key (v_X10_outputAt S F G q k (nI i))).toInt64)) * 31)]) ⟨hx, hb, hml, hown, hts⟩ (k_X3_value l (v_X10_outputAt S F G q k (nI i))) (va_cwS 1 hts (lw_S wq792 wq485 wq25 wq486) rfl rfl rfl (by decide +kernel) ⟨(Nat.le_of_ble_eq_true rfl), (Nat.le_of_ble_eq_true rfl)⟩) tp_N rfl rfl hl.1 rfl (lv_room (Nat.le_of_ble_eq_true rfl)) dX10_digestOfOutput_79 ⟨(Nat.le_of_ble_eq_true rfl), (Nat.le_of_ble_eq_true rfl)⟩) ?_
    refine lv_i2l (v := (v_X3_value (v_X10_outputAt S F G q k (nI i))).toInt64) hx hb dX10_digestOfOutput_82 rfl ?_
    refine lv_ladd hx hb dX10_digestOfOutput_83 ?_
    refine lv_lstore (lv' := [(4, .long ((((d * 31) + ((v_X3_key (v_X10_outputAt S F G q k (nI i))).toInt64)) * 31) + ((v_X3_value (v_X10_outputAt S F G q k (nI i))).toInt64))), (8, .long (v_X10_outputAt S F G q k (nI i))), (7, .int (nI i)), (6, .int (nI (F 0 0 (3 * k) 7).toNatClampNeg)), (0, .ref (zg S 7 0 0)), (1, .long l1), (3, .int (nI k))]) hx hb dX10_digestOfOutput_84 hl (by decide) rfl (fun ls hl => ?_)
    refine lv_lload hx hb dX10_digestOfOutput_86 (lv_at hl 0 rfl) ?_
    refine lv_ldc2 hx hb hown (hts _ wq713) dX10_digestOfOutput_88 ?_
    refine lv_lmul hx hb dX10_digestOfOutput_91 ?_
    refine lv_lload hx hb dX10_digestOfOutput_92 (lv_at hl 1 rfl) ?_
    refine zr_i (va_runS (As := [.long (v_X10_outputAt S F G q k (nI i))]) (rest := [.long (((((d * 31) + ((v_X3_key (v_X10_outputAt S F G q k (nI i))).toInt64)) * 31) + ((v_X3_value (v_X10_outputAt S F G q k (nI i))).toInt64)) * 31)]) ⟨hx, hb, hml, hown, hts⟩ (k_X3_time l (v_X10_outputAt S F G q k (nI i))) (va_cwS 1 hts (lw_S wq793 wq396 wq25 wq397) rfl rfl rfl (by decide +kernel) ⟨(Nat.le_of_ble_eq_true rfl), (Nat.le_of_ble_eq_true rfl)⟩) tp_N rfl rfl hl.1 rfl (lv_room (Nat.le_of_ble_eq_true rfl)) dX10_digestOfOutput_94 ⟨(Nat.le_of_ble_eq_true rfl), (Nat.le_of_ble_eq_true rfl)⟩) ?_
    refine lv_i2l (v := (v_X3_time (v_X10_outputAt S F G q k (nI i))).toInt64) hx hb dX10_digestOfOutput_97 rfl ?_
    refine lv_ladd hx hb dX10_digestOfOutput_98 ?_
    refine lv_lstore (lv' := [(4, .long ((((((d * 31) + ((v_X3_key (v_X10_outputAt S F G q k (nI i))).toInt64)) * 31) + ((v_X3_value (v_X10_outputAt S F G q k (nI i))).toInt64)) * 31) + ((v_X3_time (v_X10_outputAt S F G q k (nI i))).toInt64))), (8, .long (v_X10_outputAt S F G q k (nI i))), (7, .int (nI i)), (6, .int (nI (F 0 0 (3 * k) 7).toNatClampNeg)), (0, .ref (zg S 7 0 0)), (1, .long l1), (3, .int (nI k))]) hx hb dX10_digestOfOutput_99 hl (by decide) rfl (fun ls hl => ?_)
    refine lv_iinc (v := nI (i + 1)) (lv' := [(7, .int (nI (i + 1))), (4, .long ((((((d * 31) + ((v_X3_key (v_X10_outputAt S F G q k (nI i))).toInt64)) * 31) + ((v_X3_value (v_X10_outputAt S F G q k (nI i))).toInt64)) * 31) + ((v_X3_time (v_X10_outputAt S F G q k (nI i))).toInt64))), (8, .long (v_X10_outputAt S F G q k (nI i))), (6, .int (nI (F 0 0 (3 * k) 7).toNatClampNeg)), (0, .ref (zg S 7 0 0)), (1, .long l1), (3, .int (nI k))]) hx hb dX10_digestOfOutput_101 hl (k := 2) rfl (nI_1 _) (by decide) rfl (fun ls hl => ?_)
    refine lv_goto (tgt := 40) hx hb dX10_digestOfOutput_104 (by decide) ?_
    exact ih (i + 1) ((((((d * 31) + ((v_X3_key (v_X10_outputAt S F G q k (nI i))).toInt64)) * 31) + ((v_X3_value (v_X10_outputAt S F G q k (nI i))).toInt64)) * 31) + ((v_X3_time (v_X10_outputAt S F G q k (nI i))).toInt64)) _ (by omega) (lv_sub hl [0, 1, 3, 4, 5, 6] rfl)
def v_X10_digestOfOutput (S : TS) (F : TF) (G : TG) (q : TQ) (l1 : Int64) (k : Nat) : Int64 := r_X10_digestOfOutput S F G q l1 k ((F 0 0 (3 * k) 7).toNatClampNeg) 0 ((((l1 * 31) + ((nI (F 0 0 (3 * k) 7).toNatClampNeg).toInt64)) * 31) + ((F 0 0 (3 * k + (G 0 k).1) 7).toInt64))
set_option maxHeartbeats 4000000 in
set_option maxRecDepth 100000 in
theorem k_X10_digestOfOutput (l : Launch) (D : va_G) (yc : Nat → ClassId) (e0 : Nat) (A : Nat → Prop) (S : TS) (Z : Nat × Nat) (F : TF) (G : TG) (q : TQ) (l1 : Int64) (k : Nat) (hk : k < zn S) (hs : F 8 0 k 0 = 7) (hG : (G 0 k).1 < 3) (hO : ¬ F 0 0 (3 * k) 7 < 0) : Met l yX10_digestOfOutput (ws_ yX10_digestOfOutput cX10_digestOfOutput 10 (some .long)) ({ frames := 7, cells := 0, slots := 0, locals := 152 }) (PT D yc e0 A S Z F G q [.ref (zg S 7 0 0), .long l1, .int (nI k)]) (zQ (some (.long (v_X10_digestOfOutput S F G q l1 k)))) 0 0 zno := by
  refine tk_M (by decide) (Nat.le_of_ble_eq_true rfl) ?_
  intro p e s m args below meth c ls hx hb hml hr hlk hown hts hW hS hA hC hl
  have hK := hC.1
  have hN := hC.2.1
  have hn12 := hW.n12
  have hl : lv_has ls 10 [(0, .ref (zg S 7 0 0)), (1, .long l1), (3, .int (nI k))] := hl
  have hzl := znl (F 0 0 (3 * k) 7)
  refine lv_lload_n hx hb dX10_digestOfOutput_0 rfl (lv_at hl 1 rfl) ?_
  refine lv_lstore (lv' := [(4, .long l1), (0, .ref (zg S 7 0 0)), (1, .long l1), (3, .int (nI k))]) hx hb dX10_digestOfOutput_1 hl (by decide) rfl (fun ls hl => ?_)
  refine lv_aload_n hx hb dX10_digestOfOutput_3 rfl (lv_at hl 1 rfl) ?_
  refine lv_iload_n hx hb dX10_digestOfOutput_4 rfl (lv_at hl 3 rfl) ?_
  refine zr_i (va_runV (As := [.int (nI k)]) (rest := []) ⟨hx, hb, hml, hown, hts⟩ (k_X10_outputs l D yc e0 A S Z F G q k (by first | assumption | omega | decide) (by first | assumption | omega | decide)) (cwV 1 hts (lw_V wq784 wq659 wq660 wq1 wq661) rfl rfl rfl (by decide +kernel) ⟨(Nat.le_of_ble_eq_true rfl), (Nat.le_of_ble_eq_true rfl)⟩) (tp_V hC hW hS hA 7 0 0 dm7 rfl rfl) rfl rfl hl.1 rfl (lv_room (Nat.le_of_ble_eq_true rfl)) dX10_digestOfOutput_5 ⟨(Nat.le_of_ble_eq_true rfl), (Nat.le_of_ble_eq_true rfl)⟩) ?_
  refine zk_ti (y := F 0 0 (3 * k) 7) rfl ?_
  refine zk_ti (y := nI (F 0 0 (3 * k) 7).toNatClampNeg) (znn hO) ?_
  refine lv_istore (lv' := [(6, .int (nI (F 0 0 (3 * k) 7).toNatClampNeg)), (4, .long l1), (0, .ref (zg S 7 0 0)), (1, .long l1), (3, .int (nI k))]) hx hb dX10_digestOfOutput_8 hl (by decide) rfl (fun ls hl => ?_)
  refine lv_lload hx hb dX10_digestOfOutput_10 (lv_at hl 1 rfl) ?_
  refine lv_ldc2 hx hb hown (hts _ wq713) dX10_digestOfOutput_12 ?_
  refine lv_lmul hx hb dX10_digestOfOutput_15 ?_
  refine lv_iload hx hb dX10_digestOfOutput_16 (lv_at hl 0 rfl) ?_
  refine lv_i2l (v := (nI (F 0 0 (3 * k) 7).toNatClampNeg).toInt64) hx hb dX10_digestOfOutput_18 rfl ?_
  refine lv_ladd hx hb dX10_digestOfOutput_19 ?_
  refine lv_lstore (lv' := [(4, .long ((l1 * 31) + ((nI (F 0 0 (3 * k) 7).toNatClampNeg).toInt64))), (6, .int (nI (F 0 0 (3 * k) 7).toNatClampNeg)), (0, .ref (zg S 7 0 0)), (1, .long l1), (3, .int (nI k))]) hx hb dX10_digestOfOutput_20 hl (by decide) rfl (fun ls hl => ?_)
  refine lv_lload hx hb dX10_digestOfOutput_22 (lv_at hl 0 rfl) ?_
  refine lv_ldc2 hx hb hown (hts _ wq713) dX10_digestOfOutput_24 ?_
  refine lv_lmul hx hb dX10_digestOfOutput_27 ?_
  refine lv_aload_n hx hb dX10_digestOfOutput_28 rfl (lv_at hl 2 rfl) ?_
  refine lv_iload_n hx hb dX10_digestOfOutput_29 rfl (lv_at hl 4 rfl) ?_
  refine zr_i (va_runV (As := [.int (nI k)]) (rest := [.long (((l1 * 31) + ((nI (F 0 0 (3 * k) 7).toNatClampNeg).toInt64)) * 31)]) ⟨hx, hb, hml, hown, hts⟩ (k_X10_committed l D yc e0 A S Z F G q k (by first | assumption | omega | decide) (by first | assumption | omega | decide) (by first | assumption | omega | decide)) (cwV 1 hts (lw_V wq785 wq667 wq668 wq1 wq669) rfl rfl rfl (by decide +kernel) ⟨(Nat.le_of_ble_eq_true rfl), (Nat.le_of_ble_eq_true rfl)⟩) (tp_V hC hW hS hA 7 0 0 dm7 rfl rfl) rfl rfl hl.1 rfl (lv_room (Nat.le_of_ble_eq_true rfl)) dX10_digestOfOutput_30 ⟨(Nat.le_of_ble_eq_true rfl), (Nat.le_of_ble_eq_true rfl)⟩) ?_
  refine zk_ti (y := F 0 0 (3 * k + (G 0 k).1) 7) rfl ?_
  refine lv_i2l (v := (F 0 0 (3 * k + (G 0 k).1) 7).toInt64) hx hb dX10_digestOfOutput_33 rfl ?_
  refine lv_ladd hx hb dX10_digestOfOutput_34 ?_
  refine lv_lstore (lv' := [(4, .long ((((l1 * 31) + ((nI (F 0 0 (3 * k) 7).toNatClampNeg).toInt64)) * 31) + ((F 0 0 (3 * k + (G 0 k).1) 7).toInt64))), (6, .int (nI (F 0 0 (3 * k) 7).toNatClampNeg)), (0, .ref (zg S 7 0 0)), (1, .long l1), (3, .int (nI k))]) hx hb dX10_digestOfOutput_35 hl (by decide) rfl (fun ls hl => ?_)
  refine lv_iconst (v := 0) hx hb dX10_digestOfOutput_37 (by decide) ?_
  refine lv_istore (lv' := [(7, .int 0), (4, .long ((((l1 * 31) + ((nI (F 0 0 (3 * k) 7).toNatClampNeg).toInt64)) * 31) + ((F 0 0 (3 * k + (G 0 k).1) 7).toInt64))), (6, .int (nI (F 0 0 (3 * k) 7).toNatClampNeg)), (0, .ref (zg S 7 0 0)), (1, .long l1), (3, .int (nI k))]) hx hb dX10_digestOfOutput_38 hl (by decide) rfl (fun ls hl => ?_)
  exact lp_X10_digestOfOutput l1 k hk hs hG hO hx hb hml hr hlk hown hts hW hS hA hC ((F 0 0 (3 * k) 7).toNatClampNeg) 0 ((((l1 * 31) + ((nI (F 0 0 (3 * k) 7).toNatClampNeg).toInt64)) * 31) + ((F 0 0 (3 * k + (G 0 k).1) 7).toInt64)) _ (by omega) (lv_sub hl [0, 1, 2, 3, 4, 5] rfl)
def v_X10_digestOfStage (S : TS) (F : TF) (G : TG) (q : TQ) (l1 : Int64) (k : Nat) : Int64 := if (F 8 0 k 0) = 3 then if (F 8 0 k 0) = 7 then v_X10_digestOfOutput S F G q ((((((((((((((((((((((((((((l1 * 31) + ((F 8 0 k 0).toInt64)) * 31) + ((F 0 0 (3 * k) 0).toInt64)) * 31) + ((F 0 0 (3 * k) 4).toInt64)) * 31) + ((F 0 0 (3 * k) 5).toInt64)) * 31) + ((F 0 0 (3 * k) 6).toInt64)) * 31) + ((v_X10_kept S F G q k).toInt64)) * 31) + ((v_X10_bit (v_X10_isReady S F G q k)).toInt64)) * 31) + ((v_X10_bit (v_X10_hasRoom S F G q k)).toInt64)) * 31) + ((v_X10_queued0 S F G q k).toInt64)) * 31) + ((v_X10_bit (v_X10_isBlocked0 S F G q k)).toInt64)) * 31) + ((v_X10_queued1 S F G q k).toInt64)) * 31) + ((v_X10_bit (v_X10_isBlocked1 S F G q k)).toInt64)) * 31) + ((F 8 0 k 13).toInt64)) * 31) + ((v_X10_nextEnd S F G q k).toInt64)) k else (((((((((((((((((((((((((((l1 * 31) + ((F 8 0 k 0).toInt64)) * 31) + ((F 0 0 (3 * k) 0).toInt64)) * 31) + ((F 0 0 (3 * k) 4).toInt64)) * 31) + ((F 0 0 (3 * k) 5).toInt64)) * 31) + ((F 0 0 (3 * k) 6).toInt64)) * 31) + ((v_X10_kept S F G q k).toInt64)) * 31) + ((v_X10_bit (v_X10_isReady S F G q k)).toInt64)) * 31) + ((v_X10_bit (v_X10_hasRoom S F G q k)).toInt64)) * 31) + ((v_X10_queued0 S F G q k).toInt64)) * 31) + ((v_X10_bit (v_X10_isBlocked0 S F G q k)).toInt64)) * 31) + ((v_X10_queued1 S F G q k).toInt64)) * 31) + ((v_X10_bit (v_X10_isBlocked1 S F G q k)).toInt64)) * 31) + ((F 8 0 k 13).toInt64)) * 31) + ((v_X10_nextEnd S F G q k).toInt64) else if (F 8 0 k 0) = 4 then if (F 8 0 k 0) = 7 then v_X10_digestOfOutput S F G q ((((((((((((((((((((((((((((l1 * 31) + ((F 8 0 k 0).toInt64)) * 31) + ((F 0 0 (3 * k) 0).toInt64)) * 31) + ((F 0 0 (3 * k) 4).toInt64)) * 31) + ((F 0 0 (3 * k) 5).toInt64)) * 31) + ((F 0 0 (3 * k) 6).toInt64)) * 31) + ((v_X10_kept S F G q k).toInt64)) * 31) + ((v_X10_bit (v_X10_isReady S F G q k)).toInt64)) * 31) + ((v_X10_bit (v_X10_hasRoom S F G q k)).toInt64)) * 31) + ((v_X10_queued0 S F G q k).toInt64)) * 31) + ((v_X10_bit (v_X10_isBlocked0 S F G q k)).toInt64)) * 31) + ((v_X10_queued1 S F G q k).toInt64)) * 31) + ((v_X10_bit (v_X10_isBlocked1 S F G q k)).toInt64)) * 31) + ((F 8 0 k 13).toInt64)) * 31) + ((v_X10_nextEnd S F G q k).toInt64)) k else (((((((((((((((((((((((((((l1 * 31) + ((F 8 0 k 0).toInt64)) * 31) + ((F 0 0 (3 * k) 0).toInt64)) * 31) + ((F 0 0 (3 * k) 4).toInt64)) * 31) + ((F 0 0 (3 * k) 5).toInt64)) * 31) + ((F 0 0 (3 * k) 6).toInt64)) * 31) + ((v_X10_kept S F G q k).toInt64)) * 31) + ((v_X10_bit (v_X10_isReady S F G q k)).toInt64)) * 31) + ((v_X10_bit (v_X10_hasRoom S F G q k)).toInt64)) * 31) + ((v_X10_queued0 S F G q k).toInt64)) * 31) + ((v_X10_bit (v_X10_isBlocked0 S F G q k)).toInt64)) * 31) + ((v_X10_queued1 S F G q k).toInt64)) * 31) + ((v_X10_bit (v_X10_isBlocked1 S F G q k)).toInt64)) * 31) + ((F 8 0 k 13).toInt64)) * 31) + ((v_X10_nextEnd S F G q k).toInt64) else if (F 8 0 k 0) = 7 then v_X10_digestOfOutput S F G q ((((((((((((((((((((((((((l1 * 31) + ((F 8 0 k 0).toInt64)) * 31) + ((F 0 0 (3 * k) 0).toInt64)) * 31) + ((F 0 0 (3 * k) 4).toInt64)) * 31) + ((F 0 0 (3 * k) 5).toInt64)) * 31) + ((F 0 0 (3 * k) 6).toInt64)) * 31) + ((v_X10_kept S F G q k).toInt64)) * 31) + ((v_X10_bit (v_X10_isReady S F G q k)).toInt64)) * 31) + ((v_X10_bit (v_X10_hasRoom S F G q k)).toInt64)) * 31) + ((v_X10_queued0 S F G q k).toInt64)) * 31) + ((v_X10_bit (v_X10_isBlocked0 S F G q k)).toInt64)) * 31) + ((v_X10_queued1 S F G q k).toInt64)) * 31) + ((v_X10_bit (v_X10_isBlocked1 S F G q k)).toInt64)) * 31) + ((F 8 0 k 13).toInt64)) k else (((((((((((((((((((((((((l1 * 31) + ((F 8 0 k 0).toInt64)) * 31) + ((F 0 0 (3 * k) 0).toInt64)) * 31) + ((F 0 0 (3 * k) 4).toInt64)) * 31) + ((F 0 0 (3 * k) 5).toInt64)) * 31) + ((F 0 0 (3 * k) 6).toInt64)) * 31) + ((v_X10_kept S F G q k).toInt64)) * 31) + ((v_X10_bit (v_X10_isReady S F G q k)).toInt64)) * 31) + ((v_X10_bit (v_X10_hasRoom S F G q k)).toInt64)) * 31) + ((v_X10_queued0 S F G q k).toInt64)) * 31) + ((v_X10_bit (v_X10_isBlocked0 S F G q k)).toInt64)) * 31) + ((v_X10_queued1 S F G q k).toInt64)) * 31) + ((v_X10_bit (v_X10_isBlocked1 S F G q k)).toInt64)) * 31) + ((F 8 0 k 13).toInt64)
set_option maxHeartbeats 4000000 in
set_option maxRecDepth 100000 in
theorem k_X10_digestOfStage (l : Launch) (D : va_G) (yc : Nat → ClassId) (e0 : Nat) (A : Nat → Prop) (S : TS) (Z : Nat × Nat) (F : TF) (G : TG) (q : TQ) (l1 : Int64) (k : Nat) (hk : k < zn S) (hG : (G 0 k).1 < 3) (hO : ¬ F 0 0 (3 * k) 7 < 0) : Met l yX10_digestOfStage (ws_ yX10_digestOfStage cX10_digestOfStage 7 (some .long)) ({ frames := 8, cells := 0, slots := 0, locals := 181 }) (PT D yc e0 A S Z F G q [.ref (zg S 7 0 0), .long l1, .int (nI k)]) (zQ (some (.long (v_X10_digestOfStage S F G q l1 k)))) 0 0 zno := by
  refine tk_M (by decide) (Nat.le_of_ble_eq_true rfl) ?_
  intro p e s m args below meth c ls hx hb hml hr hlk hown hts hW hS hA hC hl
  have hK := hC.1
  have hN := hC.2.1
  have hn12 := hW.n12
  have hl : lv_has ls 7 [(0, .ref (zg S 7 0 0)), (1, .long l1), (3, .int (nI k))] := hl
  refine lv_lload_n hx hb dX10_digestOfStage_0 rfl (lv_at hl 1 rfl) ?_
  refine lv_lstore (lv' := [(4, .long l1), (0, .ref (zg S 7 0 0)), (1, .long l1), (3, .int (nI k))]) hx hb dX10_digestOfStage_1 hl (by decide) rfl (fun ls hl => ?_)
  refine lv_lload hx hb dX10_digestOfStage_3 (lv_at hl 0 rfl) ?_
  refine lv_ldc2 hx hb hown (hts _ wq713) dX10_digestOfStage_5 ?_
  refine lv_lmul hx hb dX10_digestOfStage_8 ?_
  refine lv_aload_n hx hb dX10_digestOfStage_9 rfl (lv_at hl 1 rfl) ?_
  refine lv_iload_n hx hb dX10_digestOfStage_10 rfl (lv_at hl 3 rfl) ?_
  refine zr_i (va_runV (As := [.int (nI k)]) (rest := [.long (l1 * 31)]) ⟨hx, hb, hml, hown, hts⟩ (k_X10_sortOf l D yc e0 A S Z F G q k (by first | assumption | omega | decide)) (cwV 1 hts (lw_V wq741 wq628 wq629 wq1 wq630) rfl rfl rfl (by decide +kernel) ⟨(Nat.le_of_ble_eq_true rfl), (Nat.le_of_ble_eq_true rfl)⟩) (tp_V hC hW hS hA 7 0 0 dm7 rfl rfl) rfl rfl hl.1 rfl (lv_room (Nat.le_of_ble_eq_true rfl)) dX10_digestOfStage_11 ⟨(Nat.le_of_ble_eq_true rfl), (Nat.le_of_ble_eq_true rfl)⟩) ?_
  refine zk_ti (y := F 8 0 k 0) rfl ?_
  refine lv_i2l (v := (F 8 0 k 0).toInt64) hx hb dX10_digestOfStage_14 rfl ?_
  refine lv_ladd hx hb dX10_digestOfStage_15 ?_
  refine lv_lstore (lv' := [(4, .long ((l1 * 31) + ((F 8 0 k 0).toInt64))), (0, .ref (zg S 7 0 0)), (1, .long l1), (3, .int (nI k))]) hx hb dX10_digestOfStage_16 hl (by decide) rfl (fun ls hl => ?_)
  refine lv_lload hx hb dX10_digestOfStage_18 (lv_at hl 0 rfl) ?_
  refine lv_ldc2 hx hb hown (hts _ wq713) dX10_digestOfStage_20 ?_
  refine lv_lmul hx hb dX10_digestOfStage_23 ?_
  refine lv_aload_n hx hb dX10_digestOfStage_24 rfl (lv_at hl 1 rfl) ?_
  refine lv_iload_n hx hb dX10_digestOfStage_25 rfl (lv_at hl 3 rfl) ?_
  refine zr_i (va_runV (As := [.int (nI k)]) (rest := [.long (((l1 * 31) + ((F 8 0 k 0).toInt64)) * 31)]) ⟨hx, hb, hml, hown, hts⟩ (k_X10_markOf l D yc e0 A S Z F G q k (by first | assumption | omega | decide)) (cwV 1 hts (lw_V wq742 wq632 wq633 wq1 wq634) rfl rfl rfl (by decide +kernel) ⟨(Nat.le_of_ble_eq_true rfl), (Nat.le_of_ble_eq_true rfl)⟩) (tp_V hC hW hS hA 7 0 0 dm7 rfl rfl) rfl rfl hl.1 rfl (lv_room (Nat.le_of_ble_eq_true rfl)) dX10_digestOfStage_26 ⟨(Nat.le_of_ble_eq_true rfl), (Nat.le_of_ble_eq_true rfl)⟩) ?_
  refine zk_ti (y := F 0 0 (3 * k) 0) rfl ?_
  refine lv_i2l (v := (F 0 0 (3 * k) 0).toInt64) hx hb dX10_digestOfStage_29 rfl ?_
  refine lv_ladd hx hb dX10_digestOfStage_30 ?_
  refine lv_lstore (lv' := [(4, .long ((((l1 * 31) + ((F 8 0 k 0).toInt64)) * 31) + ((F 0 0 (3 * k) 0).toInt64))), (0, .ref (zg S 7 0 0)), (1, .long l1), (3, .int (nI k))]) hx hb dX10_digestOfStage_31 hl (by decide) rfl (fun ls hl => ?_)
  refine lv_lload hx hb dX10_digestOfStage_33 (lv_at hl 0 rfl) ?_
  refine lv_ldc2 hx hb hown (hts _ wq713) dX10_digestOfStage_35 ?_
  refine lv_lmul hx hb dX10_digestOfStage_38 ?_
  refine lv_aload_n hx hb dX10_digestOfStage_39 rfl (lv_at hl 1 rfl) ?_
  refine lv_iload_n hx hb dX10_digestOfStage_40 rfl (lv_at hl 3 rfl) ?_
  refine zr_i (va_runV (As := [.int (nI k)]) (rest := [.long (((((l1 * 31) + ((F 8 0 k 0).toInt64)) * 31) + ((F 0 0 (3 * k) 0).toInt64)) * 31)]) ⟨hx, hb, hml, hown, hts⟩ (k_X10_taken l D yc e0 A S Z F G q k (by first | assumption | omega | decide)) (cwV 1 hts (lw_V wq743 wq636 wq637 wq1 wq638) rfl rfl rfl (by decide +kernel) ⟨(Nat.le_of_ble_eq_true rfl), (Nat.le_of_ble_eq_true rfl)⟩) (tp_V hC hW hS hA 7 0 0 dm7 rfl rfl) rfl rfl hl.1 rfl (lv_room (Nat.le_of_ble_eq_true rfl)) dX10_digestOfStage_41 ⟨(Nat.le_of_ble_eq_true rfl), (Nat.le_of_ble_eq_true rfl)⟩) ?_
  refine zk_ti (y := F 0 0 (3 * k) 4) rfl ?_
  refine lv_i2l (v := (F 0 0 (3 * k) 4).toInt64) hx hb dX10_digestOfStage_44 rfl ?_
  refine lv_ladd hx hb dX10_digestOfStage_45 ?_
  refine lv_lstore (lv' := [(4, .long ((((((l1 * 31) + ((F 8 0 k 0).toInt64)) * 31) + ((F 0 0 (3 * k) 0).toInt64)) * 31) + ((F 0 0 (3 * k) 4).toInt64))), (0, .ref (zg S 7 0 0)), (1, .long l1), (3, .int (nI k))]) hx hb dX10_digestOfStage_46 hl (by decide) rfl (fun ls hl => ?_)
  refine lv_lload hx hb dX10_digestOfStage_48 (lv_at hl 0 rfl) ?_
  refine lv_ldc2 hx hb hown (hts _ wq713) dX10_digestOfStage_50 ?_
  refine lv_lmul hx hb dX10_digestOfStage_53 ?_
  refine lv_aload_n hx hb dX10_digestOfStage_54 rfl (lv_at hl 1 rfl) ?_
  refine lv_iload_n hx hb dX10_digestOfStage_55 rfl (lv_at hl 3 rfl) ?_
  refine zr_i (va_runV (As := [.int (nI k)]) (rest := [.long (((((((l1 * 31) + ((F 8 0 k 0).toInt64)) * 31) + ((F 0 0 (3 * k) 0).toInt64)) * 31) + ((F 0 0 (3 * k) 4).toInt64)) * 31)]) ⟨hx, hb, hml, hown, hts⟩ (k_X10_emitted l D yc e0 A S Z F G q k (by first | assumption | omega | decide)) (cwV 1 hts (lw_V wq744 wq745 wq746 wq1 wq747) rfl rfl rfl (by decide +kernel) ⟨(Nat.le_of_ble_eq_true rfl), (Nat.le_of_ble_eq_true rfl)⟩) (tp_V hC hW hS hA 7 0 0 dm7 rfl rfl) rfl rfl hl.1 rfl (lv_room (Nat.le_of_ble_eq_true rfl)) dX10_digestOfStage_56 ⟨(Nat.le_of_ble_eq_true rfl), (Nat.le_of_ble_eq_true rfl)⟩) ?_
  refine zk_ti (y := F 0 0 (3 * k) 5) rfl ?_
  refine lv_i2l (v := (F 0 0 (3 * k) 5).toInt64) hx hb dX10_digestOfStage_59 rfl ?_
  refine lv_ladd hx hb dX10_digestOfStage_60 ?_
  refine lv_lstore (lv' := [(4, .long ((((((((l1 * 31) + ((F 8 0 k 0).toInt64)) * 31) + ((F 0 0 (3 * k) 0).toInt64)) * 31) + ((F 0 0 (3 * k) 4).toInt64)) * 31) + ((F 0 0 (3 * k) 5).toInt64))), (0, .ref (zg S 7 0 0)), (1, .long l1), (3, .int (nI k))]) hx hb dX10_digestOfStage_61 hl (by decide) rfl (fun ls hl => ?_)
  refine lv_lload hx hb dX10_digestOfStage_63 (lv_at hl 0 rfl) ?_
  refine lv_ldc2 hx hb hown (hts _ wq713) dX10_digestOfStage_65 ?_
  refine lv_lmul hx hb dX10_digestOfStage_68 ?_
  refine lv_aload_n hx hb dX10_digestOfStage_69 rfl (lv_at hl 1 rfl) ?_
  refine lv_iload_n hx hb dX10_digestOfStage_70 rfl (lv_at hl 3 rfl) ?_
  refine zr_i (va_runV (As := [.int (nI k)]) (rest := [.long (((((((((l1 * 31) + ((F 8 0 k 0).toInt64)) * 31) + ((F 0 0 (3 * k) 0).toInt64)) * 31) + ((F 0 0 (3 * k) 4).toInt64)) * 31) + ((F 0 0 (3 * k) 5).toInt64)) * 31)]) ⟨hx, hb, hml, hown, hts⟩ (k_X10_late l D yc e0 A S Z F G q k (by first | assumption | omega | decide)) (cwV 1 hts (lw_V wq748 wq749 wq750 wq1 wq751) rfl rfl rfl (by decide +kernel) ⟨(Nat.le_of_ble_eq_true rfl), (Nat.le_of_ble_eq_true rfl)⟩) (tp_V hC hW hS hA 7 0 0 dm7 rfl rfl) rfl rfl hl.1 rfl (lv_room (Nat.le_of_ble_eq_true rfl)) dX10_digestOfStage_71 ⟨(Nat.le_of_ble_eq_true rfl), (Nat.le_of_ble_eq_true rfl)⟩) ?_
  refine zk_ti (y := F 0 0 (3 * k) 6) rfl ?_
  refine lv_i2l (v := (F 0 0 (3 * k) 6).toInt64) hx hb dX10_digestOfStage_74 rfl ?_
  refine lv_ladd hx hb dX10_digestOfStage_75 ?_
  refine lv_lstore (lv' := [(4, .long ((((((((((l1 * 31) + ((F 8 0 k 0).toInt64)) * 31) + ((F 0 0 (3 * k) 0).toInt64)) * 31) + ((F 0 0 (3 * k) 4).toInt64)) * 31) + ((F 0 0 (3 * k) 5).toInt64)) * 31) + ((F 0 0 (3 * k) 6).toInt64))), (0, .ref (zg S 7 0 0)), (1, .long l1), (3, .int (nI k))]) hx hb dX10_digestOfStage_76 hl (by decide) rfl (fun ls hl => ?_)
  refine lv_lload hx hb dX10_digestOfStage_78 (lv_at hl 0 rfl) ?_
  refine lv_ldc2 hx hb hown (hts _ wq713) dX10_digestOfStage_80 ?_
  refine lv_lmul hx hb dX10_digestOfStage_83 ?_
  refine lv_aload_n hx hb dX10_digestOfStage_84 rfl (lv_at hl 1 rfl) ?_
  refine lv_iload_n hx hb dX10_digestOfStage_85 rfl (lv_at hl 3 rfl) ?_
  refine zr_i (va_runV (As := [.int (nI k)]) (rest := [.long (((((((((((l1 * 31) + ((F 8 0 k 0).toInt64)) * 31) + ((F 0 0 (3 * k) 0).toInt64)) * 31) + ((F 0 0 (3 * k) 4).toInt64)) * 31) + ((F 0 0 (3 * k) 5).toInt64)) * 31) + ((F 0 0 (3 * k) 6).toInt64)) * 31)]) ⟨hx, hb, hml, hown, hts⟩ (k_X10_kept l D yc e0 A S Z F G q k (by first | assumption | omega | decide)) (cwV 1 hts (lw_V wq752 wq640 wq641 wq1 wq642) rfl rfl rfl (by decide +kernel) ⟨(Nat.le_of_ble_eq_true rfl), (Nat.le_of_ble_eq_true rfl)⟩) (tp_V hC hW hS hA 7 0 0 dm7 rfl rfl) rfl rfl hl.1 rfl (lv_room (Nat.le_of_ble_eq_true rfl)) dX10_digestOfStage_86 ⟨(Nat.le_of_ble_eq_true rfl), (Nat.le_of_ble_eq_true rfl)⟩) ?_
  refine lv_i2l (v := (v_X10_kept S F G q k).toInt64) hx hb dX10_digestOfStage_89 rfl ?_
  refine lv_ladd hx hb dX10_digestOfStage_90 ?_
  refine lv_lstore (lv' := [(4, .long ((((((((((((l1 * 31) + ((F 8 0 k 0).toInt64)) * 31) + ((F 0 0 (3 * k) 0).toInt64)) * 31) + ((F 0 0 (3 * k) 4).toInt64)) * 31) + ((F 0 0 (3 * k) 5).toInt64)) * 31) + ((F 0 0 (3 * k) 6).toInt64)) * 31) + ((v_X10_kept S F G q k).toInt64))), (0, .ref (zg S 7 0 0)), (1, .long l1), (3, .int (nI k))]) hx hb dX10_digestOfStage_91 hl (by decide) rfl (fun ls hl => ?_)
  refine lv_lload hx hb dX10_digestOfStage_93 (lv_at hl 0 rfl) ?_
  refine lv_ldc2 hx hb hown (hts _ wq713) dX10_digestOfStage_95 ?_
  refine lv_lmul hx hb dX10_digestOfStage_98 ?_
  refine lv_aload_n hx hb dX10_digestOfStage_99 rfl (lv_at hl 1 rfl) ?_
  refine lv_iload_n hx hb dX10_digestOfStage_100 rfl (lv_at hl 3 rfl) ?_
  refine zr_i (va_runV (As := [.int (nI k)]) (rest := [.long (((((((((((((l1 * 31) + ((F 8 0 k 0).toInt64)) * 31) + ((F 0 0 (3 * k) 0).toInt64)) * 31) + ((F 0 0 (3 * k) 4).toInt64)) * 31) + ((F 0 0 (3 * k) 5).toInt64)) * 31) + ((F 0 0 (3 * k) 6).toInt64)) * 31) + ((v_X10_kept S F G q k).toInt64)) * 31)]) ⟨hx, hb, hml, hown, hts⟩ (k_X10_isReady l D yc e0 A S Z F G q k (by first | assumption | omega | decide)) (cwV 1 hts (lw_V wq753 wq650 wq651 wq1 wq652) rfl rfl rfl (by decide +kernel) ⟨(Nat.le_of_ble_eq_true rfl), (Nat.le_of_ble_eq_true rfl)⟩) (tp_V hC hW hS hA 7 0 0 dm7 rfl rfl) rfl rfl hl.1 rfl (lv_room (Nat.le_of_ble_eq_true rfl)) dX10_digestOfStage_101 ⟨(Nat.le_of_ble_eq_true rfl), (Nat.le_of_ble_eq_true rfl)⟩) ?_
  refine zr_i (va_runS (As := [.int (v_X10_isReady S F G q k)]) (rest := [.long (((((((((((((l1 * 31) + ((F 8 0 k 0).toInt64)) * 31) + ((F 0 0 (3 * k) 0).toInt64)) * 31) + ((F 0 0 (3 * k) 4).toInt64)) * 31) + ((F 0 0 (3 * k) 5).toInt64)) * 31) + ((F 0 0 (3 * k) 6).toInt64)) * 31) + ((v_X10_kept S F G q k).toInt64)) * 31)]) ⟨hx, hb, hml, hown, hts⟩ (k_X10_bit l (v_X10_isReady S F G q k)) (va_cwS 1 hts (lw_S wq719 wq720 wq1 wq721) rfl rfl rfl (by decide +kernel) ⟨(Nat.le_of_ble_eq_true rfl), (Nat.le_of_ble_eq_true rfl)⟩) tp_N rfl rfl hl.1 rfl (lv_room (Nat.le_of_ble_eq_true rfl)) dX10_digestOfStage_104 ⟨(Nat.le_of_ble_eq_true rfl), (Nat.le_of_ble_eq_true rfl)⟩) ?_
  refine lv_i2l (v := (v_X10_bit (v_X10_isReady S F G q k)).toInt64) hx hb dX10_digestOfStage_107 rfl ?_
  refine lv_ladd hx hb dX10_digestOfStage_108 ?_
  refine lv_lstore (lv' := [(4, .long ((((((((((((((l1 * 31) + ((F 8 0 k 0).toInt64)) * 31) + ((F 0 0 (3 * k) 0).toInt64)) * 31) + ((F 0 0 (3 * k) 4).toInt64)) * 31) + ((F 0 0 (3 * k) 5).toInt64)) * 31) + ((F 0 0 (3 * k) 6).toInt64)) * 31) + ((v_X10_kept S F G q k).toInt64)) * 31) + ((v_X10_bit (v_X10_isReady S F G q k)).toInt64))), (0, .ref (zg S 7 0 0)), (1, .long l1), (3, .int (nI k))]) hx hb dX10_digestOfStage_109 hl (by decide) rfl (fun ls hl => ?_)
  refine lv_lload hx hb dX10_digestOfStage_111 (lv_at hl 0 rfl) ?_
  refine lv_ldc2 hx hb hown (hts _ wq713) dX10_digestOfStage_113 ?_
  refine lv_lmul hx hb dX10_digestOfStage_116 ?_
  refine lv_aload_n hx hb dX10_digestOfStage_117 rfl (lv_at hl 1 rfl) ?_
  refine lv_iload_n hx hb dX10_digestOfStage_118 rfl (lv_at hl 3 rfl) ?_
  refine zr_i (va_runV (As := [.int (nI k)]) (rest := [.long (((((((((((((((l1 * 31) + ((F 8 0 k 0).toInt64)) * 31) + ((F 0 0 (3 * k) 0).toInt64)) * 31) + ((F 0 0 (3 * k) 4).toInt64)) * 31) + ((F 0 0 (3 * k) 5).toInt64)) * 31) + ((F 0 0 (3 * k) 6).toInt64)) * 31) + ((v_X10_kept S F G q k).toInt64)) * 31) + ((v_X10_bit (v_X10_isReady S F G q k)).toInt64)) * 31)]) ⟨hx, hb, hml, hown, hts⟩ (k_X10_hasRoom l D yc e0 A S Z F G q k (by first | assumption | omega | decide)) (cwV 1 hts (lw_V wq754 wq755 wq756 wq1 wq757) rfl rfl rfl (by decide +kernel) ⟨(Nat.le_of_ble_eq_true rfl), (Nat.le_of_ble_eq_true rfl)⟩) (tp_V hC hW hS hA 7 0 0 dm7 rfl rfl) rfl rfl hl.1 rfl (lv_room (Nat.le_of_ble_eq_true rfl)) dX10_digestOfStage_119 ⟨(Nat.le_of_ble_eq_true rfl), (Nat.le_of_ble_eq_true rfl)⟩) ?_
  refine zr_i (va_runS (As := [.int (v_X10_hasRoom S F G q k)]) (rest := [.long (((((((((((((((l1 * 31) + ((F 8 0 k 0).toInt64)) * 31) + ((F 0 0 (3 * k) 0).toInt64)) * 31) + ((F 0 0 (3 * k) 4).toInt64)) * 31) + ((F 0 0 (3 * k) 5).toInt64)) * 31) + ((F 0 0 (3 * k) 6).toInt64)) * 31) + ((v_X10_kept S F G q k).toInt64)) * 31) + ((v_X10_bit (v_X10_isReady S F G q k)).toInt64)) * 31)]) ⟨hx, hb, hml, hown, hts⟩ (k_X10_bit l (v_X10_hasRoom S F G q k)) (va_cwS 1 hts (lw_S wq719 wq720 wq1 wq721) rfl rfl rfl (by decide +kernel) ⟨(Nat.le_of_ble_eq_true rfl), (Nat.le_of_ble_eq_true rfl)⟩) tp_N rfl rfl hl.1 rfl (lv_room (Nat.le_of_ble_eq_true rfl)) dX10_digestOfStage_122 ⟨(Nat.le_of_ble_eq_true rfl), (Nat.le_of_ble_eq_true rfl)⟩) ?_
  refine lv_i2l (v := (v_X10_bit (v_X10_hasRoom S F G q k)).toInt64) hx hb dX10_digestOfStage_125 rfl ?_
  refine lv_ladd hx hb dX10_digestOfStage_126 ?_
  refine lv_lstore (lv' := [(4, .long ((((((((((((((((l1 * 31) + ((F 8 0 k 0).toInt64)) * 31) + ((F 0 0 (3 * k) 0).toInt64)) * 31) + ((F 0 0 (3 * k) 4).toInt64)) * 31) + ((F 0 0 (3 * k) 5).toInt64)) * 31) + ((F 0 0 (3 * k) 6).toInt64)) * 31) + ((v_X10_kept S F G q k).toInt64)) * 31) + ((v_X10_bit (v_X10_isReady S F G q k)).toInt64)) * 31) + ((v_X10_bit (v_X10_hasRoom S F G q k)).toInt64))), (0, .ref (zg S 7 0 0)), (1, .long l1), (3, .int (nI k))]) hx hb dX10_digestOfStage_127 hl (by decide) rfl (fun ls hl => ?_)
  refine lv_lload hx hb dX10_digestOfStage_129 (lv_at hl 0 rfl) ?_
  refine lv_ldc2 hx hb hown (hts _ wq713) dX10_digestOfStage_131 ?_
  refine lv_lmul hx hb dX10_digestOfStage_134 ?_
  refine lv_aload_n hx hb dX10_digestOfStage_135 rfl (lv_at hl 1 rfl) ?_
  refine lv_iload_n hx hb dX10_digestOfStage_136 rfl (lv_at hl 3 rfl) ?_
  refine lv_iconst (v := 0) hx hb dX10_digestOfStage_137 (by decide) ?_
  refine zr_i (va_runV (As := [.int (nI k), .int 0]) (rest := [.long (((((((((((((((((l1 * 31) + ((F 8 0 k 0).toInt64)) * 31) + ((F 0 0 (3 * k) 0).toInt64)) * 31) + ((F 0 0 (3 * k) 4).toInt64)) * 31) + ((F 0 0 (3 * k) 5).toInt64)) * 31) + ((F 0 0 (3 * k) 6).toInt64)) * 31) + ((v_X10_kept S F G q k).toInt64)) * 31) + ((v_X10_bit (v_X10_isReady S F G q k)).toInt64)) * 31) + ((v_X10_bit (v_X10_hasRoom S F G q k)).toInt64)) * 31)]) ⟨hx, hb, hml, hown, hts⟩ (k_X10_queued0 l D yc e0 A S Z F G q k (by first | assumption | omega | decide)) (cwV 2 hts (lw_V wq759 wq760 wq761 wq1 wq762) rfl rfl rfl (by decide +kernel) ⟨(Nat.le_of_ble_eq_true rfl), (Nat.le_of_ble_eq_true rfl)⟩) (tp_V hC hW hS hA 7 0 0 dm7 rfl rfl) rfl rfl hl.1 rfl (lv_room (Nat.le_of_ble_eq_true rfl)) dX10_digestOfStage_138 ⟨(Nat.le_of_ble_eq_true rfl), (Nat.le_of_ble_eq_true rfl)⟩) ?_
  refine lv_i2l (v := (v_X10_queued0 S F G q k).toInt64) hx hb dX10_digestOfStage_141 rfl ?_
  refine lv_ladd hx hb dX10_digestOfStage_142 ?_
  refine lv_lstore (lv' := [(4, .long ((((((((((((((((((l1 * 31) + ((F 8 0 k 0).toInt64)) * 31) + ((F 0 0 (3 * k) 0).toInt64)) * 31) + ((F 0 0 (3 * k) 4).toInt64)) * 31) + ((F 0 0 (3 * k) 5).toInt64)) * 31) + ((F 0 0 (3 * k) 6).toInt64)) * 31) + ((v_X10_kept S F G q k).toInt64)) * 31) + ((v_X10_bit (v_X10_isReady S F G q k)).toInt64)) * 31) + ((v_X10_bit (v_X10_hasRoom S F G q k)).toInt64)) * 31) + ((v_X10_queued0 S F G q k).toInt64))), (0, .ref (zg S 7 0 0)), (1, .long l1), (3, .int (nI k))]) hx hb dX10_digestOfStage_143 hl (by decide) rfl (fun ls hl => ?_)
  refine lv_lload hx hb dX10_digestOfStage_145 (lv_at hl 0 rfl) ?_
  refine lv_ldc2 hx hb hown (hts _ wq713) dX10_digestOfStage_147 ?_
  refine lv_lmul hx hb dX10_digestOfStage_150 ?_
  refine lv_aload_n hx hb dX10_digestOfStage_151 rfl (lv_at hl 1 rfl) ?_
  refine lv_iload_n hx hb dX10_digestOfStage_152 rfl (lv_at hl 3 rfl) ?_
  refine lv_iconst (v := 0) hx hb dX10_digestOfStage_153 (by decide) ?_
  refine zr_i (va_runV (As := [.int (nI k), .int 0]) (rest := [.long (((((((((((((((((((l1 * 31) + ((F 8 0 k 0).toInt64)) * 31) + ((F 0 0 (3 * k) 0).toInt64)) * 31) + ((F 0 0 (3 * k) 4).toInt64)) * 31) + ((F 0 0 (3 * k) 5).toInt64)) * 31) + ((F 0 0 (3 * k) 6).toInt64)) * 31) + ((v_X10_kept S F G q k).toInt64)) * 31) + ((v_X10_bit (v_X10_isReady S F G q k)).toInt64)) * 31) + ((v_X10_bit (v_X10_hasRoom S F G q k)).toInt64)) * 31) + ((v_X10_queued0 S F G q k).toInt64)) * 31)]) ⟨hx, hb, hml, hown, hts⟩ (k_X10_isBlocked0 l D yc e0 A S Z F G q k (by first | assumption | omega | decide)) (cwV 2 hts (lw_V wq764 wq654 wq655 wq1 wq656) rfl rfl rfl (by decide +kernel) ⟨(Nat.le_of_ble_eq_true rfl), (Nat.le_of_ble_eq_true rfl)⟩) (tp_V hC hW hS hA 7 0 0 dm7 rfl rfl) rfl rfl hl.1 rfl (lv_room (Nat.le_of_ble_eq_true rfl)) dX10_digestOfStage_154 ⟨(Nat.le_of_ble_eq_true rfl), (Nat.le_of_ble_eq_true rfl)⟩) ?_
  refine zr_i (va_runS (As := [.int (v_X10_isBlocked0 S F G q k)]) (rest := [.long (((((((((((((((((((l1 * 31) + ((F 8 0 k 0).toInt64)) * 31) + ((F 0 0 (3 * k) 0).toInt64)) * 31) + ((F 0 0 (3 * k) 4).toInt64)) * 31) + ((F 0 0 (3 * k) 5).toInt64)) * 31) + ((F 0 0 (3 * k) 6).toInt64)) * 31) + ((v_X10_kept S F G q k).toInt64)) * 31) + ((v_X10_bit (v_X10_isReady S F G q k)).toInt64)) * 31) + ((v_X10_bit (v_X10_hasRoom S F G q k)).toInt64)) * 31) + ((v_X10_queued0 S F G q k).toInt64)) * 31)]) ⟨hx, hb, hml, hown, hts⟩ (k_X10_bit l (v_X10_isBlocked0 S F G q k)) (va_cwS 1 hts (lw_S wq719 wq720 wq1 wq721) rfl rfl rfl (by decide +kernel) ⟨(Nat.le_of_ble_eq_true rfl), (Nat.le_of_ble_eq_true rfl)⟩) tp_N rfl rfl hl.1 rfl (lv_room (Nat.le_of_ble_eq_true rfl)) dX10_digestOfStage_157 ⟨(Nat.le_of_ble_eq_true rfl), (Nat.le_of_ble_eq_true rfl)⟩) ?_
  refine lv_i2l (v := (v_X10_bit (v_X10_isBlocked0 S F G q k)).toInt64) hx hb dX10_digestOfStage_160 rfl ?_
  refine lv_ladd hx hb dX10_digestOfStage_161 ?_
  refine lv_lstore (lv' := [(4, .long ((((((((((((((((((((l1 * 31) + ((F 8 0 k 0).toInt64)) * 31) + ((F 0 0 (3 * k) 0).toInt64)) * 31) + ((F 0 0 (3 * k) 4).toInt64)) * 31) + ((F 0 0 (3 * k) 5).toInt64)) * 31) + ((F 0 0 (3 * k) 6).toInt64)) * 31) + ((v_X10_kept S F G q k).toInt64)) * 31) + ((v_X10_bit (v_X10_isReady S F G q k)).toInt64)) * 31) + ((v_X10_bit (v_X10_hasRoom S F G q k)).toInt64)) * 31) + ((v_X10_queued0 S F G q k).toInt64)) * 31) + ((v_X10_bit (v_X10_isBlocked0 S F G q k)).toInt64))), (0, .ref (zg S 7 0 0)), (1, .long l1), (3, .int (nI k))]) hx hb dX10_digestOfStage_162 hl (by decide) rfl (fun ls hl => ?_)
  refine lv_lload hx hb dX10_digestOfStage_164 (lv_at hl 0 rfl) ?_
  refine lv_ldc2 hx hb hown (hts _ wq713) dX10_digestOfStage_166 ?_
  refine lv_lmul hx hb dX10_digestOfStage_169 ?_
  refine lv_aload_n hx hb dX10_digestOfStage_170 rfl (lv_at hl 1 rfl) ?_
  refine lv_iload_n hx hb dX10_digestOfStage_171 rfl (lv_at hl 3 rfl) ?_
  refine lv_iconst (v := 1) hx hb dX10_digestOfStage_172 (by decide) ?_
  refine zr_i (va_runV (As := [.int (nI k), .int 1]) (rest := [.long (((((((((((((((((((((l1 * 31) + ((F 8 0 k 0).toInt64)) * 31) + ((F 0 0 (3 * k) 0).toInt64)) * 31) + ((F 0 0 (3 * k) 4).toInt64)) * 31) + ((F 0 0 (3 * k) 5).toInt64)) * 31) + ((F 0 0 (3 * k) 6).toInt64)) * 31) + ((v_X10_kept S F G q k).toInt64)) * 31) + ((v_X10_bit (v_X10_isReady S F G q k)).toInt64)) * 31) + ((v_X10_bit (v_X10_hasRoom S F G q k)).toInt64)) * 31) + ((v_X10_queued0 S F G q k).toInt64)) * 31) + ((v_X10_bit (v_X10_isBlocked0 S F G q k)).toInt64)) * 31)]) ⟨hx, hb, hml, hown, hts⟩ (k_X10_queued1 l D yc e0 A S Z F G q k (by first | assumption | omega | decide)) (cwV 2 hts (lw_V wq759 wq760 wq761 wq1 wq762) rfl rfl rfl (by decide +kernel) ⟨(Nat.le_of_ble_eq_true rfl), (Nat.le_of_ble_eq_true rfl)⟩) (tp_V hC hW hS hA 7 0 0 dm7 rfl rfl) rfl rfl hl.1 rfl (lv_room (Nat.le_of_ble_eq_true rfl)) dX10_digestOfStage_173 ⟨(Nat.le_of_ble_eq_true rfl), (Nat.le_of_ble_eq_true rfl)⟩) ?_
  refine lv_i2l (v := (v_X10_queued1 S F G q k).toInt64) hx hb dX10_digestOfStage_176 rfl ?_
  refine lv_ladd hx hb dX10_digestOfStage_177 ?_
  refine lv_lstore (lv' := [(4, .long ((((((((((((((((((((((l1 * 31) + ((F 8 0 k 0).toInt64)) * 31) + ((F 0 0 (3 * k) 0).toInt64)) * 31) + ((F 0 0 (3 * k) 4).toInt64)) * 31) + ((F 0 0 (3 * k) 5).toInt64)) * 31) + ((F 0 0 (3 * k) 6).toInt64)) * 31) + ((v_X10_kept S F G q k).toInt64)) * 31) + ((v_X10_bit (v_X10_isReady S F G q k)).toInt64)) * 31) + ((v_X10_bit (v_X10_hasRoom S F G q k)).toInt64)) * 31) + ((v_X10_queued0 S F G q k).toInt64)) * 31) + ((v_X10_bit (v_X10_isBlocked0 S F G q k)).toInt64)) * 31) + ((v_X10_queued1 S F G q k).toInt64))), (0, .ref (zg S 7 0 0)), (1, .long l1), (3, .int (nI k))]) hx hb dX10_digestOfStage_178 hl (by decide) rfl (fun ls hl => ?_)
  refine lv_lload hx hb dX10_digestOfStage_180 (lv_at hl 0 rfl) ?_
  refine lv_ldc2 hx hb hown (hts _ wq713) dX10_digestOfStage_182 ?_
  refine lv_lmul hx hb dX10_digestOfStage_185 ?_
  refine lv_aload_n hx hb dX10_digestOfStage_186 rfl (lv_at hl 1 rfl) ?_
  refine lv_iload_n hx hb dX10_digestOfStage_187 rfl (lv_at hl 3 rfl) ?_
  refine lv_iconst (v := 1) hx hb dX10_digestOfStage_188 (by decide) ?_
  refine zr_i (va_runV (As := [.int (nI k), .int 1]) (rest := [.long (((((((((((((((((((((((l1 * 31) + ((F 8 0 k 0).toInt64)) * 31) + ((F 0 0 (3 * k) 0).toInt64)) * 31) + ((F 0 0 (3 * k) 4).toInt64)) * 31) + ((F 0 0 (3 * k) 5).toInt64)) * 31) + ((F 0 0 (3 * k) 6).toInt64)) * 31) + ((v_X10_kept S F G q k).toInt64)) * 31) + ((v_X10_bit (v_X10_isReady S F G q k)).toInt64)) * 31) + ((v_X10_bit (v_X10_hasRoom S F G q k)).toInt64)) * 31) + ((v_X10_queued0 S F G q k).toInt64)) * 31) + ((v_X10_bit (v_X10_isBlocked0 S F G q k)).toInt64)) * 31) + ((v_X10_queued1 S F G q k).toInt64)) * 31)]) ⟨hx, hb, hml, hown, hts⟩ (k_X10_isBlocked1 l D yc e0 A S Z F G q k (by first | assumption | omega | decide)) (cwV 2 hts (lw_V wq764 wq654 wq655 wq1 wq656) rfl rfl rfl (by decide +kernel) ⟨(Nat.le_of_ble_eq_true rfl), (Nat.le_of_ble_eq_true rfl)⟩) (tp_V hC hW hS hA 7 0 0 dm7 rfl rfl) rfl rfl hl.1 rfl (lv_room (Nat.le_of_ble_eq_true rfl)) dX10_digestOfStage_189 ⟨(Nat.le_of_ble_eq_true rfl), (Nat.le_of_ble_eq_true rfl)⟩) ?_
  refine zr_i (va_runS (As := [.int (v_X10_isBlocked1 S F G q k)]) (rest := [.long (((((((((((((((((((((((l1 * 31) + ((F 8 0 k 0).toInt64)) * 31) + ((F 0 0 (3 * k) 0).toInt64)) * 31) + ((F 0 0 (3 * k) 4).toInt64)) * 31) + ((F 0 0 (3 * k) 5).toInt64)) * 31) + ((F 0 0 (3 * k) 6).toInt64)) * 31) + ((v_X10_kept S F G q k).toInt64)) * 31) + ((v_X10_bit (v_X10_isReady S F G q k)).toInt64)) * 31) + ((v_X10_bit (v_X10_hasRoom S F G q k)).toInt64)) * 31) + ((v_X10_queued0 S F G q k).toInt64)) * 31) + ((v_X10_bit (v_X10_isBlocked0 S F G q k)).toInt64)) * 31) + ((v_X10_queued1 S F G q k).toInt64)) * 31)]) ⟨hx, hb, hml, hown, hts⟩ (k_X10_bit l (v_X10_isBlocked1 S F G q k)) (va_cwS 1 hts (lw_S wq719 wq720 wq1 wq721) rfl rfl rfl (by decide +kernel) ⟨(Nat.le_of_ble_eq_true rfl), (Nat.le_of_ble_eq_true rfl)⟩) tp_N rfl rfl hl.1 rfl (lv_room (Nat.le_of_ble_eq_true rfl)) dX10_digestOfStage_192 ⟨(Nat.le_of_ble_eq_true rfl), (Nat.le_of_ble_eq_true rfl)⟩) ?_
  refine lv_i2l (v := (v_X10_bit (v_X10_isBlocked1 S F G q k)).toInt64) hx hb dX10_digestOfStage_195 rfl ?_
  refine lv_ladd hx hb dX10_digestOfStage_196 ?_
  refine lv_lstore (lv' := [(4, .long ((((((((((((((((((((((((l1 * 31) + ((F 8 0 k 0).toInt64)) * 31) + ((F 0 0 (3 * k) 0).toInt64)) * 31) + ((F 0 0 (3 * k) 4).toInt64)) * 31) + ((F 0 0 (3 * k) 5).toInt64)) * 31) + ((F 0 0 (3 * k) 6).toInt64)) * 31) + ((v_X10_kept S F G q k).toInt64)) * 31) + ((v_X10_bit (v_X10_isReady S F G q k)).toInt64)) * 31) + ((v_X10_bit (v_X10_hasRoom S F G q k)).toInt64)) * 31) + ((v_X10_queued0 S F G q k).toInt64)) * 31) + ((v_X10_bit (v_X10_isBlocked0 S F G q k)).toInt64)) * 31) + ((v_X10_queued1 S F G q k).toInt64)) * 31) + ((v_X10_bit (v_X10_isBlocked1 S F G q k)).toInt64))), (0, .ref (zg S 7 0 0)), (1, .long l1), (3, .int (nI k))]) hx hb dX10_digestOfStage_197 hl (by decide) rfl (fun ls hl => ?_)
  refine lv_lload hx hb dX10_digestOfStage_199 (lv_at hl 0 rfl) ?_
  refine lv_ldc2 hx hb hown (hts _ wq713) dX10_digestOfStage_201 ?_
  refine lv_lmul hx hb dX10_digestOfStage_204 ?_
  refine lv_aload_n hx hb dX10_digestOfStage_205 rfl (lv_at hl 1 rfl) ?_
  refine lv_iload_n hx hb dX10_digestOfStage_206 rfl (lv_at hl 3 rfl) ?_
  refine zr_i (va_runV (As := [.int (nI k)]) (rest := [.long (((((((((((((((((((((((((l1 * 31) + ((F 8 0 k 0).toInt64)) * 31) + ((F 0 0 (3 * k) 0).toInt64)) * 31) + ((F 0 0 (3 * k) 4).toInt64)) * 31) + ((F 0 0 (3 * k) 5).toInt64)) * 31) + ((F 0 0 (3 * k) 6).toInt64)) * 31) + ((v_X10_kept S F G q k).toInt64)) * 31) + ((v_X10_bit (v_X10_isReady S F G q k)).toInt64)) * 31) + ((v_X10_bit (v_X10_hasRoom S F G q k)).toInt64)) * 31) + ((v_X10_queued0 S F G q k).toInt64)) * 31) + ((v_X10_bit (v_X10_isBlocked0 S F G q k)).toInt64)) * 31) + ((v_X10_queued1 S F G q k).toInt64)) * 31) + ((v_X10_bit (v_X10_isBlocked1 S F G q k)).toInt64)) * 31)]) ⟨hx, hb, hml, hown, hts⟩ (k_X10_depthOf l D yc e0 A S Z F G q k (by first | assumption | omega | decide)) (cwV 1 hts (lw_V wq765 wq766 wq767 wq1 wq768) rfl rfl rfl (by decide +kernel) ⟨(Nat.le_of_ble_eq_true rfl), (Nat.le_of_ble_eq_true rfl)⟩) (tp_V hC hW hS hA 7 0 0 dm7 rfl rfl) rfl rfl hl.1 rfl (lv_room (Nat.le_of_ble_eq_true rfl)) dX10_digestOfStage_207 ⟨(Nat.le_of_ble_eq_true rfl), (Nat.le_of_ble_eq_true rfl)⟩) ?_
  refine zk_ti (y := F 8 0 k 13) rfl ?_
  refine lv_i2l (v := (F 8 0 k 13).toInt64) hx hb dX10_digestOfStage_210 rfl ?_
  refine lv_ladd hx hb dX10_digestOfStage_211 ?_
  refine lv_lstore (lv' := [(4, .long ((((((((((((((((((((((((((l1 * 31) + ((F 8 0 k 0).toInt64)) * 31) + ((F 0 0 (3 * k) 0).toInt64)) * 31) + ((F 0 0 (3 * k) 4).toInt64)) * 31) + ((F 0 0 (3 * k) 5).toInt64)) * 31) + ((F 0 0 (3 * k) 6).toInt64)) * 31) + ((v_X10_kept S F G q k).toInt64)) * 31) + ((v_X10_bit (v_X10_isReady S F G q k)).toInt64)) * 31) + ((v_X10_bit (v_X10_hasRoom S F G q k)).toInt64)) * 31) + ((v_X10_queued0 S F G q k).toInt64)) * 31) + ((v_X10_bit (v_X10_isBlocked0 S F G q k)).toInt64)) * 31) + ((v_X10_queued1 S F G q k).toInt64)) * 31) + ((v_X10_bit (v_X10_isBlocked1 S F G q k)).toInt64)) * 31) + ((F 8 0 k 13).toInt64))), (0, .ref (zg S 7 0 0)), (1, .long l1), (3, .int (nI k))]) hx hb dX10_digestOfStage_212 hl (by decide) rfl (fun ls hl => ?_)
  refine lv_aload_n hx hb dX10_digestOfStage_214 rfl (lv_at hl 1 rfl) ?_
  refine lv_iload_n hx hb dX10_digestOfStage_215 rfl (lv_at hl 3 rfl) ?_
  refine zr_i (va_runV (As := [.int (nI k)]) (rest := []) ⟨hx, hb, hml, hown, hts⟩ (k_X10_sortOf l D yc e0 A S Z F G q k (by first | assumption | omega | decide)) (cwV 1 hts (lw_V wq741 wq628 wq629 wq1 wq630) rfl rfl rfl (by decide +kernel) ⟨(Nat.le_of_ble_eq_true rfl), (Nat.le_of_ble_eq_true rfl)⟩) (tp_V hC hW hS hA 7 0 0 dm7 rfl rfl) rfl rfl hl.1 rfl (lv_room (Nat.le_of_ble_eq_true rfl)) dX10_digestOfStage_216 ⟨(Nat.le_of_ble_eq_true rfl), (Nat.le_of_ble_eq_true rfl)⟩) ?_
  refine zk_ti (y := F 8 0 k 0) rfl ?_
  refine lv_istore (lv' := [(6, .int (F 8 0 k 0)), (4, .long ((((((((((((((((((((((((((l1 * 31) + ((F 8 0 k 0).toInt64)) * 31) + ((F 0 0 (3 * k) 0).toInt64)) * 31) + ((F 0 0 (3 * k) 4).toInt64)) * 31) + ((F 0 0 (3 * k) 5).toInt64)) * 31) + ((F 0 0 (3 * k) 6).toInt64)) * 31) + ((v_X10_kept S F G q k).toInt64)) * 31) + ((v_X10_bit (v_X10_isReady S F G q k)).toInt64)) * 31) + ((v_X10_bit (v_X10_hasRoom S F G q k)).toInt64)) * 31) + ((v_X10_queued0 S F G q k).toInt64)) * 31) + ((v_X10_bit (v_X10_isBlocked0 S F G q k)).toInt64)) * 31) + ((v_X10_queued1 S F G q k).toInt64)) * 31) + ((v_X10_bit (v_X10_isBlocked1 S F G q k)).toInt64)) * 31) + ((F 8 0 k 13).toInt64))), (0, .ref (zg S 7 0 0)), (1, .long l1), (3, .int (nI k))]) hx hb dX10_digestOfStage_219 hl (by decide) rfl (fun ls hl => ?_)
  refine lv_iload hx hb dX10_digestOfStage_221 (lv_at hl 0 rfl) ?_
  refine lv_iconst (v := 3) hx hb dX10_digestOfStage_223 (by decide) ?_
  refine lv_icmp_eq (tgt := 233) hx hb dX10_digestOfStage_224 (by decide) (fun hb1 => ?_) (fun hb1 => ?_)
  · refine lv_lload hx hb dX10_digestOfStage_233 (lv_at hl 1 rfl) ?_
    refine lv_ldc2 hx hb hown (hts _ wq713) dX10_digestOfStage_235 ?_
    refine lv_lmul hx hb dX10_digestOfStage_238 ?_
    refine lv_aload_n hx hb dX10_digestOfStage_239 rfl (lv_at hl 2 rfl) ?_
    refine lv_iload_n hx hb dX10_digestOfStage_240 rfl (lv_at hl 4 rfl) ?_
    refine zr_i (va_runV (As := [.int (nI k)]) (rest := [.long (((((((((((((((((((((((((((l1 * 31) + ((F 8 0 k 0).toInt64)) * 31) + ((F 0 0 (3 * k) 0).toInt64)) * 31) + ((F 0 0 (3 * k) 4).toInt64)) * 31) + ((F 0 0 (3 * k) 5).toInt64)) * 31) + ((F 0 0 (3 * k) 6).toInt64)) * 31) + ((v_X10_kept S F G q k).toInt64)) * 31) + ((v_X10_bit (v_X10_isReady S F G q k)).toInt64)) * 31) + ((v_X10_bit (v_X10_hasRoom S F G q k)).toInt64)) * 31) + ((v_X10_queued0 S F G q k).toInt64)) * 31) + ((v_X10_bit (v_X10_isBlocked0 S F G q k)).toInt64)) * 31) + ((v_X10_queued1 S F G q k).toInt64)) * 31) + ((v_X10_bit (v_X10_isBlocked1 S F G q k)).toInt64)) * 31) + ((F 8 0 k 13).toInt64)) * 31)]) ⟨hx, hb, hml, hown, hts⟩ (k_X10_nextEnd l D yc e0 A S Z F G q k (by first | assumption | omega | decide) (by first | exact Or.inl (by assumption) | exact Or.inr (by assumption))) (cwV 1 hts (lw_V wq769 wq770 wq771 wq1 wq772) rfl rfl rfl (by decide +kernel) ⟨(Nat.le_of_ble_eq_true rfl), (Nat.le_of_ble_eq_true rfl)⟩) (tp_V hC hW hS hA 7 0 0 dm7 rfl rfl) rfl rfl hl.1 rfl (lv_room (Nat.le_of_ble_eq_true rfl)) dX10_digestOfStage_241 ⟨(Nat.le_of_ble_eq_true rfl), (Nat.le_of_ble_eq_true rfl)⟩) ?_
    refine lv_i2l (v := (v_X10_nextEnd S F G q k).toInt64) hx hb dX10_digestOfStage_244 rfl ?_
    refine lv_ladd hx hb dX10_digestOfStage_245 ?_
    refine lv_lstore (lv' := [(4, .long ((((((((((((((((((((((((((((l1 * 31) + ((F 8 0 k 0).toInt64)) * 31) + ((F 0 0 (3 * k) 0).toInt64)) * 31) + ((F 0 0 (3 * k) 4).toInt64)) * 31) + ((F 0 0 (3 * k) 5).toInt64)) * 31) + ((F 0 0 (3 * k) 6).toInt64)) * 31) + ((v_X10_kept S F G q k).toInt64)) * 31) + ((v_X10_bit (v_X10_isReady S F G q k)).toInt64)) * 31) + ((v_X10_bit (v_X10_hasRoom S F G q k)).toInt64)) * 31) + ((v_X10_queued0 S F G q k).toInt64)) * 31) + ((v_X10_bit (v_X10_isBlocked0 S F G q k)).toInt64)) * 31) + ((v_X10_queued1 S F G q k).toInt64)) * 31) + ((v_X10_bit (v_X10_isBlocked1 S F G q k)).toInt64)) * 31) + ((F 8 0 k 13).toInt64)) * 31) + ((v_X10_nextEnd S F G q k).toInt64))), (6, .int (F 8 0 k 0)), (0, .ref (zg S 7 0 0)), (1, .long l1), (3, .int (nI k))]) hx hb dX10_digestOfStage_246 hl (by decide) rfl (fun ls hl => ?_)
    refine lv_iload hx hb dX10_digestOfStage_248 (lv_at hl 1 rfl) ?_
    refine lv_bipush (v := 7) hx hb dX10_digestOfStage_250 (by decide) ?_
    refine lv_icmp_ne (tgt := 265) hx hb dX10_digestOfStage_252 (by decide) (fun hb2 => ?_) (fun hb2 => ?_)
    · refine lv_lload hx hb dX10_digestOfStage_265 (lv_at hl 0 rfl) ?_
      exact ze_l hx hb hr hlk (by unfold v_X10_digestOfStage; rw [if_pos hb1, if_neg hb2]) dX10_digestOfStage_267
    · refine lv_aload_n hx hb dX10_digestOfStage_255 rfl (lv_at hl 2 rfl) ?_
      refine lv_lload hx hb dX10_digestOfStage_256 (lv_at hl 0 rfl) ?_
      refine lv_iload_n hx hb dX10_digestOfStage_258 rfl (lv_at hl 4 rfl) ?_
      refine zr_l (va_runV (As := [.long ((((((((((((((((((((((((((((l1 * 31) + ((F 8 0 k 0).toInt64)) * 31) + ((F 0 0 (3 * k) 0).toInt64)) * 31) + ((F 0 0 (3 * k) 4).toInt64)) * 31) + ((F 0 0 (3 * k) 5).toInt64)) * 31) + ((F 0 0 (3 * k) 6).toInt64)) * 31) + ((v_X10_kept S F G q k).toInt64)) * 31) + ((v_X10_bit (v_X10_isReady S F G q k)).toInt64)) * 31) + ((v_X10_bit (v_X10_hasRoom S F G q k)).toInt64)) * 31) + ((v_X10_queued0 S F G q k).toInt64)) * 31) + ((v_X10_bit (v_X10_isBlocked0 S F G q k)).toInt64)) * 31) + ((v_X10_queued1 S F G q k).toInt64)) * 31) + ((v_X10_bit (v_X10_isBlocked1 S F G q k)).toInt64)) * 31) + ((F 8 0 k 13).toInt64)) * 31) + ((v_X10_nextEnd S F G q k).toInt64)), .int (nI k)]) (rest := []) ⟨hx, hb, hml, hown, hts⟩ (k_X10_digestOfOutput l D yc e0 A S Z F G q ((((((((((((((((((((((((((((l1 * 31) + ((F 8 0 k 0).toInt64)) * 31) + ((F 0 0 (3 * k) 0).toInt64)) * 31) + ((F 0 0 (3 * k) 4).toInt64)) * 31) + ((F 0 0 (3 * k) 5).toInt64)) * 31) + ((F 0 0 (3 * k) 6).toInt64)) * 31) + ((v_X10_kept S F G q k).toInt64)) * 31) + ((v_X10_bit (v_X10_isReady S F G q k)).toInt64)) * 31) + ((v_X10_bit (v_X10_hasRoom S F G q k)).toInt64)) * 31) + ((v_X10_queued0 S F G q k).toInt64)) * 31) + ((v_X10_bit (v_X10_isBlocked0 S F G q k)).toInt64)) * 31) + ((v_X10_queued1 S F G q k).toInt64)) * 31) + ((v_X10_bit (v_X10_isBlocked1 S F G q k)).toInt64)) * 31) + ((F 8 0 k 13).toInt64)) * 31) + ((v_X10_nextEnd S F G q k).toInt64)) k (by first | assumption | omega | decide) (by first | assumption | omega | decide) (by first | assumption | omega | decide) (by first | assumption | omega | decide)) (cwV 2 hts (lw_V wq780 wq782 ws23 wq1 wq783) rfl rfl rfl (by decide +kernel) ⟨(Nat.le_of_ble_eq_true rfl), (Nat.le_of_ble_eq_true rfl)⟩) (tp_V hC hW hS hA 7 0 0 dm7 rfl rfl) rfl rfl hl.1 rfl (lv_room (Nat.le_of_ble_eq_true rfl)) dX10_digestOfStage_259 ⟨(Nat.le_of_ble_eq_true rfl), (Nat.le_of_ble_eq_true rfl)⟩) ?_
      refine lv_goto (tgt := 267) hx hb dX10_digestOfStage_262 (by decide) ?_
      exact ze_l hx hb hr hlk (by unfold v_X10_digestOfStage; rw [if_pos hb1, if_pos hb2]) dX10_digestOfStage_267
  · refine lv_iload hx hb dX10_digestOfStage_227 (lv_at hl 0 rfl) ?_
    refine lv_iconst (v := 4) hx hb dX10_digestOfStage_229 (by decide) ?_
    refine lv_icmp_ne (tgt := 248) hx hb dX10_digestOfStage_230 (by decide) (fun hb3 => ?_) (fun hb3 => ?_)
    · refine lv_iload hx hb dX10_digestOfStage_248 (lv_at hl 0 rfl) ?_
      refine lv_bipush (v := 7) hx hb dX10_digestOfStage_250 (by decide) ?_
      refine lv_icmp_ne (tgt := 265) hx hb dX10_digestOfStage_252 (by decide) (fun hb5 => ?_) (fun hb5 => ?_)
      · refine lv_lload hx hb dX10_digestOfStage_265 (lv_at hl 1 rfl) ?_
        exact ze_l hx hb hr hlk (by unfold v_X10_digestOfStage; rw [if_neg hb1, if_neg hb3, if_neg hb5]) dX10_digestOfStage_267
      · refine lv_aload_n hx hb dX10_digestOfStage_255 rfl (lv_at hl 2 rfl) ?_
        refine lv_lload hx hb dX10_digestOfStage_256 (lv_at hl 1 rfl) ?_
        refine lv_iload_n hx hb dX10_digestOfStage_258 rfl (lv_at hl 4 rfl) ?_
        refine zr_l (va_runV (As := [.long ((((((((((((((((((((((((((l1 * 31) + ((F 8 0 k 0).toInt64)) * 31) + ((F 0 0 (3 * k) 0).toInt64)) * 31) + ((F 0 0 (3 * k) 4).toInt64)) * 31) + ((F 0 0 (3 * k) 5).toInt64)) * 31) + ((F 0 0 (3 * k) 6).toInt64)) * 31) + ((v_X10_kept S F G q k).toInt64)) * 31) + ((v_X10_bit (v_X10_isReady S F G q k)).toInt64)) * 31) + ((v_X10_bit (v_X10_hasRoom S F G q k)).toInt64)) * 31) + ((v_X10_queued0 S F G q k).toInt64)) * 31) + ((v_X10_bit (v_X10_isBlocked0 S F G q k)).toInt64)) * 31) + ((v_X10_queued1 S F G q k).toInt64)) * 31) + ((v_X10_bit (v_X10_isBlocked1 S F G q k)).toInt64)) * 31) + ((F 8 0 k 13).toInt64)), .int (nI k)]) (rest := []) ⟨hx, hb, hml, hown, hts⟩ (k_X10_digestOfOutput l D yc e0 A S Z F G q ((((((((((((((((((((((((((l1 * 31) + ((F 8 0 k 0).toInt64)) * 31) + ((F 0 0 (3 * k) 0).toInt64)) * 31) + ((F 0 0 (3 * k) 4).toInt64)) * 31) + ((F 0 0 (3 * k) 5).toInt64)) * 31) + ((F 0 0 (3 * k) 6).toInt64)) * 31) + ((v_X10_kept S F G q k).toInt64)) * 31) + ((v_X10_bit (v_X10_isReady S F G q k)).toInt64)) * 31) + ((v_X10_bit (v_X10_hasRoom S F G q k)).toInt64)) * 31) + ((v_X10_queued0 S F G q k).toInt64)) * 31) + ((v_X10_bit (v_X10_isBlocked0 S F G q k)).toInt64)) * 31) + ((v_X10_queued1 S F G q k).toInt64)) * 31) + ((v_X10_bit (v_X10_isBlocked1 S F G q k)).toInt64)) * 31) + ((F 8 0 k 13).toInt64)) k (by first | assumption | omega | decide) (by first | assumption | omega | decide) (by first | assumption | omega | decide) (by first | assumption | omega | decide)) (cwV 2 hts (lw_V wq780 wq782 ws23 wq1 wq783) rfl rfl rfl (by decide +kernel) ⟨(Nat.le_of_ble_eq_true rfl), (Nat.le_of_ble_eq_true rfl)⟩) (tp_V hC hW hS hA 7 0 0 dm7 rfl rfl) rfl rfl hl.1 rfl (lv_room (Nat.le_of_ble_eq_true rfl)) dX10_digestOfStage_259 ⟨(Nat.le_of_ble_eq_true rfl), (Nat.le_of_ble_eq_true rfl)⟩) ?_
        refine lv_goto (tgt := 267) hx hb dX10_digestOfStage_262 (by decide) ?_
        exact ze_l hx hb hr hlk (by unfold v_X10_digestOfStage; rw [if_neg hb1, if_neg hb3, if_pos hb5]) dX10_digestOfStage_267
    · refine lv_lload hx hb dX10_digestOfStage_233 (lv_at hl 1 rfl) ?_
      refine lv_ldc2 hx hb hown (hts _ wq713) dX10_digestOfStage_235 ?_
      refine lv_lmul hx hb dX10_digestOfStage_238 ?_
      refine lv_aload_n hx hb dX10_digestOfStage_239 rfl (lv_at hl 2 rfl) ?_
      refine lv_iload_n hx hb dX10_digestOfStage_240 rfl (lv_at hl 4 rfl) ?_
      refine zr_i (va_runV (As := [.int (nI k)]) (rest := [.long (((((((((((((((((((((((((((l1 * 31) + ((F 8 0 k 0).toInt64)) * 31) + ((F 0 0 (3 * k) 0).toInt64)) * 31) + ((F 0 0 (3 * k) 4).toInt64)) * 31) + ((F 0 0 (3 * k) 5).toInt64)) * 31) + ((F 0 0 (3 * k) 6).toInt64)) * 31) + ((v_X10_kept S F G q k).toInt64)) * 31) + ((v_X10_bit (v_X10_isReady S F G q k)).toInt64)) * 31) + ((v_X10_bit (v_X10_hasRoom S F G q k)).toInt64)) * 31) + ((v_X10_queued0 S F G q k).toInt64)) * 31) + ((v_X10_bit (v_X10_isBlocked0 S F G q k)).toInt64)) * 31) + ((v_X10_queued1 S F G q k).toInt64)) * 31) + ((v_X10_bit (v_X10_isBlocked1 S F G q k)).toInt64)) * 31) + ((F 8 0 k 13).toInt64)) * 31)]) ⟨hx, hb, hml, hown, hts⟩ (k_X10_nextEnd l D yc e0 A S Z F G q k (by first | assumption | omega | decide) (by first | exact Or.inl (by assumption) | exact Or.inr (by assumption))) (cwV 1 hts (lw_V wq769 wq770 wq771 wq1 wq772) rfl rfl rfl (by decide +kernel) ⟨(Nat.le_of_ble_eq_true rfl), (Nat.le_of_ble_eq_true rfl)⟩) (tp_V hC hW hS hA 7 0 0 dm7 rfl rfl) rfl rfl hl.1 rfl (lv_room (Nat.le_of_ble_eq_true rfl)) dX10_digestOfStage_241 ⟨(Nat.le_of_ble_eq_true rfl), (Nat.le_of_ble_eq_true rfl)⟩) ?_
      refine lv_i2l (v := (v_X10_nextEnd S F G q k).toInt64) hx hb dX10_digestOfStage_244 rfl ?_
      refine lv_ladd hx hb dX10_digestOfStage_245 ?_
      refine lv_lstore (lv' := [(4, .long ((((((((((((((((((((((((((((l1 * 31) + ((F 8 0 k 0).toInt64)) * 31) + ((F 0 0 (3 * k) 0).toInt64)) * 31) + ((F 0 0 (3 * k) 4).toInt64)) * 31) + ((F 0 0 (3 * k) 5).toInt64)) * 31) + ((F 0 0 (3 * k) 6).toInt64)) * 31) + ((v_X10_kept S F G q k).toInt64)) * 31) + ((v_X10_bit (v_X10_isReady S F G q k)).toInt64)) * 31) + ((v_X10_bit (v_X10_hasRoom S F G q k)).toInt64)) * 31) + ((v_X10_queued0 S F G q k).toInt64)) * 31) + ((v_X10_bit (v_X10_isBlocked0 S F G q k)).toInt64)) * 31) + ((v_X10_queued1 S F G q k).toInt64)) * 31) + ((v_X10_bit (v_X10_isBlocked1 S F G q k)).toInt64)) * 31) + ((F 8 0 k 13).toInt64)) * 31) + ((v_X10_nextEnd S F G q k).toInt64))), (6, .int (F 8 0 k 0)), (0, .ref (zg S 7 0 0)), (1, .long l1), (3, .int (nI k))]) hx hb dX10_digestOfStage_246 hl (by decide) rfl (fun ls hl => ?_)
      refine lv_iload hx hb dX10_digestOfStage_248 (lv_at hl 1 rfl) ?_
      refine lv_bipush (v := 7) hx hb dX10_digestOfStage_250 (by decide) ?_
      refine lv_icmp_ne (tgt := 265) hx hb dX10_digestOfStage_252 (by decide) (fun hb4 => ?_) (fun hb4 => ?_)
      · refine lv_lload hx hb dX10_digestOfStage_265 (lv_at hl 0 rfl) ?_
        exact ze_l hx hb hr hlk (by unfold v_X10_digestOfStage; rw [if_neg hb1, if_pos hb3, if_neg hb4]) dX10_digestOfStage_267
      · refine lv_aload_n hx hb dX10_digestOfStage_255 rfl (lv_at hl 2 rfl) ?_
        refine lv_lload hx hb dX10_digestOfStage_256 (lv_at hl 0 rfl) ?_
        refine lv_iload_n hx hb dX10_digestOfStage_258 rfl (lv_at hl 4 rfl) ?_
        refine zr_l (va_runV (As := [.long ((((((((((((((((((((((((((((l1 * 31) + ((F 8 0 k 0).toInt64)) * 31) + ((F 0 0 (3 * k) 0).toInt64)) * 31) + ((F 0 0 (3 * k) 4).toInt64)) * 31) + ((F 0 0 (3 * k) 5).toInt64)) * 31) + ((F 0 0 (3 * k) 6).toInt64)) * 31) + ((v_X10_kept S F G q k).toInt64)) * 31) + ((v_X10_bit (v_X10_isReady S F G q k)).toInt64)) * 31) + ((v_X10_bit (v_X10_hasRoom S F G q k)).toInt64)) * 31) + ((v_X10_queued0 S F G q k).toInt64)) * 31) + ((v_X10_bit (v_X10_isBlocked0 S F G q k)).toInt64)) * 31) + ((v_X10_queued1 S F G q k).toInt64)) * 31) + ((v_X10_bit (v_X10_isBlocked1 S F G q k)).toInt64)) * 31) + ((F 8 0 k 13).toInt64)) * 31) + ((v_X10_nextEnd S F G q k).toInt64)), .int (nI k)]) (rest := []) ⟨hx, hb, hml, hown, hts⟩ (k_X10_digestOfOutput l D yc e0 A S Z F G q ((((((((((((((((((((((((((((l1 * 31) + ((F 8 0 k 0).toInt64)) * 31) + ((F 0 0 (3 * k) 0).toInt64)) * 31) + ((F 0 0 (3 * k) 4).toInt64)) * 31) + ((F 0 0 (3 * k) 5).toInt64)) * 31) + ((F 0 0 (3 * k) 6).toInt64)) * 31) + ((v_X10_kept S F G q k).toInt64)) * 31) + ((v_X10_bit (v_X10_isReady S F G q k)).toInt64)) * 31) + ((v_X10_bit (v_X10_hasRoom S F G q k)).toInt64)) * 31) + ((v_X10_queued0 S F G q k).toInt64)) * 31) + ((v_X10_bit (v_X10_isBlocked0 S F G q k)).toInt64)) * 31) + ((v_X10_queued1 S F G q k).toInt64)) * 31) + ((v_X10_bit (v_X10_isBlocked1 S F G q k)).toInt64)) * 31) + ((F 8 0 k 13).toInt64)) * 31) + ((v_X10_nextEnd S F G q k).toInt64)) k (by first | assumption | omega | decide) (by first | assumption | omega | decide) (by first | assumption | omega | decide) (by first | assumption | omega | decide)) (cwV 2 hts (lw_V wq780 wq782 ws23 wq1 wq783) rfl rfl rfl (by decide +kernel) ⟨(Nat.le_of_ble_eq_true rfl), (Nat.le_of_ble_eq_true rfl)⟩) (tp_V hC hW hS hA 7 0 0 dm7 rfl rfl) rfl rfl hl.1 rfl (lv_room (Nat.le_of_ble_eq_true rfl)) dX10_digestOfStage_259 ⟨(Nat.le_of_ble_eq_true rfl), (Nat.le_of_ble_eq_true rfl)⟩) ?_
        refine lv_goto (tgt := 267) hx hb dX10_digestOfStage_262 (by decide) ?_
        exact ze_l hx hb hr hlk (by unfold v_X10_digestOfStage; rw [if_neg hb1, if_pos hb3, if_pos hb4]) dX10_digestOfStage_267
def r_X10_digest (S : TS) (F : TF) (G : TG) (q : TQ) (w : Nat) : Nat → Nat → Int64 → Int64
  | 0, _, d => d
  | n + 1, i, d => r_X10_digest S F G q w n (i + 1) (v_X10_digestOfStage S F G q d i)
set_option maxHeartbeats 4000000 in
set_option maxRecDepth 100000 in
theorem lp_X10_digest {p : Program} {l : Launch} {e : Env} {s : State} {m : MethodId} {args : Array Value} {below : List Frame} {meth : Method} {c : Code} {D : va_G} {yc : Nat → ClassId} {e0 : Nat} {A : Nat → Prop} {S : TS} {Z : Nat × Nat} {F : TF} {G : TG} {q : TQ} (w : Nat) (hw : F 6 0 0 3 = nI w - 1) (hwn : w ≤ zn S) (hOs : ∀ k, k < zn S → ¬ F 0 0 (3 * k) 7 < 0) (hGs : ∀ k, k < zn S → (G 0 k).1 < 3) (hx : p.tables.exec = Jvm.exec) (hb : c.code = cX10_digest) (hml : c.maxLocals = 4) (hr : meth.sig.returnType = (some .long)) (hlk : meth.locks = false) (hown : s.vm.findClass yX10_digest.cls = some m.cls) (hts : ∀ w ∈ lw_all, w.before args s = true) (hW : WT D yc e0 A S Z F G q s.heap) (hS : va_S A s.heap s.heap []) (hA : ∀ a, s.heap.size ≤ a → A a) (hC : CX D yc e0 A s) : ∀ (n : Nat) (i : Nat) (d : Int64) (ls : Array Slot), i + n = zn S → lv_has ls 4 [(3, .int (nI i)), (1, .long d), (0, .ref (zg S 7 0 0))] → W p l e ({ frames := 9, cells := 0, slots := 0, locals := 207 }) s m args below meth c s.heap [] 0 0 (MQ below (zQ (some (.long (r_X10_digest S F G q w n i d)))) args s 0 0 zno) (F0 m 105 ls []) := by
  have hK := hC.1
  have hN := hC.2.1
  have hn12 := hW.n12
  intro n
  induction n with
  | zero =>
    intro i d ls hinv hl
    refine lv_iload_n hx hb dX10_digest_105 rfl (lv_at hl 0 rfl) ?_
    refine lv_aload_n hx hb dX10_digest_106 rfl (lv_at hl 2 rfl) ?_
    refine t_get (D := D) (ci := 9) (v := .ref (zg S 6 0 0)) (C := RX10) (T := TX10) (N := 5) hx hb hts iX10 hown hK hW 7 0 0 dm7 rfl rfl 0 (by decide) (hts _ wq95) (fun _ h9 => h9) rfl dX10_digest_107 ?_
    refine zr_i (va_runV (As := []) (rest := [.int (nI i)]) ⟨hx, hb, hml, hown, hts⟩ (k_X2_size l D yc e0 A S Z F G q 0 (by first | assumption | omega | decide)) (cwV 0 hts (lw_V wq115 wq116 wq117 wq2 wq118) rfl rfl rfl (by decide +kernel) ⟨(Nat.le_of_ble_eq_true rfl), (Nat.le_of_ble_eq_true rfl)⟩) (tp_V hC hW hS hA 6 0 0 (dm6 (by omega)) rfl rfl) rfl rfl hl.1 rfl (lv_room (Nat.le_of_ble_eq_true rfl)) dX10_digest_110 ⟨(Nat.le_of_ble_eq_true rfl), (Nat.le_of_ble_eq_true rfl)⟩) ?_
    refine zk_ti (y := nI (zn S)) rfl ?_
    refine lv_icmp_ge (tgt := 129) hx hb dX10_digest_113 (by decide) (fun _ => ?_) (fun h9 => absurd (nI_le (by omega) (by omega)) h9)
    refine lv_lload_n hx hb dX10_digest_129 rfl (lv_at hl 1 rfl) ?_
    exact ze_l hx hb hr hlk (by rfl) dX10_digest_130
  | succ n ih =>
    intro i d ls hinv hl
    refine lv_iload_n hx hb dX10_digest_105 rfl (lv_at hl 0 rfl) ?_
    refine lv_aload_n hx hb dX10_digest_106 rfl (lv_at hl 2 rfl) ?_
    refine t_get (D := D) (ci := 9) (v := .ref (zg S 6 0 0)) (C := RX10) (T := TX10) (N := 5) hx hb hts iX10 hown hK hW 7 0 0 dm7 rfl rfl 0 (by decide) (hts _ wq95) (fun _ h9 => h9) rfl dX10_digest_107 ?_
    refine zr_i (va_runV (As := []) (rest := [.int (nI i)]) ⟨hx, hb, hml, hown, hts⟩ (k_X2_size l D yc e0 A S Z F G q 0 (by first | assumption | omega | decide)) (cwV 0 hts (lw_V wq115 wq116 wq117 wq2 wq118) rfl rfl rfl (by decide +kernel) ⟨(Nat.le_of_ble_eq_true rfl), (Nat.le_of_ble_eq_true rfl)⟩) (tp_V hC hW hS hA 6 0 0 (dm6 (by omega)) rfl rfl) rfl rfl hl.1 rfl (lv_room (Nat.le_of_ble_eq_true rfl)) dX10_digest_110 ⟨(Nat.le_of_ble_eq_true rfl), (Nat.le_of_ble_eq_true rfl)⟩) ?_
    refine zk_ti (y := nI (zn S)) rfl ?_
    refine lv_icmp_ge (tgt := 129) hx hb dX10_digest_113 (by decide) (fun h9 => absurd h9 (nI_ge (by omega) (by omega))) (fun _ => ?_)
    refine lv_aload_n hx hb dX10_digest_116 rfl (lv_at hl 2 rfl) ?_
    refine lv_lload_n hx hb dX10_digest_117 rfl (lv_at hl 1 rfl) ?_
    refine lv_iload_n hx hb dX10_digest_118 rfl (lv_at hl 0 rfl) ?_
    refine zr_l (va_runV (As := [.long d, .int (nI i)]) (rest := []) ⟨hx, hb, hml, hown, hts⟩ (k_X10_digestOfStage l D yc e0 A S Z F G q d i (by first | assumption | omega | decide) (hGs _ (by omega)) (hOs _ (by omega))) (cwV 2 hts (lw_V wq737 wq739 ws21 wq1 wq740) rfl rfl rfl (by decide +kernel) ⟨(Nat.le_of_ble_eq_true rfl), (Nat.le_of_ble_eq_true rfl)⟩) (tp_V hC hW hS hA 7 0 0 dm7 rfl rfl) rfl rfl hl.1 rfl (lv_room (Nat.le_of_ble_eq_true rfl)) dX10_digest_119 ⟨(Nat.le_of_ble_eq_true rfl), (Nat.le_of_ble_eq_true rfl)⟩) ?_
    refine lv_lstore_n (lv' := [(1, .long (v_X10_digestOfStage S F G q d i)), (3, .int (nI i)), (0, .ref (zg S 7 0 0))]) hx hb dX10_digest_122 rfl hl (by decide) rfl (fun ls hl => ?_)
    refine lv_iinc (v := nI (i + 1)) (lv' := [(3, .int (nI (i + 1))), (1, .long (v_X10_digestOfStage S F G q d i)), (0, .ref (zg S 7 0 0))]) hx hb dX10_digest_123 hl (k := 1) rfl (nI_1 _) (by decide) rfl (fun ls hl => ?_)
    refine lv_goto (tgt := 105) hx hb dX10_digest_126 (by decide) ?_
    exact ih (i + 1) (v_X10_digestOfStage S F G q d i) _ (by omega) (lv_sub hl [0, 1, 2] rfl)
def v_X10_digest (S : TS) (F : TF) (G : TG) (q : TQ) (w : Nat) : Int64 := r_X10_digest S F G q w (zn S) 0 ((((((((((((((((58014 * 31) + ((nI (zn S)).toInt64)) * 31) + ((v_X10_bit (F 7 0 0 2)).toInt64)) * 31) + ((F 6 0 0 6).toInt64)) * 31) + ((F 6 0 0 5).toInt64)) * 31) + ((F 7 0 0 3).toInt64)) * 31) + ((F 7 0 0 4).toInt64)) * 31) + ((v_X10_inFlight S F G q).toInt64)) * 31) + ((v_X10_next S F G q w).toInt64))
set_option maxHeartbeats 4000000 in
set_option maxRecDepth 100000 in
theorem k_X10_digest (l : Launch) (D : va_G) (yc : Nat → ClassId) (e0 : Nat) (A : Nat → Prop) (S : TS) (Z : Nat × Nat) (F : TF) (G : TG) (q : TQ) (w : Nat) (hw : F 6 0 0 3 = nI w - 1) (hwn : w ≤ zn S) (hOs : ∀ k, k < zn S → ¬ F 0 0 (3 * k) 7 < 0) (hGs : ∀ k, k < zn S → (G 0 k).1 < 3) : Met l yX10_digest (ws_ yX10_digest cX10_digest 4 (some .long)) ({ frames := 9, cells := 0, slots := 0, locals := 207 }) (PT D yc e0 A S Z F G q [.ref (zg S 7 0 0)]) (zQ (some (.long (v_X10_digest S F G q w)))) 0 0 zno := by
  refine tk_M (by decide) (Nat.le_of_ble_eq_true rfl) ?_
  intro p e s m args below meth c ls hx hb hml hr hlk hown hts hW hS hA hC hl
  have hK := hC.1
  have hN := hC.2.1
  have hn12 := hW.n12
  have hl : lv_has ls 4 [(0, .ref (zg S 7 0 0))] := hl
  refine lv_ldc2 hx hb hown (hts _ wq712) dX10_digest_0 ?_
  refine lv_lstore_n (lv' := [(1, .long 58014), (0, .ref (zg S 7 0 0))]) hx hb dX10_digest_3 rfl hl (by decide) rfl (fun ls hl => ?_)
  refine lv_lload_n hx hb dX10_digest_4 rfl (lv_at hl 0 rfl) ?_
  refine lv_ldc2 hx hb hown (hts _ wq713) dX10_digest_5 ?_
  refine lv_lmul hx hb dX10_digest_8 ?_
  refine lv_aload_n hx hb dX10_digest_9 rfl (lv_at hl 1 rfl) ?_
  refine zr_i (va_runV (As := []) (rest := [.long (58014 * 31)]) ⟨hx, hb, hml, hown, hts⟩ (k_X10_stages l D yc e0 A S Z F G q) (cwV 0 hts (lw_V wq714 wq624 wq625 wq1 wq626) rfl rfl rfl (by decide +kernel) ⟨(Nat.le_of_ble_eq_true rfl), (Nat.le_of_ble_eq_true rfl)⟩) (tp_V hC hW hS hA 7 0 0 dm7 rfl rfl) rfl rfl hl.1 rfl (lv_room (Nat.le_of_ble_eq_true rfl)) dX10_digest_10 ⟨(Nat.le_of_ble_eq_true rfl), (Nat.le_of_ble_eq_true rfl)⟩) ?_
  refine zk_ti (y := nI (zn S)) rfl ?_
  refine lv_i2l (v := (nI (zn S)).toInt64) hx hb dX10_digest_13 rfl ?_
  refine lv_ladd hx hb dX10_digest_14 ?_
  refine lv_lstore_n (lv' := [(1, .long ((58014 * 31) + ((nI (zn S)).toInt64))), (0, .ref (zg S 7 0 0))]) hx hb dX10_digest_15 rfl hl (by decide) rfl (fun ls hl => ?_)
  refine lv_lload_n hx hb dX10_digest_16 rfl (lv_at hl 0 rfl) ?_
  refine lv_ldc2 hx hb hown (hts _ wq713) dX10_digest_17 ?_
  refine lv_lmul hx hb dX10_digest_20 ?_
  refine lv_aload_n hx hb dX10_digest_21 rfl (lv_at hl 1 rfl) ?_
  refine zr_i (va_runV (As := []) (rest := [.long (((58014 * 31) + ((nI (zn S)).toInt64)) * 31)]) ⟨hx, hb, hml, hown, hts⟩ (k_X10_isStarted l D yc e0 A S Z F G q) (cwV 0 hts (lw_V wq715 wq716 wq717 wq1 wq718) rfl rfl rfl (by decide +kernel) ⟨(Nat.le_of_ble_eq_true rfl), (Nat.le_of_ble_eq_true rfl)⟩) (tp_V hC hW hS hA 7 0 0 dm7 rfl rfl) rfl rfl hl.1 rfl (lv_room (Nat.le_of_ble_eq_true rfl)) dX10_digest_22 ⟨(Nat.le_of_ble_eq_true rfl), (Nat.le_of_ble_eq_true rfl)⟩) ?_
  refine zk_ti (y := F 7 0 0 2) rfl ?_
  refine zr_i (va_runS (As := [.int (F 7 0 0 2)]) (rest := [.long (((58014 * 31) + ((nI (zn S)).toInt64)) * 31)]) ⟨hx, hb, hml, hown, hts⟩ (k_X10_bit l (F 7 0 0 2)) (va_cwS 1 hts (lw_S wq719 wq720 wq1 wq721) rfl rfl rfl (by decide +kernel) ⟨(Nat.le_of_ble_eq_true rfl), (Nat.le_of_ble_eq_true rfl)⟩) tp_N rfl rfl hl.1 rfl (lv_room (Nat.le_of_ble_eq_true rfl)) dX10_digest_25 ⟨(Nat.le_of_ble_eq_true rfl), (Nat.le_of_ble_eq_true rfl)⟩) ?_
  refine lv_i2l (v := (v_X10_bit (F 7 0 0 2)).toInt64) hx hb dX10_digest_28 rfl ?_
  refine lv_ladd hx hb dX10_digest_29 ?_
  refine lv_lstore_n (lv' := [(1, .long ((((58014 * 31) + ((nI (zn S)).toInt64)) * 31) + ((v_X10_bit (F 7 0 0 2)).toInt64))), (0, .ref (zg S 7 0 0))]) hx hb dX10_digest_30 rfl hl (by decide) rfl (fun ls hl => ?_)
  refine lv_lload_n hx hb dX10_digest_31 rfl (lv_at hl 0 rfl) ?_
  refine lv_ldc2 hx hb hown (hts _ wq713) dX10_digest_32 ?_
  refine lv_lmul hx hb dX10_digest_35 ?_
  refine lv_aload_n hx hb dX10_digest_36 rfl (lv_at hl 1 rfl) ?_
  refine zr_i (va_runV (As := []) (rest := [.long (((((58014 * 31) + ((nI (zn S)).toInt64)) * 31) + ((v_X10_bit (F 7 0 0 2)).toInt64)) * 31)]) ⟨hx, hb, hml, hown, hts⟩ (k_X10_complete l D yc e0 A S Z F G q) (cwV 0 hts (lw_V wq722 wq723 wq724 wq1 wq725) rfl rfl rfl (by decide +kernel) ⟨(Nat.le_of_ble_eq_true rfl), (Nat.le_of_ble_eq_true rfl)⟩) (tp_V hC hW hS hA 7 0 0 dm7 rfl rfl) rfl rfl hl.1 rfl (lv_room (Nat.le_of_ble_eq_true rfl)) dX10_digest_37 ⟨(Nat.le_of_ble_eq_true rfl), (Nat.le_of_ble_eq_true rfl)⟩) ?_
  refine zk_ti (y := F 6 0 0 6) rfl ?_
  refine lv_i2l (v := (F 6 0 0 6).toInt64) hx hb dX10_digest_40 rfl ?_
  refine lv_ladd hx hb dX10_digest_41 ?_
  refine lv_lstore_n (lv' := [(1, .long ((((((58014 * 31) + ((nI (zn S)).toInt64)) * 31) + ((v_X10_bit (F 7 0 0 2)).toInt64)) * 31) + ((F 6 0 0 6).toInt64))), (0, .ref (zg S 7 0 0))]) hx hb dX10_digest_42 rfl hl (by decide) rfl (fun ls hl => ?_)
  refine lv_lload_n hx hb dX10_digest_43 rfl (lv_at hl 0 rfl) ?_
  refine lv_ldc2 hx hb hown (hts _ wq713) dX10_digest_44 ?_
  refine lv_lmul hx hb dX10_digest_47 ?_
  refine lv_aload_n hx hb dX10_digest_48 rfl (lv_at hl 1 rfl) ?_
  refine zr_i (va_runV (As := []) (rest := [.long (((((((58014 * 31) + ((nI (zn S)).toInt64)) * 31) + ((v_X10_bit (F 7 0 0 2)).toInt64)) * 31) + ((F 6 0 0 6).toInt64)) * 31)]) ⟨hx, hb, hml, hown, hts⟩ (k_X10_begun l D yc e0 A S Z F G q) (cwV 0 hts (lw_V wq726 wq671 wq672 wq1 wq673) rfl rfl rfl (by decide +kernel) ⟨(Nat.le_of_ble_eq_true rfl), (Nat.le_of_ble_eq_true rfl)⟩) (tp_V hC hW hS hA 7 0 0 dm7 rfl rfl) rfl rfl hl.1 rfl (lv_room (Nat.le_of_ble_eq_true rfl)) dX10_digest_49 ⟨(Nat.le_of_ble_eq_true rfl), (Nat.le_of_ble_eq_true rfl)⟩) ?_
  refine zk_ti (y := F 6 0 0 5) rfl ?_
  refine lv_i2l (v := (F 6 0 0 5).toInt64) hx hb dX10_digest_52 rfl ?_
  refine lv_ladd hx hb dX10_digest_53 ?_
  refine lv_lstore_n (lv' := [(1, .long ((((((((58014 * 31) + ((nI (zn S)).toInt64)) * 31) + ((v_X10_bit (F 7 0 0 2)).toInt64)) * 31) + ((F 6 0 0 6).toInt64)) * 31) + ((F 6 0 0 5).toInt64))), (0, .ref (zg S 7 0 0))]) hx hb dX10_digest_54 rfl hl (by decide) rfl (fun ls hl => ?_)
  refine lv_lload_n hx hb dX10_digest_55 rfl (lv_at hl 0 rfl) ?_
  refine lv_ldc2 hx hb hown (hts _ wq713) dX10_digest_56 ?_
  refine lv_lmul hx hb dX10_digest_59 ?_
  refine lv_aload_n hx hb dX10_digest_60 rfl (lv_at hl 1 rfl) ?_
  refine zr_i (va_runV (As := []) (rest := [.long (((((((((58014 * 31) + ((nI (zn S)).toInt64)) * 31) + ((v_X10_bit (F 7 0 0 2)).toInt64)) * 31) + ((F 6 0 0 6).toInt64)) * 31) + ((F 6 0 0 5).toInt64)) * 31)]) ⟨hx, hb, hml, hown, hts⟩ (k_X10_crashes l D yc e0 A S Z F G q) (cwV 0 hts (lw_V wq727 wq728 wq729 wq1 wq730) rfl rfl rfl (by decide +kernel) ⟨(Nat.le_of_ble_eq_true rfl), (Nat.le_of_ble_eq_true rfl)⟩) (tp_V hC hW hS hA 7 0 0 dm7 rfl rfl) rfl rfl hl.1 rfl (lv_room (Nat.le_of_ble_eq_true rfl)) dX10_digest_61 ⟨(Nat.le_of_ble_eq_true rfl), (Nat.le_of_ble_eq_true rfl)⟩) ?_
  refine zk_ti (y := F 7 0 0 3) rfl ?_
  refine lv_i2l (v := (F 7 0 0 3).toInt64) hx hb dX10_digest_64 rfl ?_
  refine lv_ladd hx hb dX10_digest_65 ?_
  refine lv_lstore_n (lv' := [(1, .long ((((((((((58014 * 31) + ((nI (zn S)).toInt64)) * 31) + ((v_X10_bit (F 7 0 0 2)).toInt64)) * 31) + ((F 6 0 0 6).toInt64)) * 31) + ((F 6 0 0 5).toInt64)) * 31) + ((F 7 0 0 3).toInt64))), (0, .ref (zg S 7 0 0))]) hx hb dX10_digest_66 rfl hl (by decide) rfl (fun ls hl => ?_)
  refine lv_lload_n hx hb dX10_digest_67 rfl (lv_at hl 0 rfl) ?_
  refine lv_ldc2 hx hb hown (hts _ wq713) dX10_digest_68 ?_
  refine lv_lmul hx hb dX10_digest_71 ?_
  refine lv_aload_n hx hb dX10_digest_72 rfl (lv_at hl 1 rfl) ?_
  refine zr_i (va_runV (As := []) (rest := [.long (((((((((((58014 * 31) + ((nI (zn S)).toInt64)) * 31) + ((v_X10_bit (F 7 0 0 2)).toInt64)) * 31) + ((F 6 0 0 6).toInt64)) * 31) + ((F 6 0 0 5).toInt64)) * 31) + ((F 7 0 0 3).toInt64)) * 31)]) ⟨hx, hb, hml, hown, hts⟩ (k_X10_worked l D yc e0 A S Z F G q) (cwV 0 hts (lw_V wq731 wq732 wq733 wq1 wq734) rfl rfl rfl (by decide +kernel) ⟨(Nat.le_of_ble_eq_true rfl), (Nat.le_of_ble_eq_true rfl)⟩) (tp_V hC hW hS hA 7 0 0 dm7 rfl rfl) rfl rfl hl.1 rfl (lv_room (Nat.le_of_ble_eq_true rfl)) dX10_digest_73 ⟨(Nat.le_of_ble_eq_true rfl), (Nat.le_of_ble_eq_true rfl)⟩) ?_
  refine zk_ti (y := F 7 0 0 4) rfl ?_
  refine lv_i2l (v := (F 7 0 0 4).toInt64) hx hb dX10_digest_76 rfl ?_
  refine lv_ladd hx hb dX10_digest_77 ?_
  refine lv_lstore_n (lv' := [(1, .long ((((((((((((58014 * 31) + ((nI (zn S)).toInt64)) * 31) + ((v_X10_bit (F 7 0 0 2)).toInt64)) * 31) + ((F 6 0 0 6).toInt64)) * 31) + ((F 6 0 0 5).toInt64)) * 31) + ((F 7 0 0 3).toInt64)) * 31) + ((F 7 0 0 4).toInt64))), (0, .ref (zg S 7 0 0))]) hx hb dX10_digest_78 rfl hl (by decide) rfl (fun ls hl => ?_)
  refine lv_lload_n hx hb dX10_digest_79 rfl (lv_at hl 0 rfl) ?_
  refine lv_ldc2 hx hb hown (hts _ wq713) dX10_digest_80 ?_
  refine lv_lmul hx hb dX10_digest_83 ?_
  refine lv_aload_n hx hb dX10_digest_84 rfl (lv_at hl 1 rfl) ?_
  refine zr_i (va_runV (As := []) (rest := [.long (((((((((((((58014 * 31) + ((nI (zn S)).toInt64)) * 31) + ((v_X10_bit (F 7 0 0 2)).toInt64)) * 31) + ((F 6 0 0 6).toInt64)) * 31) + ((F 6 0 0 5).toInt64)) * 31) + ((F 7 0 0 3).toInt64)) * 31) + ((F 7 0 0 4).toInt64)) * 31)]) ⟨hx, hb, hml, hown, hts⟩ (k_X10_inFlight l D yc e0 A S Z F G q) (cwV 0 hts (lw_V wq735 wq675 wq676 wq1 wq677) rfl rfl rfl (by decide +kernel) ⟨(Nat.le_of_ble_eq_true rfl), (Nat.le_of_ble_eq_true rfl)⟩) (tp_V hC hW hS hA 7 0 0 dm7 rfl rfl) rfl rfl hl.1 rfl (lv_room (Nat.le_of_ble_eq_true rfl)) dX10_digest_85 ⟨(Nat.le_of_ble_eq_true rfl), (Nat.le_of_ble_eq_true rfl)⟩) ?_
  refine lv_i2l (v := (v_X10_inFlight S F G q).toInt64) hx hb dX10_digest_88 rfl ?_
  refine lv_ladd hx hb dX10_digest_89 ?_
  refine lv_lstore_n (lv' := [(1, .long ((((((((((((((58014 * 31) + ((nI (zn S)).toInt64)) * 31) + ((v_X10_bit (F 7 0 0 2)).toInt64)) * 31) + ((F 6 0 0 6).toInt64)) * 31) + ((F 6 0 0 5).toInt64)) * 31) + ((F 7 0 0 3).toInt64)) * 31) + ((F 7 0 0 4).toInt64)) * 31) + ((v_X10_inFlight S F G q).toInt64))), (0, .ref (zg S 7 0 0))]) hx hb dX10_digest_90 rfl hl (by decide) rfl (fun ls hl => ?_)
  refine lv_lload_n hx hb dX10_digest_91 rfl (lv_at hl 0 rfl) ?_
  refine lv_ldc2 hx hb hown (hts _ wq713) dX10_digest_92 ?_
  refine lv_lmul hx hb dX10_digest_95 ?_
  refine lv_aload_n hx hb dX10_digest_96 rfl (lv_at hl 1 rfl) ?_
  refine zr_i (va_runV (As := []) (rest := [.long (((((((((((((((58014 * 31) + ((nI (zn S)).toInt64)) * 31) + ((v_X10_bit (F 7 0 0 2)).toInt64)) * 31) + ((F 6 0 0 6).toInt64)) * 31) + ((F 6 0 0 5).toInt64)) * 31) + ((F 7 0 0 3).toInt64)) * 31) + ((F 7 0 0 4).toInt64)) * 31) + ((v_X10_inFlight S F G q).toInt64)) * 31)]) ⟨hx, hb, hml, hown, hts⟩ (k_X10_next l D yc e0 A S Z F G q w (by first | assumption | omega | decide) (by first | assumption | omega | decide)) (cwV 0 hts (lw_V wq736 wq684 wq685 wq1 wq686) rfl rfl rfl (by decide +kernel) ⟨(Nat.le_of_ble_eq_true rfl), (Nat.le_of_ble_eq_true rfl)⟩) (tp_V hC hW hS hA 7 0 0 dm7 rfl rfl) rfl rfl hl.1 rfl (lv_room (Nat.le_of_ble_eq_true rfl)) dX10_digest_97 ⟨(Nat.le_of_ble_eq_true rfl), (Nat.le_of_ble_eq_true rfl)⟩) ?_
  refine lv_i2l (v := (v_X10_next S F G q w).toInt64) hx hb dX10_digest_100 rfl ?_
  refine lv_ladd hx hb dX10_digest_101 ?_
  refine lv_lstore_n (lv' := [(1, .long ((((((((((((((((58014 * 31) + ((nI (zn S)).toInt64)) * 31) + ((v_X10_bit (F 7 0 0 2)).toInt64)) * 31) + ((F 6 0 0 6).toInt64)) * 31) + ((F 6 0 0 5).toInt64)) * 31) + ((F 7 0 0 3).toInt64)) * 31) + ((F 7 0 0 4).toInt64)) * 31) + ((v_X10_inFlight S F G q).toInt64)) * 31) + ((v_X10_next S F G q w).toInt64))), (0, .ref (zg S 7 0 0))]) hx hb dX10_digest_102 rfl hl (by decide) rfl (fun ls hl => ?_)
  refine lv_iconst (v := 0) hx hb dX10_digest_103 (by decide) ?_
  refine lv_istore_n (lv' := [(3, .int 0), (1, .long ((((((((((((((((58014 * 31) + ((nI (zn S)).toInt64)) * 31) + ((v_X10_bit (F 7 0 0 2)).toInt64)) * 31) + ((F 6 0 0 6).toInt64)) * 31) + ((F 6 0 0 5).toInt64)) * 31) + ((F 7 0 0 3).toInt64)) * 31) + ((F 7 0 0 4).toInt64)) * 31) + ((v_X10_inFlight S F G q).toInt64)) * 31) + ((v_X10_next S F G q w).toInt64))), (0, .ref (zg S 7 0 0))]) hx hb dX10_digest_104 rfl hl (by decide) rfl (fun ls hl => ?_)
  exact lp_X10_digest w hw hwn hOs hGs hx hb hml hr hlk hown hts hW hS hA hC (zn S) 0 ((((((((((((((((58014 * 31) + ((nI (zn S)).toInt64)) * 31) + ((v_X10_bit (F 7 0 0 2)).toInt64)) * 31) + ((F 6 0 0 6).toInt64)) * 31) + ((F 6 0 0 5).toInt64)) * 31) + ((F 7 0 0 3).toInt64)) * 31) + ((F 7 0 0 4).toInt64)) * 31) + ((v_X10_inFlight S F G q).toInt64)) * 31) + ((v_X10_next S F G q w).toInt64)) _ (by omega) (lv_sub hl [0, 1, 2] rfl)
end
section
/-! ===== methods that write: the world as one thing; the room by what a row's room came to ===== -/
abbrev TW : Type := TF × TG × TQ
def zset (w : TW) (kd fl k j : Nat) (v : Int32) : TW := (zF w.1 kd fl k (fun j' => if j' = j then v else w.1 kd fl k j'), w.2)
def zq (q : TQ) (i : Nat) (p : Nat × List Int64) : TQ := fun i' => if i' = i then p else q i'
def zrw (w : TW) (i : Nat) (p : Nat × List Int64) : TW := (w.1, w.2.1, zq w.2.2 i p)
def zsav (w : TW) (fl k : Nat) (p : Nat × Nat) : TW := (w.1, (fun fl' k' => if fl' = fl ∧ k' = k then p else w.2.1 fl' k'), w.2.2)
def zlet {α β : Type} (a : α) (f : α → β) : β := f a
theorem zlet_e {α β : Type} {a b : α} {f : α → β} {r : β} (h : a = b) (k : f b = r) : zlet a f = r := by subst h; exact k
theorem zif_p {α : Type} {c : Prop} {d : Decidable c} {a b r : α} (h : c) (k : a = r) : (@ite α c d a b) = r := by rw [if_pos h]; exact k
theorem zif_n {α : Type} {c : Prop} {d : Decidable c} {a b r : α} (h : ¬ c) (k : b = r) : (@ite α c d a b) = r := by rw [if_neg h]; exact k
theorem zP_p {α : Type} {P : α → Prop} {c : Prop} {d : Decidable c} {a b : α} (h : c) (k : P a) : P (@ite α c d a b) := by rw [if_pos h]; exact k
theorem zP_n {α : Type} {P : α → Prop} {c : Prop} {d : Decidable c} {a b : α} (h : ¬ c) (k : P b) : P (@ite α c d a b) := by rw [if_neg h]; exact k
theorem zP_if {α : Type} {P : α → Prop} {c : Prop} {d : Decidable c} {a b : α} (h : P a) (k : P b) : P (@ite α c d a b) := by split <;> assumption
theorem zP_l {α β : Type} {P : β → Prop} {a b : α} {f : α → β} (h : a = b) (k : P (f b)) : P (zlet a f) := by subst h; exact k
theorem zP_let {α β : Type} {P : β → Prop} (Q : α → Prop) {a : α} {f : α → β} (h : Q a) (k : ∀ b, Q b → P (f b)) : P (zlet a f) := k a h
/-- no row's room gets less -/
def zle (a b : TW) : Prop := ∀ i, (a.2.2 i).1 ≤ (b.2.2 i).1
def zle2 {α : Type} (a : TW) (b : TW × α) : Prop := zle a b.1
theorem zle.rf {a : TW} : zle a a := fun _ => Nat.le_refl _
theorem zle.tr {a b c : TW} (h : zle a b) (k : zle b c) : zle a c := fun i => Nat.le_trans (h i) (k i)
theorem zle.to {a b c : TW} (h : zle a b) (k : c.2.2 = b.2.2) : zle a c := fun i => by rw [k]; exact h i
theorem zle.row {w : TW} {i : Nat} {p : Nat × List Int64} (h : (w.2.2 i).1 ≤ p.1) : zle w (zrw w i p) := fun j => by
  show (w.2.2 j).1 ≤ (zq w.2.2 i p j).1
  unfold zq
  split
  · rename_i e; rw [e]; exact h
  · exact Nat.le_refl _
theorem zsm_le {f g : Nat → Nat} (h : ∀ i, f i ≤ g i) : ∀ n, zsm f n ≤ zsm g n
  | 0 => Nat.le_refl _
  | n + 1 => Nat.add_le_add (zsm_le h n) (h n)
theorem zsm_one {f : Nat → Nat} {i : Nat} : ∀ {n : Nat}, i < n → f i ≤ zsm f n
  | 0, h => absurd h (Nat.not_lt_zero _)
  | n + 1, h => by
    show f i ≤ zsm f n + f n
    by_cases e : i = n
    · rw [e]; omega
    · have := zsm_one (f := f) (i := i) (n := n) (by omega); omega
theorem zsm_eq {f g : Nat → Nat} : ∀ n, (∀ i, i < n → f i = g i) → zsm f n = zsm g n
  | 0, _ => rfl
  | n + 1, h => by
    show zsm f n + f n = zsm g n + g n
    rw [zsm_eq n (fun i hi => h i (by omega)), h n (by omega)]
theorem zsm_upd {f g : Nat → Nat} {i : Nat} (hg : ∀ j, j ≠ i → g j = f j) : ∀ n, i < n → zsm g n + f i = zsm f n + g i
  | 0, h => absurd h (Nat.not_lt_zero _)
  | n + 1, h => by
    show zsm g n + g n + f i = zsm f n + f n + g i
    by_cases e : i = n
    · subst e
      rw [zsm_eq (f := g) (g := f) i (fun j hj => hg j (by omega))]
      omega
    · have := zsm_upd hg n (by omega)
      rw [hg n (fun h => e h.symm)]
      omega
theorem zq_s {q : TQ} {i : Nat} {p : Nat × List Int64} : zq q i p i = p := if_pos rfl
theorem zq_n {q : TQ} {i j : Nat} {p : Nat × List Int64} (h : j ≠ i) : zq q i p j = q j := if_neg h
theorem Psi_upd {q : TQ} {i : Nat} {p : Nat × List Int64} (hi : i < 348) : Psi (zq q i p) + (q i).1 / 8 = Psi q + p.1 / 8 := by
  have h := zsm_upd (f := fun j => (q j).1 / 8) (g := fun j => (zq q i p j).1 / 8) (i := i) (fun j hj => by simp only [zq_n hj]) 348 hi
  simp only [zq_s] at h
  exact h
theorem Phi_upd {q : TQ} {i : Nat} {p : Nat × List Int64} (hi : i < 348) : Phi (zq q i p) + 2 * (q i).1 = Phi q + 2 * p.1 := by
  have h := zsm_upd (f := fun j => 2 * (q j).1) (g := fun j => 2 * (zq q i p j).1) (i := i) (fun j hj => by simp only [zq_n hj]) 348 hi
  simp only [zq_s] at h
  exact h
theorem dr_lt {S : TS} {i : Nat} (h : dr S i) : i < 348 := by unfold dr at h; omega
/-- the room that stands: of cells and of slots -/
def ZB (Z : Nat × Nat) (Tc Ts : Nat) (w : TW) : Prop := Z.1 + Psi w.2.2 ≤ Tc ∧ Z.2 + Phi w.2.2 ≤ Ts ∧ Ts ≤ 8000000
theorem ZB.mono {Z : Nat × Nat} {Tc Ts : Nat} {a b : TW} (hb : ZB Z Tc Ts b) (h : zle a b) : ZB Z Tc Ts a := by
  obtain ⟨h1, h2, h3⟩ := hb
  have e1 : Psi a.2.2 ≤ Psi b.2.2 := zsm_le (fun i => Nat.div_le_div_right (h i)) _
  have e2 : Phi a.2.2 ≤ Phi b.2.2 := zsm_le (fun i => Nat.mul_le_mul_left _ (h i)) _
  exact ⟨by omega, by omega, h3⟩
theorem ZB.cap {Z : Nat × Nat} {Tc Ts : Nat} {w : TW} (h : ZB Z Tc Ts w) {i : Nat} (hi : i < 348) : (w.2.2 i).1 ≤ 4000000 := by
  have e : 2 * (w.2.2 i).1 ≤ zsm (fun j => 2 * (w.2.2 j).1) 348 := zsm_one (f := fun j => 2 * (w.2.2 j).1) hi
  have h2 : Z.2 + zsm (fun j => 2 * (w.2.2 j).1) 348 ≤ Ts := h.2.1
  have h3 := h.2.2
  omega
theorem ZB.top {D : va_G} {yc : Nat → ClassId} {e0 : Nat} {A : Nat → Prop} {S : TS} {Z : Nat × Nat} {Tc Ts : Nat} {w : TW} {H : Heap} (h : ZB Z Tc Ts w) (hW : WT D yc e0 A S Z w.1 w.2.1 w.2.2 H) : H.size ≤ Tc ∧ zh H ≤ Ts := by
  obtain ⟨own, g1, g2, g3, g4, g5, g6, g7⟩ := hW
  obtain ⟨h1, h2, h3⟩ := h
  exact ⟨by omega, by omega⟩
/-! ===== a row alone: its object and its array ===== -/
abbrev RW (yc : Nat → ClassId) (r x c n : Nat) (f : Nat → Int64) : va_W := [(r, .inr (5, [.ref x, .int (nI n)])), (x, .inl (yc 1, c, .inr (.inl f)))]
def RC (p : Nat × List Int64) (f : Nat → Int64) : Prop := ∀ (j : Nat) (h : j < p.2.length), f j = p.2[j]
def RK (c : Nat) : Prop := ∃ z : Nat, z ≤ 20 ∧ c = 8 * 2 ^ z
theorem RK.le {c : Nat} (h : RK c) : c ≤ 8388608 := by
  obtain ⟨z, h5, h6⟩ := h
  have h7 : 2 ^ z ≤ 2 ^ 20 := Nat.pow_le_pow_right (by decide) h5
  omega
theorem RK.ge {c : Nat} (h : RK c) : 8 ≤ c := by
  obtain ⟨z, h5, h6⟩ := h
  have h7 : 0 < 2 ^ z := Nat.pow_pos (by decide)
  omega
theorem RK.two {c : Nat} (h : RK c) (hc : c ≤ 4000000) : RK (2 * c) := by
  obtain ⟨z, h5, h6⟩ := h
  refine ⟨z + 1, ?_, ?_⟩
  · by_cases hz : z + 1 ≤ 20
    · exact hz
    · have e : z = 20 := by omega
      subst e
      have : (2 : Nat) ^ 20 = 1048576 := by decide
      omega
  · rw [Nat.pow_succ]; omega
section ZRK
variable {D : va_G} {yc : Nat → ClassId} {e0 : Nat} {A : Nat → Prop} {S : TS} {Z : Nat × Nat} {F : TF} {G : TG} {q : TQ} {H : Heap}
theorem WT.rowK2 (h : WT D yc e0 A S Z F G q H) {i : Nat} (hd : dr S i) (I : Nat → Prop) (hI : ∀ j, I j → dr S j ∧ j ≠ i) : ∃ (x : Nat) (f : Nat → Int64), (va_P D vwCl (RW yc (zr S i) x (q i).1 (q i).2.length f) H ∧ (q i).2.length ≤ (q i).1 ∧ RC (q i) f ∧ RK (q i).1) ∧ (A (zr S i) ∧ A x ∧ zr S i ≠ x) ∧
    ∃ (ax : Nat → Nat) (af : Nat → Nat → Int64), (∀ j, I j → va_P D vwCl (RW yc (zr S j) (ax j) (q j).1 (q j).2.length (af j)) H ∧ (q j).2.length ≤ (q j).1 ∧ RC (q j) (af j) ∧ RK (q j).1 ∧ A (zr S j) ∧ A (ax j) ∧ zr S j ≠ ax j ∧ zr S j ≠ zr S i ∧ zr S j ≠ x ∧ ax j ≠ zr S i ∧ ax j ≠ x) ∧
    ∀ (H1 : Heap) (x' : Nat) (f' : Nat → Int64) (p : Nat × List Int64), va_P D vwCl (RW yc (zr S i) x' p.1 p.2.length f') H1 → (∀ j, I j → va_P D vwCl (RW yc (zr S j) (ax j) (q j).1 (q j).2.length (af j)) H1) → (x' = x ∨ H.size ≤ x') → A x' → (∀ y : Nat, y < H.size → y ≠ zr S i → y ≠ x → (∀ j, I j → y ≠ zr S j ∧ y ≠ ax j) → H1[y]? = H[y]?) → p.2.length ≤ p.1 → RC p f' → RK p.1 → H1.size + (q i).1 / 8 ≤ H.size + p.1 / 8 → zh H1 + 2 * (q i).1 ≤ zh H + 2 * p.1 → WT D yc e0 A S Z F G (zq q i p) H1 := by
  obtain ⟨own, g1, g2, g3, g4, g5, g6, g7⟩ := h
  obtain ⟨x, f, k1, k2, k3⟩ := g2 i hd
  have ch : ∀ j, ∃ y : Nat × (Nat → Int64), dr S j → WRow D yc A own (zr S j) y.1 j y.2 (q j) H := fun j => by
    by_cases hj : dr S j
    · obtain ⟨y, fy, hy⟩ := g2 j hj
      exact ⟨(y, fy), fun _ => hy⟩
    · exact ⟨(0, fun _ => 0), fun h => absurd h hj⟩
  have hax : ∃ a : Nat → Nat × (Nat → Int64), ∀ j, dr S j → WRow D yc A own (zr S j) (a j).1 j (a j).2 (q j) H := ⟨fun j => Classical.choose (ch j), fun j => Classical.choose_spec (ch j)⟩
  obtain ⟨a, ha⟩ := hax
  have two : ∀ {r x : Nat} {c n : Nat} {f : Nat → Int64} {H : Heap}, va_at D vwCl (r, .inr (5, [.ref x, .int (nI n)])) H → va_at D vwCl (x, .inl (yc 1, c, .inr (.inl f))) H → va_P D vwCl (RW yc r x c n f) H := fun h1 h2 k q' hk => by
    match k, hk with
    | 0, hk => cases hk; exact h1
    | 1, hk => cases hk; exact h2
    | k + 2, hk => simp at hk
  refine ⟨x, f, ⟨two k1.1 k2.1, k3.1, k3.2.1, k3.2.2⟩, ⟨k1.2.1, k2.2.1, fun e => by have := k1.2.2; rw [e, k2.2.2] at this; simp at this⟩, fun j => (a j).1, fun j => (a j).2, fun j hj => ?_, fun H1 x' f' p a1 a2 a3 a4 a5 a6 a7 a8 a9 a10 => ?_⟩
  · have hr := ha j (hI j hj).1
    have hne := (hI j hj).2
    refine ⟨two hr.1.1 hr.2.1.1, hr.2.2.1, hr.2.2.2.1, hr.2.2.2.2, hr.1.2.1, hr.2.1.2.1, ?_, ?_, ?_, ?_, ?_⟩
    · intro e; have := hr.1.2.2; rw [e, hr.2.1.2.2] at this; simp at this
    · intro e; have := hr.1.2.2; rw [e, k1.2.2] at this; simp at this; exact hne this.symm
    · intro e; have := hr.1.2.2; rw [e, k2.2.2] at this; simp at this
    · intro e; have e : (a j).1 = _ := e; have := hr.2.1.2.2; rw [e, k1.2.2] at this; simp at this
    · intro e; have e : (a j).1 = _ := e; have := hr.2.1.2.2; rw [e, k2.2.2] at this; simp at this; exact hne this.symm
  have K : ∀ y, y < H.size → own y ≠ (1, i, 0, 0) → own y ≠ (2, i, 0, 0) → (∀ j, I j → own y ≠ (1, j, 0, 0) ∧ own y ≠ (2, j, 0, 0)) → H1[y]? = H[y]? ∧ (if y = x' then ((2 : Nat), i, (0 : Nat), (0 : Nat)) else own y) = own y := by
    intro y hy n1 n2 n3
    refine ⟨a5 y hy (fun e => n1 (by rw [e]; exact k1.2.2)) (fun e => n2 (by rw [e]; exact k2.2.2)) (fun j hj => ?_), ?_⟩
    · have hr := ha j (hI j hj).1
      exact ⟨fun e => (n3 j hj).1 (by rw [e]; exact hr.1.2.2), fun e => (n3 j hj).2 (by rw [e]; exact hr.2.1.2.2)⟩
    · rw [if_neg]
      intro e
      rcases a3 with e3 | e3
      · exact n2 (by rw [e, e3]; exact k2.2.2)
      · omega
  have J : ∀ y, y < H.size → own y ≠ (2, i, 0, 0) → (if y = x' then ((2 : Nat), i, (0 : Nat), (0 : Nat)) else own y) = own y := by
    intro y hy n2
    rw [if_neg]
    intro e
    rcases a3 with e3 | e3
    · exact n2 (by rw [e, e3]; exact k2.2.2)
    · omega
  refine ⟨fun y => if y = x' then (2, i, 0, 0) else own y, fun kd fl k hd' => ?_, fun j hj => ?_, fun b fl k hl => ?_, g4, ?_, ?_, g7⟩
  · have o := g1 kd fl k hd'
    obtain ⟨e1, e2⟩ := K _ o.1.lt (by rw [o.2.2]; simp) (by rw [o.2.2]; simp) (fun j _ => ⟨by rw [o.2.2]; simp, by rw [o.2.2]; simp⟩)
    exact ⟨o.1.kept e1, o.2.1, e2.trans o.2.2⟩
  · by_cases e : j = i
    · subst e
      rw [zq_s]
      refine ⟨x', f', ⟨a1 0 _ rfl, k1.2.1, (J _ k1.1.lt (by rw [k1.2.2]; simp)).trans k1.2.2⟩, ⟨a1 1 _ rfl, a4, if_pos rfl⟩, a6, a7, a8⟩
    · rw [zq_n e]
      have hr := ha j hj
      have j1 := J _ hr.1.1.lt (by rw [hr.1.2.2]; simp)
      have j2 := J _ hr.2.1.1.lt (by rw [hr.2.1.2.2]; simp [e])
      by_cases hij : I j
      · exact ⟨(a j).1, (a j).2, ⟨a2 j hij 0 _ rfl, hr.1.2.1, j1.trans hr.1.2.2⟩, ⟨a2 j hij 1 _ rfl, hr.2.1.2.1, j2.trans hr.2.1.2.2⟩, hr.2.2⟩
      · obtain ⟨e1, -⟩ := K _ hr.1.1.lt (by rw [hr.1.2.2]; simp [e]) (by rw [hr.1.2.2]; simp) (fun j' hj' => ⟨by rw [hr.1.2.2]; simp; exact fun e => hij (by rw [e]; exact hj'), by rw [hr.1.2.2]; simp⟩)
        obtain ⟨e2, -⟩ := K _ hr.2.1.1.lt (by rw [hr.2.1.2.2]; simp) (by rw [hr.2.1.2.2]; simp [e]) (fun j' hj' => ⟨by rw [hr.2.1.2.2]; simp, by rw [hr.2.1.2.2]; simp; exact fun e => hij (by rw [e]; exact hj')⟩)
        exact ⟨(a j).1, (a j).2, ⟨hr.1.1.kept e1, hr.1.2.1, j1.trans hr.1.2.2⟩, ⟨hr.2.1.1.kept e2, hr.2.1.2.1, j2.trans hr.2.1.2.2⟩, hr.2.2⟩
  · obtain ⟨⟨h1, h2⟩, hh⟩ := g3 b fl k hl
    have key : ∀ y, y < H.size → (own y = (3, b, fl, k) ∨ own y = (4, b, fl, k)) → H1[y]? = H[y]? ∧ (if y = x' then ((2 : Nat), i, (0 : Nat), (0 : Nat)) else own y) = own y := fun y hy ho => by
      rcases ho with ho | ho
      · exact K y hy (by rw [ho]; simp) (by rw [ho]; simp) (fun j _ => ⟨by rw [ho]; simp, by rw [ho]; simp⟩)
      · exact K y hy (by rw [ho]; simp) (by rw [ho]; simp) (fun j _ => ⟨by rw [ho]; simp, by rw [ho]; simp⟩)
    rcases hh with ⟨h3, mc, h4⟩ | ⟨mc, xx, cap, ff, h3, h4, h5⟩
    · obtain ⟨e1, e2⟩ := key _ h4.lt (Or.inl h2)
      exact ⟨⟨h1, e2.trans h2⟩, Or.inl ⟨h3, mc, h4.kept e1⟩⟩
    · obtain ⟨e1, e2⟩ := key _ h3.lt (Or.inl h2)
      obtain ⟨e3, e4⟩ := key _ h4.1.lt (Or.inr h4.2.2)
      exact ⟨⟨h1, e2.trans h2⟩, Or.inr ⟨mc, xx, cap, ff, h3.kept e1, ⟨h4.1.kept e3, h4.2.1, e4.trans h4.2.2⟩, h5⟩⟩
  · have := Psi_upd (q := q) (p := p) (dr_lt hd)
    omega
  · have := Phi_upd (q := q) (p := p) (dr_lt hd)
    omega
end ZRK
/-! ===== contracts chosen by the state, of less room ===== -/
theorem zk_room {s : State} {pl : Platform} {r r' : Room} (h1 : r.frames ≤ r'.frames ∧ r.locals ≤ r'.locals ∧ r.cells ≤ r'.cells ∧ r.slots ≤ r'.slots) (h : s.hasRoom pl r' = true) : s.hasRoom pl r = true := by
  obtain ⟨hf, hl, hc, hs⟩ := h1
  simp only [State.hasRoom, Bool.and_eq_true, decide_eq_true_eq] at h ⊢
  obtain ⟨⟨⟨⟨y, a, b, c, d, e⟩, f⟩, g⟩, i⟩ := h
  refine ⟨⟨⟨⟨?_, ?_, ?_, ?_, ?_, e⟩, ?_⟩, ?_⟩, i⟩ <;> omega
theorem Met.conv2 {l : Launch} {y : MethodName} {ws : List Cond} {rm : Room} {Pc' : Array Value → State → Prop} {Qc' : Array Value → State → Outcome → State → Prop} {mc ms : Nat} {free' : Addr → Prop}
    (h : ∀ args s, Pc' args s → ∃ (Pc : Array Value → State → Prop) (Qc : Array Value → State → Outcome → State → Prop) (free : Addr → Prop) (rm1 : Room) (mc1 ms1 : Nat), Met l y ws rm1 Pc Qc mc1 ms1 free ∧ ((rm1.frames ≤ rm.frames ∧ rm1.locals ≤ rm.locals ∧ rm1.cells ≤ rm.cells ∧ rm1.slots ≤ rm.slots) ∧ mc1 ≤ mc ∧ ms1 ≤ ms) ∧ Pc args s ∧ (∀ q, free q → free' q) ∧ ∀ o t, Qc args s o t → t.heap.size ≤ s.heap.size + mc1 → zh t.heap ≤ zh s.heap + ms1 → (∀ q : Nat, q < s.heap.size → ¬ free q → t.heap[q]? = s.heap[q]?) → Qc' args s o t) : Met l y ws rm Pc' Qc' mc ms free' := by
  intro p e ha hc hk s m args below hf happ hP hK
  obtain ⟨Pc, Qc, free, rm1, mc1, ms1, hM, ⟨hr, hmc, hms⟩, hp, hfr, hq⟩ := h args s hP
  have happ' : (headSpec ws rm1).appliesLoose y e.platform s = true := by
    obtain ⟨a1, a2, a3, a4, a5, a6, a7, a8⟩ := (Spec.appliesLoose_iff hf).mp happ
    exact (Spec.appliesLoose_iff hf).mpr ⟨a1, a2, a3, a4, a5, a6, zk_room hr a7, a8⟩
  obtain ⟨n, o, h1, h2, h3, h4, L, h5, h6⟩ := hM p e ha hc hk s m args below hf happ' hp hK
  have hs := h5.2.2
  have e0 := zh_split (B := s.heap) (C := (stepsAlone p.tables e n s).heap) hs.2.1 (fun a c h => by obtain ⟨c', g1, g2, g3, g4⟩ := hs.2.2.2.2.2 a c h; exact ⟨c', g1, g3⟩)
  have e1 : (((stepsAlone p.tables e n s).heap.toList.drop s.heap.size).map (fun c => c.slots.size)).sum ≤ ms1 := hs.2.2.2.2.1
  refine ⟨n, o, h1, h2, h3, hq o _ h4 hs.2.2.1 (by omega) ?_, L, ⟨h5.1, h5.2.1, hs.1, hs.2.1, Nat.le_trans hs.2.2.1 (Nat.add_le_add_left hmc _), hs.2.2.2.1, Nat.le_trans hs.2.2.2.2.1 hms, hs.2.2.2.2.2⟩, fun q hq => hfr _ (h6 q hq)⟩
  intro q hq1 hq2
  have h9 : s.heap[q]? = some s.heap[q] := Array.getElem?_eq_getElem hq1
  obtain ⟨c', g1, g2, g3, g4⟩ := hs.2.2.2.2.2 q _ h9
  have g1' : (stepsAlone p.tables e n s).heap[q]? = some c' := g1
  rw [g1', h9, g2]
  have : c'.slots = s.heap[q].slots := by
    apply Array.ext_getElem?
    intro i
    exact g4 i (fun hm => hq2 (h6 _ hm))
  rw [this]
/-! ===== walks over the world with the room that stands ===== -/
def PM (D : va_G) (yc : Nat → ClassId) (e0 : Nat) (A : Nat → Prop) (S : TS) (Z : Nat × Nat) (w : TW) (c z : Nat) (av : List Value) : Array Value → State → Prop := va_Pc av (fun U => WT D yc e0 A S Z w.1 w.2.1 w.2.2 U.heap ∧ (U.heap.size = c ∧ zh U.heap = z) ∧ (∀ a, U.heap.size ≤ a → A a) ∧ CX D yc e0 A U)
theorem PM.blind {D : va_G} {yc : Nat → ClassId} {e0 : Nat} {A : Nat → Prop} {S : TS} {Z : Nat × Nat} {w : TW} {c z : Nat} {av : List Value} : FrameBlind (PM D yc e0 A S Z w c z av) := fun a U g mk h => by
  obtain ⟨h0, h1, h2, h3, h4⟩ := h
  exact ⟨h0, h1, h2, h3, CX.calling g mk a h4⟩
abbrev tQv (D : va_G) (yc : Nat → ClassId) (e0 : Nat) (A : Nat → Prop) (S : TS) (Z : Nat × Nat) (w : TW) : Array Value → State → Outcome → State → Prop := va_Qv (fun _ : Unit => True) (fun _ t => WT D yc e0 A S Z w.1 w.2.1 w.2.2 t.heap) A
abbrev tQi (D : va_G) (yc : Nat → ClassId) (e0 : Nat) (A : Nat → Prop) (S : TS) (Z : Nat × Nat) (w : TW × Int32) : Array Value → State → Outcome → State → Prop := va_Qi (fun r (_ : Unit) => r = w.2) (fun _ t => WT D yc e0 A S Z w.1.1 w.1.2.1 w.1.2.2 t.heap) A
abbrev tQl (D : va_G) (yc : Nat → ClassId) (e0 : Nat) (A : Nat → Prop) (S : TS) (Z : Nat × Nat) (w : TW × Int64) : Array Value → State → Outcome → State → Prop := va_Ql (fun r (_ : Unit) => r = w.2) (fun _ t => WT D yc e0 A S Z w.1.1 w.1.2.1 w.1.2.2 t.heap) A
section ZWM
variable {p : Program} {l : Launch} {e : Env} {R : Room} {s : State} {m : MethodId} {args : Array Value} {below : List Frame} {meth : Method} {c : Code} {H : Heap} {locs : List Loc} {cells slots : Nat} {Q : State → Prop}
variable {D : va_G} {yc : Nat → ClassId} {e0 : Nat} {A : Nat → Prop} {S : TS} {Z : Nat × Nat} {w w1 : TW} {cc : ByteArray} {pc : Nat} {ls : Array Slot} {rest As st0 : List Value} {Tc Ts : Nat} {a : Array Value}
theorem W.max {g : JFrame} (hH : H.size ≤ Tc ∧ zh H ≤ Ts) (k : W p l e R s m args below meth c H locs (Tc - s.heap.size) (Ts - zh s.heap) Q g) : W p l e R s m args below meth c H locs cells slots Q g :=
  W.know fun h1 h2 h3 h4 => W.tight (c1 := Tc - s.heap.size) (n1 := Ts - zh s.heap) (by omega) (by omega) k
theorem tq_S (hC : CX D yc e0 A s) (hW : WT D yc e0 A S Z w.1 w.2.1 w.2.2 H) (hS : va_S A s.heap H locs) (hA : ∀ a, s.heap.size ≤ a → A a) : PreS s H (PM D yc e0 A S Z w H.size (zh H) As) As :=
  ⟨PM.blind, fun U hU hWm => ⟨rfl, by rw [hU]; exact hW, by rw [hU]; exact ⟨rfl, rfl⟩, fun a ha => hA a (Nat.le_trans hS.1 (by rw [← hU]; exact ha)), hC.go hS (fun _ h => h) hU hWm⟩⟩
theorem tq_V (hC : CX D yc e0 A s) (hW : WT D yc e0 A S Z w.1 w.2.1 w.2.2 H) (hS : va_S A s.heap H locs) (hA : ∀ a, s.heap.size ≤ a → A a) (kd fl k : Nat) (hd : dm S kd fl k) {fs : List Value} {ci : Nat} (he : cel S w.2.1 kd fl k (w.1 kd fl k) = .inr (ci, fs)) {C : String} {T : u_T} {N : Nat} (hc : vwCl[ci]? = some (C, T, N)) : PreV s H C (zg S kd fl k) (PM D yc e0 A S Z w H.size (zh H) (.ref (zg S kd fl k) :: As)) As :=
  ⟨PM.blind, va_recv hC.1 (va_P_one (by have h := (hW.obj hd).1; rw [he] at h; exact h)) hc (q0 := 0) rfl, fun U hU hWm => ⟨rfl, by rw [hU]; exact hW, by rw [hU]; exact ⟨rfl, rfl⟩, fun a ha => hA a (Nat.le_trans hS.1 (by rw [← hU]; exact ha)), hC.go hS (fun _ h => h) hU hWm⟩⟩
theorem tq_R (hC : CX D yc e0 A s) (hW : WT D yc e0 A S Z w.1 w.2.1 w.2.2 H) (hS : va_S A s.heap H locs) (hA : ∀ a, s.heap.size ≤ a → A a) (i : Nat) (hd : dr S i) : PreV s H RX6 (zr S i) (PM D yc e0 A S Z w H.size (zh H) (.ref (zr S i) :: As)) As := by
  obtain ⟨x, f, h1, -⟩ := hW.row hd
  exact ⟨PM.blind, va_recv hC.1 (va_P_one h1) (ci := 5) rfl (q0 := 0) rfl, fun U hU hWm => ⟨rfl, by rw [hU]; exact hW, by rw [hU]; exact ⟨rfl, rfl⟩, fun a ha => hA a (Nat.le_trans hS.1 (by rw [← hU]; exact ha)), hC.go hS (fun _ h => h) hU hWm⟩⟩
theorem tw_v (hB : ZB Z Tc Ts w1) (hR : R.cells = Tc - s.heap.size ∧ R.slots = Ts - zh s.heap) (hH : H.size ≤ Tc ∧ zh H ≤ Ts)
    (hr : (H.size - s.heap.size) + (Tc - H.size) ≤ R.cells ∧ (zh H - zh s.heap) + (Ts - zh H) ≤ R.slots → va_Run p l e R s m args below meth c H locs (H.size - s.heap.size) (zh H - zh s.heap) (Tc - H.size) (Ts - zh H) (F0 m pc ls st0) rest (tQv D yc e0 A S Z w1 a) A) (hS : va_S A s.heap H locs)
    (kk : ∀ (H1 : Heap) (locs1 : List Loc), WT D yc e0 A S Z w1.1 w1.2.1 w1.2.2 H1 → va_S A s.heap H1 locs1 → W p l e R s m args below meth c H1 locs1 (Tc - s.heap.size) (Ts - zh s.heap) Q (F0 m (pc + 3) ls rest)) : W p l e R s m args below meth c H locs cells slots Q (F0 m pc ls st0) :=
  W.know fun h1 h2 h3 h4 => W.tight (c1 := H.size - s.heap.size) (n1 := zh H - zh s.heap) (by omega) (by omega)
    (va_callv (hr ⟨by rw [hR.1]; omega, by rw [hR.2]; omega⟩) hS (fun _ _ h => h) (fun _ h => h) (fun u t H1 locs1 ht _ hp hB1 _ _ hS1 => by subst ht; exact W.max (hB.top hB1) (kk _ locs1 hB1 hS1)))
theorem tw_i {w1 : TW × Int32} (hB : ZB Z Tc Ts w1.1) (hR : R.cells = Tc - s.heap.size ∧ R.slots = Ts - zh s.heap) (hH : H.size ≤ Tc ∧ zh H ≤ Ts)
    (hr : (H.size - s.heap.size) + (Tc - H.size) ≤ R.cells ∧ (zh H - zh s.heap) + (Ts - zh H) ≤ R.slots → va_Run p l e R s m args below meth c H locs (H.size - s.heap.size) (zh H - zh s.heap) (Tc - H.size) (Ts - zh H) (F0 m pc ls st0) rest (tQi D yc e0 A S Z w1 a) A) (hS : va_S A s.heap H locs)
    (kk : ∀ (H1 : Heap) (locs1 : List Loc), WT D yc e0 A S Z w1.1.1 w1.1.2.1 w1.1.2.2 H1 → va_S A s.heap H1 locs1 → W p l e R s m args below meth c H1 locs1 (Tc - s.heap.size) (Ts - zh s.heap) Q (F0 m (pc + 3) ls (.int w1.2 :: rest))) : W p l e R s m args below meth c H locs cells slots Q (F0 m pc ls st0) :=
  W.know fun h1 h2 h3 h4 => W.tight (c1 := H.size - s.heap.size) (n1 := zh H - zh s.heap) (by omega) (by omega)
    (va_calli (hr ⟨by rw [hR.1]; omega, by rw [hR.2]; omega⟩) hS (fun _ _ h => h) (fun _ h => h) (fun r u t H1 locs1 ht _ hp hB1 _ _ hS1 => by subst ht; rw [hp]; exact W.max (hB.top hB1) (kk _ locs1 hB1 hS1)))
theorem tw_l {w1 : TW × Int64} (hB : ZB Z Tc Ts w1.1) (hR : R.cells = Tc - s.heap.size ∧ R.slots = Ts - zh s.heap) (hH : H.size ≤ Tc ∧ zh H ≤ Ts)
    (hr : (H.size - s.heap.size) + (Tc - H.size) ≤ R.cells ∧ (zh H - zh s.heap) + (Ts - zh H) ≤ R.slots → va_Run p l e R s m args below meth c H locs (H.size - s.heap.size) (zh H - zh s.heap) (Tc - H.size) (Ts - zh H) (F0 m pc ls st0) rest (tQl D yc e0 A S Z w1 a) A) (hS : va_S A s.heap H locs)
    (kk : ∀ (H1 : Heap) (locs1 : List Loc), WT D yc e0 A S Z w1.1.1 w1.1.2.1 w1.1.2.2 H1 → va_S A s.heap H1 locs1 → W p l e R s m args below meth c H1 locs1 (Tc - s.heap.size) (Ts - zh s.heap) Q (F0 m (pc + 3) ls (.long w1.2 :: rest))) : W p l e R s m args below meth c H locs cells slots Q (F0 m pc ls st0) :=
  W.know fun h1 h2 h3 h4 => W.tight (c1 := H.size - s.heap.size) (n1 := zh H - zh s.heap) (by omega) (by omega)
    (va_calll (hr ⟨by rw [hR.1]; omega, by rw [hR.2]; omega⟩) hS (fun _ _ h => h) (fun _ h => h) (fun r u t H1 locs1 ht _ hp hB1 _ _ hS1 => by subst ht; rw [hp]; exact W.max (hB.top hB1) (kk _ locs1 hB1 hS1)))
-- ends
theorem tx_v {r : TW} (hx : p.tables.exec = Jvm.exec) (hb : c.code = cc) (hr : meth.sig.returnType = none) (hlk : meth.locks = false) (hS : va_S A s.heap H locs) (hW : WT D yc e0 A S Z w.1 w.2.1 w.2.2 H) (he : r = w) (hdg : decode cc pc = .ok (.return_, 1)) :
    W p l e R s m args below meth c H locs (Tc - s.heap.size) (Ts - zh s.heap) (MQ below (tQv D yc e0 A S Z r) args s (Tc - s.heap.size) (Ts - zh s.heap) A) (F0 m pc ls []) := by
  subst he
  exact W.vret hx hb hr (fun t ht _ => ⟨⟨(), rfl, trivial, by subst ht; exact hW⟩, hS.F ht⟩) hS.2.2 hdg hlk
theorem tx_i {r : TW × Int32} {v : Int32} {ty : FieldType} (hx : p.tables.exec = Jvm.exec) (hb : c.code = cc) (hr : meth.sig.returnType = some ty) (hlk : meth.locks = false) (hS : va_S A s.heap H locs) (hn : narrow ty (.int v) = .int v) (hW : WT D yc e0 A S Z w.1 w.2.1 w.2.2 H) (he : r = (w, v)) (hdg : decode cc pc = .ok (.ireturn, 1)) :
    W p l e R s m args below meth c H locs (Tc - s.heap.size) (Ts - zh s.heap) (MQ below (tQi D yc e0 A S Z r) args s (Tc - s.heap.size) (Ts - zh s.heap) A) (F0 m pc ls [.int v]) := by
  subst he
  exact W.zret hx hb hr hn (fun t ht _ => ⟨⟨v, (), rfl, rfl, by subst ht; exact hW⟩, hS.F ht⟩) hS.2.2 hdg hlk
theorem tx_l {r : TW × Int64} {v : Int64} (hx : p.tables.exec = Jvm.exec) (hb : c.code = cc) (hr : meth.sig.returnType = some .long) (hlk : meth.locks = false) (hS : va_S A s.heap H locs) (hW : WT D yc e0 A S Z w.1 w.2.1 w.2.2 H) (he : r = (w, v)) (hdg : decode cc pc = .ok (.lreturn, 1)) :
    W p l e R s m args below meth c H locs (Tc - s.heap.size) (Ts - zh s.heap) (MQ below (tQl D yc e0 A S Z r) args s (Tc - s.heap.size) (Ts - zh s.heap) A) (F0 m pc ls [.long v]) := by
  subst he
  exact W.lret hx hb hr (fun t ht _ => ⟨⟨v, (), rfl, rfl, by subst ht; exact hW⟩, hS.F ht⟩) hS.2.2 hdg hlk
-- the end of a walk over a row alone
abbrev RQ (D : va_G) (yc : Nat → ClassId) (A : Nat → Prop) (r : Nat) (wo : va_W) (pp : Nat × List Int64) : Array Value → State → Outcome → State → Prop := va_Qv (fun u : Nat × (Nat → Int64) => RC pp u.2) (fun u t => va_P D vwCl (RW yc r u.1 pp.1 pp.2.length u.2 ++ wo) t.heap ∧ va_D A (RW yc r u.1 pp.1 pp.2.length u.2 ++ wo)) A
theorem te_row {ws wo : va_W} {r : Nat} {pp : Nat × List Int64} {mc ms : Nat} (hx : p.tables.exec = Jvm.exec) (hb : c.code = cc) (hr : meth.sig.returnType = none) (hlk : meth.locks = false) (hP : va_P D vwCl ws H) (hD : va_D A ws) (hS : va_S A s.heap H locs) (x' : Nat) (f' : Nat → Int64) (n' : Nat) (hn' : pp.2.length = n') (hc : RC pp f') (is : List Nat) (hs : is.map (fun i => ws[i]?) = (RW yc r x' pp.1 n' f' ++ wo).map some) (hn : va_nd is = true) (h1 : cells ≤ mc) (h2 : slots ≤ ms) (hdg : decode cc pc = .ok (.return_, 1)) :
    W p l e R s m args below meth c H locs cells slots (MQ below (RQ D yc A r wo pp) args s mc ms A) (F0 m pc ls []) := by
  subst hn'
  exact W.widen h1 h2 (W.vret hx hb hr (fun t ht _ => ⟨⟨(x', f'), rfl, hc, by rw [ht]; exact zk_sub hP is hs, hD.sub is hn hs⟩, hS.F ht⟩) hS.2.2 hdg hlk)
end ZWM
theorem tk_W {l : Launch} {y : MethodName} {cc : ByteArray} {maxL : Nat} {ret : Option FieldType} {fr lo : Nat} {D : va_G} {yc : Nat → ClassId} {e0 : Nat} {A : Nat → Prop} {S : TS} {Z : Nat × Nat} {w : TW} {Tc Ts cN zN : Nat} {av : List Value} {Qc : Array Value → State → Outcome → State → Prop} {free : Addr → Prop} (hB : ZB Z Tc Ts w) (hy : plainName y.cls = true) (hav : (lg_sl av).length ≤ maxL)
    (body : ∀ (p : Program) (e : Env) (s : State) (m : MethodId) (args : Array Value) (below : List Frame) (meth : Method) (c : Code) (ls : Array Slot) (H : Heap) (locs : List Loc), p.tables.exec = Jvm.exec → c.code = cc → c.maxLocals = maxL → meth.sig.returnType = ret → meth.locks = false → s.vm.findClass y.cls = some m.cls → (∀ w ∈ lw_all, w.before args s = true) → WT D yc e0 A S Z w.1 w.2.1 w.2.2 H → va_S A s.heap H locs → (∀ a, s.heap.size ≤ a → A a) → CX D yc e0 A s → lv_has ls maxL (lv_args 0 av) →
      W p l e { frames := fr, cells := Tc - s.heap.size, slots := Ts - zh s.heap, locals := lo } s m args below meth c H locs (Tc - s.heap.size) (Ts - zh s.heap) (MQ below Qc args s (Tc - s.heap.size) (Ts - zh s.heap) free) (F0 m 0 ls [])) :
    Met l y (ws_ y cc maxL ret) { frames := fr, cells := Tc - cN, slots := Ts - zN, locals := lo } (PM D yc e0 A S Z w cN zN av) Qc (Tc - cN) (Ts - zN) free := by
  refine Met.ofW (cc := cc) (maxL := maxL) (ret := ret) hy rfl ?_
  intro p e s m args below meth c s₁ B hml hv
  obtain ⟨rfl, hW, ⟨rfl, rfl⟩, hA, hC⟩ := hv
  have hts := atoms_spec (ws := ws_ y cc maxL ret) B.pre
  rw [lg_entry_eq]
  exact W.max (hB.top hW) (body p e s m _ below meth c _ _ _ B.exec B.bytes hml B.returns B.notSynchronized (findClass_of_methodNamed B.named) (fun w h => hts w (List.mem_cons_of_mem _ h)) hW va_S.rf hA hC (lv_entry av hav))
theorem rw_D {A : Nat → Prop} {yc : Nat → ClassId} {r x c n : Nat} {f : Nat → Int64} (h : r ≠ x) (h1 : A r) (h2 : A x) : va_D A (RW yc r x c n f) := by
  refine ⟨fun i' j' p' q' hi hj e => ?_, fun k q' hk => ?_⟩
  · match i', j', hi, hj with
    | 0, 0, _, _ => rfl
    | 1, 1, _, _ => rfl
    | 0, 1, hi, hj => cases hi; cases hj; exact absurd e h
    | 1, 0, hi, hj => cases hi; cases hj; exact absurd e.symm h
    | 0, k + 2, _, hj => simp at hj
    | 1, k + 2, _, hj => simp at hj
    | k + 2, _, hi, _ => simp at hi
  · match k, hk with
    | 0, hk => cases hk; exact h1
    | 1, hk => cases hk; exact h2
    | k + 2, hk => simp at hk
theorem rw_in {yc : Nat → ClassId} {r x c n : Nat} {f : Nat → Int64} {k : Nat} {q : Nat × va_E} (hk : (RW yc r x c n f)[k]? = some q) : q.1 = r ∨ q.1 = x := by
  match k, hk with
  | 0, hk => cases hk; exact Or.inl rfl
  | 1, hk => cases hk; exact Or.inr rfl
  | k + 2, hk => simp at hk
theorem rw_A {yc : Nat → ClassId} {r x c n sz y : Nat} {f : Nat → Int64} (h : va_A (RW yc r x c n f) sz y) : y = r ∨ y = x ∨ sz ≤ y := by
  rcases h with ⟨k, e, hk⟩ | hq
  · rcases rw_in hk with h | h
    · exact Or.inl h
    · exact Or.inr (Or.inl h)
  · exact Or.inr (Or.inr hq)
theorem rw_A2 {yc : Nat → ClassId} {r x c n r2 x2 c2 n2 sz y : Nat} {f g : Nat → Int64} (h : va_A (RW yc r x c n f ++ RW yc r2 x2 c2 n2 g) sz y) : y = r ∨ y = x ∨ y = r2 ∨ y = x2 ∨ sz ≤ y := by
  rcases h with ⟨k, e, hk⟩ | hq
  · match k, hk with
    | 0, hk => exact Or.inl (Prod.mk.inj (Option.some.inj hk)).1.symm
    | 1, hk => exact Or.inr (Or.inl (Prod.mk.inj (Option.some.inj hk)).1.symm)
    | 2, hk => exact Or.inr (Or.inr (Or.inl (Prod.mk.inj (Option.some.inj hk)).1.symm))
    | 3, hk => exact Or.inr (Or.inr (Or.inr (Or.inl (Prod.mk.inj (Option.some.inj hk)).1.symm)))
    | k + 4, hk => simp at hk
  · exact Or.inr (Or.inr (Or.inr (Or.inr hq)))
/-- a row's contract, out of its own over the row alone -/
theorem tk_row {l : Launch} {y : MethodName} {ws : List Cond} {fr lo : Nat} {D : va_G} {yc : Nat → ClassId} {e0 : Nat} {A : Nat → Prop} {S : TS} {Z : Nat × Nat} {w : TW} {Tc Ts cN zN : Nat} {av : List Value} {i : Nat} (hd : dr S i) (pp : Nat × List Int64) (a b fr1 lo1 : Nat) (hfr : fr1 ≤ fr ∧ lo1 ≤ lo) (hB : ZB Z Tc Ts (zrw w i pp)) (hp : (w.2.2 i).2.length ≤ (w.2.2 i).1 → RK (w.2.2 i).1 → pp.2.length ≤ pp.1 ∧ RK pp.1 ∧ a + (w.2.2 i).1 / 8 ≤ pp.1 / 8 ∧ b + 2 * (w.2.2 i).1 ≤ 2 * pp.1)
    (hl : ∀ (x : Nat) (f : Nat → Int64) (sz : Nat), (w.2.2 i).2.length ≤ (w.2.2 i).1 → RK (w.2.2 i).1 → RC (w.2.2 i) f → Met l y ws { frames := fr1, cells := a, slots := b, locals := lo1 } (PR D yc e0 (RW yc (zr S i) x (w.2.2 i).1 (w.2.2 i).2.length f) sz (.ref (zr S i) :: av)) (RQ D yc (va_A (RW yc (zr S i) x (w.2.2 i).1 (w.2.2 i).2.length f) sz) (zr S i) [] pp) a b (va_A (RW yc (zr S i) x (w.2.2 i).1 (w.2.2 i).2.length f) sz)) :
    Met l y ws { frames := fr, cells := Tc - cN, slots := Ts - zN, locals := lo } (PM D yc e0 A S Z w cN zN (.ref (zr S i) :: av)) (tQv D yc e0 A S Z (zrw w i pp)) (Tc - cN) (Ts - zN) A := by
  refine Met.conv2 fun args s hP => ?_
  obtain ⟨rfl, hW, ⟨rfl, rfl⟩, hA, hC⟩ := hP
  obtain ⟨x, f, ⟨h1, h2, h3, h4⟩, ⟨h5, h6, h7⟩, ax, af, -, hcl⟩ := hW.rowK2 hd (fun _ => False) (fun _ h => h.elim)
  obtain ⟨p1, p2, p3, p4⟩ := hp h2 h4
  have hsz : s.heap.size ≤ Z.1 + Psi w.2.2 ∧ zh s.heap ≤ Z.2 + Phi w.2.2 := by
    obtain ⟨own, g1, g2, g3, g4, g5, g6, g7⟩ := hW
    exact ⟨g5, g6⟩
  have e1 := Psi_upd (q := w.2.2) (p := pp) (dr_lt hd)
  have e2 := Phi_upd (q := w.2.2) (p := pp) (dr_lt hd)
  have b1 : Z.1 + Psi (zq w.2.2 i pp) ≤ Tc := hB.1
  have b2 : Z.2 + Phi (zq w.2.2 i pp) ≤ Ts := hB.2.1
  have hfree : ∀ q, va_A (RW yc (zr S i) x (w.2.2 i).1 (w.2.2 i).2.length f) s.heap.size q → A q := fun q hq => by
    rcases rw_A hq with h | h | h
    · rw [h]; exact h5
    · rw [h]; exact h6
    · exact hA q h
  refine ⟨_, _, _, _, a, b, hl x f s.heap.size h2 h4 h3, ⟨⟨hfr.1, hfr.2, by show a ≤ Tc - s.heap.size; omega, by show b ≤ Ts - zh s.heap; omega⟩, by omega, by omega⟩, ⟨rfl, rfl, h1, rw_D h7 trivial trivial, hC.narrow hfree⟩, hfree, ?_⟩
  rintro o t ⟨⟨⟨x', f'⟩, rfl, hc, hP', hD'⟩, hF⟩ z1 z2 z3
  have hx' := hD'.2 1 _ rfl
  have hxx : x' = x ∨ s.heap.size ≤ x' := by
    rcases rw_A hx' with h | h | h
    · have := hD'.1 0 1 _ _ rfl rfl h.symm
      omega
    · exact Or.inl h
    · exact Or.inr h
  refine ⟨⟨(), rfl, trivial, hcl t.heap x' f' pp hP' (fun _ h => h.elim) hxx (hfree _ hx') (fun y hy n1 n2 _ => z3 y hy (fun h => ?_)) p1 hc p2 (by omega) (by omega)⟩, hF.1, fun q hq hn => hF.2 q hq (fun h => hn (hfree q h))⟩
  rcases rw_A h with h | h | h
  · exact n1 h
  · exact n2 h
  · omega
/-- .. of two rows, the second one only read -/
theorem tk_row2 {l : Launch} {y : MethodName} {ws : List Cond} {fr lo : Nat} {D : va_G} {yc : Nat → ClassId} {e0 : Nat} {A : Nat → Prop} {S : TS} {Z : Nat × Nat} {w : TW} {Tc Ts cN zN : Nat} {av : List Value} {i o : Nat} (hd : dr S i) (hdo : dr S o) (hne : o ≠ i) (pp : Nat × List Int64) (a b fr1 lo1 : Nat) (hfr : fr1 ≤ fr ∧ lo1 ≤ lo) (hB : ZB Z Tc Ts (zrw w i pp)) (hp : (w.2.2 i).2.length ≤ (w.2.2 i).1 → RK (w.2.2 i).1 → (w.2.2 o).2.length ≤ (w.2.2 o).1 → RK (w.2.2 o).1 → pp.2.length ≤ pp.1 ∧ RK pp.1 ∧ a + (w.2.2 i).1 / 8 ≤ pp.1 / 8 ∧ b + 2 * (w.2.2 i).1 ≤ 2 * pp.1)
    (hl : ∀ (x : Nat) (f : Nat → Int64) (x2 : Nat) (g : Nat → Int64) (sz : Nat), (w.2.2 i).2.length ≤ (w.2.2 i).1 → RK (w.2.2 i).1 → RC (w.2.2 i) f → (w.2.2 o).2.length ≤ (w.2.2 o).1 → RK (w.2.2 o).1 → RC (w.2.2 o) g → Met l y ws { frames := fr1, cells := a, slots := b, locals := lo1 } (PR D yc e0 (RW yc (zr S i) x (w.2.2 i).1 (w.2.2 i).2.length f ++ RW yc (zr S o) x2 (w.2.2 o).1 (w.2.2 o).2.length g) sz (.ref (zr S i) :: av)) (RQ D yc (va_A (RW yc (zr S i) x (w.2.2 i).1 (w.2.2 i).2.length f ++ RW yc (zr S o) x2 (w.2.2 o).1 (w.2.2 o).2.length g) sz) (zr S i) (RW yc (zr S o) x2 (w.2.2 o).1 (w.2.2 o).2.length g) pp) a b (va_A (RW yc (zr S i) x (w.2.2 i).1 (w.2.2 i).2.length f ++ RW yc (zr S o) x2 (w.2.2 o).1 (w.2.2 o).2.length g) sz)) :
    Met l y ws { frames := fr, cells := Tc - cN, slots := Ts - zN, locals := lo } (PM D yc e0 A S Z w cN zN (.ref (zr S i) :: av)) (tQv D yc e0 A S Z (zrw w i pp)) (Tc - cN) (Ts - zN) A := by
  refine Met.conv2 fun args s hP => ?_
  obtain ⟨rfl, hW, ⟨rfl, rfl⟩, hA, hC⟩ := hP
  obtain ⟨x, f, ⟨h1, h2, h3, h4⟩, ⟨h5, h6, h7⟩, ax, af, hoth, hcl⟩ := hW.rowK2 hd (fun j => j = o) (fun j h => by subst h; exact ⟨hdo, hne⟩)
  obtain ⟨o1, o2, o3, o4, o5, o6, o7, o8, o9, o10, o11⟩ := hoth o rfl
  obtain ⟨p1, p2, p3, p4⟩ := hp h2 h4 o2 o4
  have hsz : s.heap.size ≤ Z.1 + Psi w.2.2 ∧ zh s.heap ≤ Z.2 + Phi w.2.2 := by
    obtain ⟨own, g1, g2, g3, g4, g5, g6, g7⟩ := hW
    exact ⟨g5, g6⟩
  have e1 := Psi_upd (q := w.2.2) (p := pp) (dr_lt hd)
  have e2 := Phi_upd (q := w.2.2) (p := pp) (dr_lt hd)
  have b1 : Z.1 + Psi (zq w.2.2 i pp) ≤ Tc := hB.1
  have b2 : Z.2 + Phi (zq w.2.2 i pp) ≤ Ts := hB.2.1
  have hfree : ∀ q, va_A (RW yc (zr S i) x (w.2.2 i).1 (w.2.2 i).2.length f ++ RW yc (zr S o) (ax o) (w.2.2 o).1 (w.2.2 o).2.length (af o)) s.heap.size q → A q := fun q hq => by
    rcases rw_A2 hq with h | h | h | h | h
    · rw [h]; exact h5
    · rw [h]; exact h6
    · rw [h]; exact o5
    · rw [h]; exact o6
    · exact hA q h
  have hD4 : va_D (fun _ => True) (RW yc (zr S i) x (w.2.2 i).1 (w.2.2 i).2.length f ++ RW yc (zr S o) (ax o) (w.2.2 o).1 (w.2.2 o).2.length (af o)) := by
    refine va_D.app (rw_D h7 trivial trivial) (rw_D o7 trivial trivial) (fun i' j' x' y' hx hy hxy => ?_)
    rcases rw_in hx with h | h <;> rcases rw_in hy with k | k
    · exact o8 (by rw [← k, ← h]; exact hxy.symm)
    · exact o10 (by rw [← k, ← h]; exact hxy.symm)
    · exact o9 (by rw [← k, ← h]; exact hxy.symm)
    · exact o11 (by rw [← k, ← h]; exact hxy.symm)
  refine ⟨_, _, _, _, a, b, hl x f (ax o) (af o) s.heap.size h2 h4 h3 o2 o4 o3, ⟨⟨hfr.1, hfr.2, by show a ≤ Tc - s.heap.size; omega, by show b ≤ Ts - zh s.heap; omega⟩, by omega, by omega⟩, ⟨rfl, rfl, h1.app o1, hD4, hC.narrow hfree⟩, hfree, ?_⟩
  rintro oc t ⟨⟨⟨x', f'⟩, rfl, hc, hP', hD'⟩, hF⟩ z1 z2 z3
  have hx' := hD'.2 1 _ rfl
  have hxx : x' = x ∨ s.heap.size ≤ x' := by
    rcases rw_A2 hx' with h | h | h | h | h
    · have := hD'.1 0 1 _ _ rfl rfl h.symm
      omega
    · exact Or.inl h
    · have := hD'.1 2 1 _ _ rfl rfl h.symm
      omega
    · have := hD'.1 3 1 _ _ rfl rfl h.symm
      omega
    · exact Or.inr h
  refine ⟨⟨(), rfl, trivial, hcl t.heap x' f' pp (zk_sub hP' [0, 1] rfl) (fun j hj => by subst hj; exact zk_sub hP' [2, 3] rfl) hxx (hfree _ hx') (fun y hy n1 n2 n3 => z3 y hy (fun h => ?_)) p1 hc p2 (by omega) (by omega)⟩, hF.1, fun q hq hn => hF.2 q hq (fun h => hn (hfree q h))⟩
  rcases rw_A2 h with h | h | h | h | h
  · exact n1 h
  · exact n2 h
  · exact (n3 o rfl).1 h
  · exact (n3 o rfl).2 h
  · omega
theorem zbit {kd j0 : Nat} {f : Nat → Int32} {v : Int32} (hb : ∀ j, zib kd j = true → f j = 0 ∨ f j = 1) (hv : zib kd j0 = true → v = 0 ∨ v = 1) : ∀ j, zib kd j = true → (if j = j0 then v else f j) = 0 ∨ (if j = j0 then v else f j) = 1 := fun j hj => by
  by_cases e : j = j0
  · subst e
    rw [if_pos rfl]
    exact hv hj
  · rw [if_neg e]
    exact hb j hj
theorem zib_ch {kd : Nat} (h : kd = 4 ∨ kd = 5) : zib kd 2 = true := by rcases h with rfl | rfl <;> rfl
theorem zib_c1 {kd : Nat} (h : kd = 4 ∨ kd = 5) : ¬ zib kd 1 = true := by rcases h with rfl | rfl <;> decide
theorem zsav_s {w : TW} {fl k : Nat} {p : Nat × Nat} : (zsav w fl k p).2.1 fl k = p := if_pos ⟨rfl, rfl⟩
theorem zsav_n {w : TW} {fl k fl' k' : Nat} {p : Nat × Nat} (h : ¬ (2 = 2 ∧ fl' = fl ∧ k' = k)) : (zsav w fl k p).2.1 fl' k' = w.2.1 fl' k' := if_neg fun h8 => h ⟨rfl, h8⟩
end
section
/-! ===== rows: what their methods make of them ===== -/
theorem zc0 : (0 : Int32).toNatClampNeg = 0 := by decide
theorem rc_of {pp : Nat × List Int64} {f : Nat → Int64} (h : ∀ k, k < pp.2.length → pp.2[k]? = some (f k)) : RC pp f := fun j hj => by
  have h1 := h j hj
  rw [List.getElem?_eq_getElem hj] at h1
  exact (Option.some.inj h1).symm
theorem rc_at {pp : Nat × List Int64} {f : Nat → Int64} (h : RC pp f) {k : Nat} (hk : k < pp.2.length) : pp.2[k]? = some (f k) := by
  rw [List.getElem?_eq_getElem hk, h k hk]
theorem rc_add {cp cq : Nat} {xs : List Int64} {f : Nat → Int64} {v : Int64} (h : RC (cp, xs) f) (hn : xs.length < 2 ^ 31) : RC (cq, xs ++ [v]) (vp_updL f (nI xs.length : Int32).toNatClampNeg v) := by
  refine rc_of fun k hk => ?_
  have hk' : k < xs.length + 1 := by simpa using hk
  rw [nI_clamp hn]
  show (xs ++ [v])[k]? = _
  by_cases e : k = xs.length
  · subst e
    rw [pk_uLs]
    simp
  · rw [pk_uLn e, List.getElem?_append_left (by omega)]
    exact rc_at h (show k < xs.length by omega)
theorem rc_grow {cp cq : Nat} {xs : List Int64} {f : Nat → Int64} (h : RC (cp, xs) f) (hl : xs.length ≤ cp) (hn : cp < 2 ^ 31) : RC (cq, xs) (va_cpy f (fun _ => 0) (0 : Int32).toNatClampNeg (0 : Int32).toNatClampNeg (nI cp : Int32).toNatClampNeg) := by
  refine rc_of fun k hk => ?_
  have hk' : k < xs.length := hk
  rw [nI_clamp hn, zc0, pk_cpy_in (by omega) (by omega), Nat.zero_add]
  exact rc_at h hk
theorem rc_put {cp : Nat} {xs : List Int64} {f : Nat → Int64} {v : Int64} {j : Nat} (h : RC (cp, xs) f) (hj : j < xs.length) (hn : xs.length < 2 ^ 31) : RC (cp, xs.set j v) (vp_updL f (nI j : Int32).toNatClampNeg v) := by
  refine rc_of fun k hk => ?_
  have hk' : k < xs.length := by simpa using hk
  rw [nI_clamp (by omega)]
  show (xs.set j v)[k]? = _
  by_cases e : j = k
  · subst e
    rw [pk_uLs, List.getElem?_set_self hj]
  · rw [pk_uLn (fun h => e h.symm), List.getElem?_set_ne e]
    exact rc_at h hk'
theorem rc_ins {cp cq : Nat} {xs : List Int64} {f : Nat → Int64} {v : Int64} {j : Nat} (h : RC (cp, xs) f) (hj : j ≤ xs.length) (hn : xs.length + 1 < 2 ^ 31) : RC (cq, xs.take j ++ v :: xs.drop j) (vp_updL (va_cpy f f (nI j : Int32).toNatClampNeg (nI (j + 1) : Int32).toNatClampNeg (nI (xs.length - j) : Int32).toNatClampNeg) (nI j : Int32).toNatClampNeg v) := by
  refine rc_of fun k hk => ?_
  have hk' : k < xs.length + 1 := by
    have : k < (xs.take j ++ v :: xs.drop j).length := hk
    rw [List.length_append, List.length_take, List.length_cons, List.length_drop] at this
    omega
  rw [nI_clamp (by omega), nI_clamp (by omega), nI_clamp (by omega)]
  show (xs.take j ++ v :: xs.drop j)[k]? = _
  have ht : (xs.take j).length = j := by rw [List.length_take]; omega
  by_cases e : k = j
  · subst e
    rw [pk_uLs, List.getElem?_append_right (by omega), ht, Nat.sub_self]
    rfl
  · rw [pk_uLn e]
    by_cases e2 : k < j
    · rw [List.getElem?_append_left (by omega), List.getElem?_take_of_lt e2, pk_cpy_out (by omega)]
      exact rc_at h (show k < xs.length by omega)
    · rw [List.getElem?_append_right (by omega), ht, show k - j = (k - j - 1) + 1 by omega, List.getElem?_cons_succ, List.getElem?_drop, pk_cpy_in (by omega) (by omega), show j + (k - j - 1) = j + (k - (j + 1)) by omega]
      exact rc_at h (show j + (k - (j + 1)) < xs.length by omega)
theorem rc_rem {cp : Nat} {xs : List Int64} {f : Nat → Int64} {a b : Nat} (h : RC (cp, xs) f) (hj : a + b ≤ xs.length) (hn : xs.length < 2 ^ 31) : RC (cp, xs.take a ++ xs.drop (a + b)) (va_cpy f f (nI (a + b) : Int32).toNatClampNeg (nI a : Int32).toNatClampNeg (nI (xs.length - a - b) : Int32).toNatClampNeg) := by
  refine rc_of fun k hk => ?_
  have hk' : k < xs.length - b := by
    have : k < (xs.take a ++ xs.drop (a + b)).length := hk
    rw [List.length_append, List.length_take, List.length_drop] at this
    omega
  rw [nI_clamp (by omega), nI_clamp (by omega), nI_clamp (by omega)]
  show (xs.take a ++ xs.drop (a + b))[k]? = _
  have ht : (xs.take a).length = a := by rw [List.length_take]; omega
  by_cases e2 : k < a
  · rw [List.getElem?_append_left (by omega), List.getElem?_take_of_lt e2, pk_cpy_out (by omega)]
    exact rc_at h (show k < xs.length by omega)
  · rw [List.getElem?_append_right (by omega), ht, List.getElem?_drop, pk_cpy_in (by omega) (by omega)]
    exact rc_at h (show a + b + (k - a) < xs.length by omega)
theorem rc_take {cp : Nat} {xs : List Int64} {f : Nat → Int64} {n : Nat} (h : RC (cp, xs) f) : RC (cp, xs.take n) f := by
  refine rc_of fun k hk => ?_
  have hk' : k < min n xs.length := by
    have : k < (xs.take n).length := hk
    rw [List.length_take] at this
    exact this
  show (xs.take n)[k]? = _
  rw [List.getElem?_take_of_lt (by omega)]
  exact rc_at h (show k < xs.length by omega)
theorem rc_bec {cp cq : Nat} {ys : List Int64} {f g : Nat → Int64} {n : Nat} (h : RC (cp, ys) f) (hj : n ≤ ys.length) (hn : ys.length < 2 ^ 31) : RC (cq, ys.drop n) (va_cpy f g (nI n : Int32).toNatClampNeg (0 : Int32).toNatClampNeg (nI (ys.length - n) : Int32).toNatClampNeg) := by
  refine rc_of fun k hk => ?_
  have hk' : k < ys.length - n := by simpa using hk
  rw [nI_clamp (by omega), nI_clamp (by omega), zc0]
  show (ys.drop n)[k]? = _
  rw [List.getElem?_drop, pk_cpy_in (by omega) (by omega), Nat.sub_zero]
  exact rc_at h (show n + k < ys.length by omega)
/-- the room that a row takes for so many -/
def zroom : Nat → Nat → Nat → Nat
  | 0, r, _ => r
  | n + 1, r, w => if r < w then zroom n (2 * r) w else r
theorem zroom_ok : ∀ (n z w : Nat), z + n = 30 → w ≤ 8388608 → z ≤ 20 → w ≤ zroom n (8 * 2 ^ z) w ∧ RK (zroom n (8 * 2 ^ z) w) ∧ (8 * 2 ^ z < w → zroom n (8 * 2 ^ z) w < 2 * w) ∧ 8 * 2 ^ z ≤ zroom n (8 * 2 ^ z) w
  | 0, z, w, h, _, h3 => by omega
  | n + 1, z, w, h, hw, hz => by
    unfold zroom
    by_cases hlt : 8 * 2 ^ z < w
    · rw [if_pos hlt]
      have hz2 : z < 20 := by
        rcases Nat.lt_or_ge z 20 with h1 | h1
        · exact h1
        · have e : z = 20 := by omega
          subst e
          have : (2 : Nat) ^ 20 = 1048576 := by decide
          omega
      have e : 2 * (8 * 2 ^ z) = 8 * 2 ^ (z + 1) := by rw [Nat.pow_succ]; omega
      obtain ⟨h1, h2, h3, h4⟩ := zroom_ok n (z + 1) w (by omega) hw (by omega)
      rw [e]
      refine ⟨h1, h2, fun _ => ?_, by omega⟩
      by_cases h5 : 8 * 2 ^ (z + 1) < w
      · exact h3 h5
      · have : zroom n (8 * 2 ^ (z + 1)) w = 8 * 2 ^ (z + 1) := by
          cases n with
          | zero => rfl
          | succ n => show (if _ then _ else _) = _; rw [if_neg h5]
        omega
    · rw [if_neg hlt]
      exact ⟨by omega, ⟨z, hz, rfl⟩, fun h => absurd h hlt, Nat.le_refl _⟩
-- the rows behind the methods
def qput (p : Nat × List Int64) (j : Nat) (v : Int64) : Nat × List Int64 := (p.1, p.2.set j v)
def qadd (p : Nat × List Int64) (v : Int64) : Nat × List Int64 := (if p.2.length < p.1 then p.1 else 2 * p.1, p.2 ++ [v])
def qins (p : Nat × List Int64) (j : Nat) (v : Int64) : Nat × List Int64 := (if p.2.length < p.1 then p.1 else 2 * p.1, if j ≤ p.2.length then p.2.take j ++ v :: p.2.drop j else p.2)
def qrem (p : Nat × List Int64) (a b : Nat) : Nat × List Int64 := if a + b ≤ p.2.length then (p.1, p.2.take a ++ p.2.drop (a + b)) else p
def qsho (p : Nat × List Int64) (m : Int32) : Nat × List Int64 := if m < 0 then p else (p.1, p.2.take m.toNatClampNeg)
def qbec (p o : Nat × List Int64) (n : Nat) : Nat × List Int64 := (if o.2.length - n ≤ p.1 then p.1 else max p.1 (zroom 30 8 (o.2.length - n)), o.2.drop n)
def zfrom (m : Int32) (n : Nat) : Nat := (zmax 0 (zmin m (nI n))).toNatClampNeg
theorem zfrom_ok (m : Int32) {n : Nat} (hn : n < 2 ^ 31) : zmax 0 (zmin m (nI n)) = nI (zfrom m n) ∧ zfrom m n ≤ n := by
  unfold zfrom
  have e : zmax 0 (zmin m (nI n)) = 0 ∨ (zmax 0 (zmin m (nI n)) = m ∧ ¬ m < 0 ∧ ¬ nI n < m) ∨ zmax 0 (zmin m (nI n)) = nI n := by
    unfold zmax zmin
    by_cases h1 : nI n < m
    · rw [if_pos h1]
      by_cases h2 : (0 : Int32) < nI n
      · rw [if_pos h2]; exact Or.inr (Or.inr rfl)
      · rw [if_neg h2]; exact Or.inl rfl
    · rw [if_neg h1]
      by_cases h2 : (0 : Int32) < m
      · rw [if_pos h2]
        refine Or.inr (Or.inl ⟨rfl, fun h3 => ?_, h1⟩)
        rw [Int32.lt_iff_toInt_lt] at h2 h3
        omega
      · rw [if_neg h2]; exact Or.inl rfl
  rcases e with e | ⟨e, h1, h2⟩ | e
  · rw [e]; exact ⟨by rw [zc0]; rfl, by rw [zc0]; omega⟩
  · rw [e]
    obtain ⟨j, hj, rfl⟩ := nI_of h1
    rw [nI_clamp hj]
    refine ⟨rfl, ?_⟩
    have h3 : ¬ n < j := fun h4 => h2 (nI_lt h4 hj)
    omega
  · rw [e, nI_clamp hn]; exact ⟨rfl, Nat.le_refl _⟩
theorem zfrom0 (n : Nat) (hn : n < 2 ^ 31) : zfrom 0 n = 0 := by
  obtain ⟨h1, h2⟩ := zfrom_ok 0 hn
  by_cases h : n = 0
  · omega
  · unfold zfrom zmin
    rw [if_neg (nI_pos hn)]
    rfl
theorem zmin_l {a b : Nat} (h : a ≤ b) (hb : b < 2 ^ 31) : zmin (nI a) (nI b) = nI a := by
  unfold zmin
  rw [if_neg (nI_nlt h hb)]
theorem zsubgt {a b n : Nat} (h : n < a + b) (ha : a < 2 ^ 31) (hb : b < 2 ^ 31) (hn : n < 2 ^ 31) : nI n - nI b < nI a := by
  by_cases h1 : b ≤ n
  · rw [pk_sub h1]
    exact nI_lt (by omega) ha
  · rw [Int32.lt_iff_toInt_lt, Int32.toInt_sub, nI_toInt ha, nI_toInt hb, nI_toInt hn]
    have e : ((n : Int) - (b : Int)).bmod (2 ^ 32) = (n : Int) - b := by
      apply Int.bmod_eq_of_le
      · omega
      · omega
    rw [e]
    omega
theorem zsuble {a b n : Nat} (h : a + b ≤ n) (hn : n < 2 ^ 31) : ¬ nI n - nI b < nI a := by
  rw [pk_sub (by omega)]
  exact nI_nlt (by omega) (by omega)
theorem zrk_two {a b : Nat} (h : RK a) (k : RK b) (hab : a < b) : 2 * a ≤ b := by
  obtain ⟨z, -, rfl⟩ := h
  obtain ⟨y, -, rfl⟩ := k
  have h1 : z < y := by
    rcases Nat.lt_or_ge z y with h | h
    · exact h
    · have := Nat.pow_le_pow_right (n := 2) (by decide) h
      omega
  have h2 : 2 ^ (z + 1) ≤ 2 ^ y := Nat.pow_le_pow_right (by decide) h1
  rw [Nat.pow_succ] at h2
  omega
theorem zrk_lt {a b : Nat} (h : RK a) (k : RK b) (hab : a < b) : 1 + a / 8 ≤ b / 8 := by
  have h2 := zrk_two h k hab
  have h3 := h.ge
  obtain ⟨z, -, rfl⟩ := h
  obtain ⟨y, -, rfl⟩ := k
  omega
theorem mq_put (p : Nat × List Int64) (j : Nat) (v : Int64) : p.1 ≤ (qput p j v).1 := Nat.le_refl _
theorem mq_add (p : Nat × List Int64) (v : Int64) : p.1 ≤ (qadd p v).1 := by unfold qadd; dsimp only; split <;> omega
theorem mq_insert (p : Nat × List Int64) (j : Nat) (v : Int64) : p.1 ≤ (qins p j v).1 := by unfold qins; dsimp only; split <;> omega
theorem mq_remove (p : Nat × List Int64) (a b : Nat) : p.1 ≤ (qrem p a b).1 := by unfold qrem; split <;> exact Nat.le_refl _
theorem mq_shorten (p : Nat × List Int64) (m : Int32) : p.1 ≤ (qsho p m).1 := by unfold qsho; split <;> exact Nat.le_refl _
theorem mq_become (p o : Nat × List Int64) (n : Nat) : p.1 ≤ (qbec p o n).1 := by unfold qbec; dsimp only; split <;> omega
theorem zle0 {x : Int32} (h : ¬ x ≤ 0) : ¬ x < 0 := fun h2 => h (Int32.le_of_lt h2)
def zfuel : Nat := 8388608
theorem zfuel_eq : zfuel = 8388608 := rfl
theorem zdec {b : Int32} {n : Nat} (h : b = nI (n + 1) - 1) : b + (-1) = nI n - 1 := by
  rw [h, nI_pred, Int32.sub_eq_add_neg]
theorem zdec0 {b : Int32} (h : b = nI 0 - 1) : b < 0 := by rw [h]; decide
theorem zdecn {b : Int32} {n : Nat} (h : b = nI (n + 1) - 1) : b = nI n := by rw [h, nI_pred]
theorem zdecp {b : Int32} {n : Nat} (h : b = nI (n + 1) - 1) (hn : n < 2 ^ 31) : ¬ b < 0 := by rw [zdecn h]; exact nI_pos hn
theorem zk_fb {v : Int32} (h : v = 0 ∨ v = 1) : fits .boolean (.int v) = true := by rcases h with rfl | rfl <;> rfl
end
section
theorem wq19 : (Jvm.Cond.initialized "java/util/Arrays") ∈ lw_all := lw_in (lw_tb (List.mem_of_getElem? (i := 19) (by decide +kernel))) rfl
theorem wq20 : (Jvm.Cond.initialized "java/lang/System") ∈ lw_all := lw_in (lw_tb (List.mem_of_getElem? (i := 20) (by decide +kernel))) rfl
theorem wq325 : (Jvm.Cond.methodLink "WeirStream$Row" (24 : Nat) ({ cls := "java/lang/System", name := "arraycopy", desc := "(Ljava/lang/Object;ILjava/lang/Object;II)V" } : Jvm.MethodName)) ∈ lw_all := lw_in (lw_tb (List.mem_of_getElem? (i := 325) (by decide +kernel))) rfl
theorem wq326 : (Jvm.Cond.static ({ cls := "java/lang/System", name := "arraycopy", desc := "(Ljava/lang/Object;ILjava/lang/Object;II)V" } : Jvm.MethodName)) ∈ lw_all := lw_in (lw_tb (List.mem_of_getElem? (i := 326) (by decide +kernel))) rfl
theorem wq327 : (Jvm.Cond.native ({ cls := "java/lang/System", name := "arraycopy", desc := "(Ljava/lang/Object;ILjava/lang/Object;II)V" } : Jvm.MethodName)) ∈ lw_all := lw_in (lw_tb (List.mem_of_getElem? (i := 327) (by decide +kernel))) rfl
theorem wq348 : (Jvm.Cond.constant "WeirStream$Row" (17 : Nat) (8388608 : Int32)) ∈ lw_all := lw_in (lw_tb (List.mem_of_getElem? (i := 348) (by decide +kernel))) rfl
theorem wq349 : (Jvm.Cond.methodLink "WeirStream$Row" (18 : Nat) ({ cls := "java/util/Arrays", name := "copyOf", desc := "([JI)[J" } : Jvm.MethodName)) ∈ lw_all := lw_in (lw_tb (List.mem_of_getElem? (i := 349) (by decide +kernel))) rfl
theorem wq350 : (Jvm.Cond.static ({ cls := "java/util/Arrays", name := "copyOf", desc := "([JI)[J" } : Jvm.MethodName)) ∈ lw_all := lw_in (lw_tb (List.mem_of_getElem? (i := 350) (by decide +kernel))) rfl
theorem wq351 : (Jvm.Cond.code ({ cls := "java/util/Arrays", name := "copyOf", desc := "([JI)[J" } : Jvm.MethodName) prog_31_method_124_code (3 : Nat) (Option.some (Jvm.ClassFile.FieldType.array Jvm.ClassFile.FieldType.long))) ∈ lw_all := lw_in (lw_tb (List.mem_of_getElem? (i := 351) (by decide +kernel))) rfl
theorem wq359 : (Jvm.Cond.methodLink "java/util/Arrays" (304 : Nat) ({ cls := "java/lang/Math", name := "min", desc := "(II)I" } : Jvm.MethodName)) ∈ lw_all := lw_in (lw_tb (List.mem_of_getElem? (i := 359) (by decide +kernel))) rfl
theorem wq360 : (Jvm.Cond.methodLink "java/util/Arrays" (150 : Nat) ({ cls := "java/lang/System", name := "arraycopy", desc := "(Ljava/lang/Object;ILjava/lang/Object;II)V" } : Jvm.MethodName)) ∈ lw_all := lw_in (lw_tb (List.mem_of_getElem? (i := 360) (by decide +kernel))) rfl
theorem wq373 : (Jvm.Cond.methodLink "WeirStream$Row" (30 : Nat) ({ cls := "java/lang/Math", name := "min", desc := "(II)I" } : Jvm.MethodName)) ∈ lw_all := lw_in (lw_tb (List.mem_of_getElem? (i := 373) (by decide +kernel))) rfl
theorem wq374 : (Jvm.Cond.methodLink "WeirStream$Row" (36 : Nat) ({ cls := "java/lang/Math", name := "max", desc := "(II)I" } : Jvm.MethodName)) ∈ lw_all := lw_in (lw_tb (List.mem_of_getElem? (i := 374) (by decide +kernel))) rfl
theorem wq587 : (Jvm.Cond.arrayClass Jvm.ClassFile.FieldType.long) ∈ lw_all := lw_in (lw_tb (List.mem_of_getElem? (i := 587) (by decide +kernel))) rfl
theorem dJ7_copyOf_c38d5_0 : decode cJ7_copyOf_c38d5 0 = .ok (.iload_n 1, 1) := by decide +kernel
theorem dJ7_copyOf_c38d5_1 : decode cJ7_copyOf_c38d5 1 = .ok (.aload_n 0, 1) := by decide +kernel
theorem dJ7_copyOf_c38d5_2 : decode cJ7_copyOf_c38d5 2 = .ok (.arraylength, 1) := by decide +kernel
theorem dJ7_copyOf_c38d5_3 : decode cJ7_copyOf_c38d5 3 = .ok (.if_icmp .ne 11, 3) := by decide +kernel
theorem dJ7_copyOf_c38d5_14 : decode cJ7_copyOf_c38d5 14 = .ok (.iload_n 1, 1) := by decide +kernel
theorem dJ7_copyOf_c38d5_15 : decode cJ7_copyOf_c38d5 15 = .ok (.newarray .long, 2) := by decide +kernel
theorem dJ7_copyOf_c38d5_17 : decode cJ7_copyOf_c38d5 17 = .ok (.astore_n 2, 1) := by decide +kernel
theorem dJ7_copyOf_c38d5_18 : decode cJ7_copyOf_c38d5 18 = .ok (.aload_n 0, 1) := by decide +kernel
theorem dJ7_copyOf_c38d5_19 : decode cJ7_copyOf_c38d5 19 = .ok (.iconst 0, 1) := by decide +kernel
theorem dJ7_copyOf_c38d5_20 : decode cJ7_copyOf_c38d5 20 = .ok (.aload_n 2, 1) := by decide +kernel
theorem dJ7_copyOf_c38d5_21 : decode cJ7_copyOf_c38d5 21 = .ok (.iconst 0, 1) := by decide +kernel
theorem dJ7_copyOf_c38d5_22 : decode cJ7_copyOf_c38d5 22 = .ok (.aload_n 0, 1) := by decide +kernel
theorem dJ7_copyOf_c38d5_23 : decode cJ7_copyOf_c38d5 23 = .ok (.arraylength, 1) := by decide +kernel
theorem dJ7_copyOf_c38d5_24 : decode cJ7_copyOf_c38d5 24 = .ok (.iload_n 1, 1) := by decide +kernel
theorem dJ7_copyOf_c38d5_25 : decode cJ7_copyOf_c38d5 25 = .ok (.invokestatic 304, 3) := by decide +kernel
theorem dJ7_copyOf_c38d5_28 : decode cJ7_copyOf_c38d5 28 = .ok (.invokestatic 150, 3) := by decide +kernel
theorem dJ7_copyOf_c38d5_31 : decode cJ7_copyOf_c38d5 31 = .ok (.aload_n 2, 1) := by decide +kernel
theorem dJ7_copyOf_c38d5_32 : decode cJ7_copyOf_c38d5 32 = .ok (.areturn, 1) := by decide +kernel
theorem dX6_put_0 : decode cX6_put 0 = .ok (.iload_n 1, 1) := by decide +kernel
theorem dX6_put_1 : decode cX6_put 1 = .ok (.ifCond .lt 27, 3) := by decide +kernel
theorem dX6_put_4 : decode cX6_put 4 = .ok (.iload_n 1, 1) := by decide +kernel
theorem dX6_put_5 : decode cX6_put 5 = .ok (.aload_n 0, 1) := by decide +kernel
theorem dX6_put_6 : decode cX6_put 6 = .ok (.getfield 13, 3) := by decide +kernel
theorem dX6_put_9 : decode cX6_put 9 = .ok (.if_icmp .ge 19, 3) := by decide +kernel
theorem dX6_put_12 : decode cX6_put 12 = .ok (.iload_n 1, 1) := by decide +kernel
theorem dX6_put_13 : decode cX6_put 13 = .ok (.aload_n 0, 1) := by decide +kernel
theorem dX6_put_14 : decode cX6_put 14 = .ok (.getfield 9, 3) := by decide +kernel
theorem dX6_put_17 : decode cX6_put 17 = .ok (.arraylength, 1) := by decide +kernel
theorem dX6_put_18 : decode cX6_put 18 = .ok (.if_icmp .ge 10, 3) := by decide +kernel
theorem dX6_put_21 : decode cX6_put 21 = .ok (.aload_n 0, 1) := by decide +kernel
theorem dX6_put_22 : decode cX6_put 22 = .ok (.getfield 9, 3) := by decide +kernel
theorem dX6_put_25 : decode cX6_put 25 = .ok (.iload_n 1, 1) := by decide +kernel
theorem dX6_put_26 : decode cX6_put 26 = .ok (.lload_n 2, 1) := by decide +kernel
theorem dX6_put_27 : decode cX6_put 27 = .ok (.lastore, 1) := by decide +kernel
theorem dX6_put_28 : decode cX6_put 28 = .ok (.return_, 1) := by decide +kernel
theorem dX6_add_0 : decode cX6_add 0 = .ok (.aload_n 0, 1) := by decide +kernel
theorem dX6_add_1 : decode cX6_add 1 = .ok (.getfield 13, 3) := by decide +kernel
theorem dX6_add_4 : decode cX6_add 4 = .ok (.aload_n 0, 1) := by decide +kernel
theorem dX6_add_5 : decode cX6_add 5 = .ok (.getfield 9, 3) := by decide +kernel
theorem dX6_add_8 : decode cX6_add 8 = .ok (.arraylength, 1) := by decide +kernel
theorem dX6_add_9 : decode cX6_add 9 = .ok (.if_icmp .lt 31, 3) := by decide +kernel
theorem dX6_add_40 : decode cX6_add 40 = .ok (.aload_n 0, 1) := by decide +kernel
theorem dX6_add_41 : decode cX6_add 41 = .ok (.getfield 13, 3) := by decide +kernel
theorem dX6_add_44 : decode cX6_add 44 = .ok (.ifCond .lt 35, 3) := by decide +kernel
theorem dX6_add_47 : decode cX6_add 47 = .ok (.aload_n 0, 1) := by decide +kernel
theorem dX6_add_48 : decode cX6_add 48 = .ok (.getfield 13, 3) := by decide +kernel
theorem dX6_add_51 : decode cX6_add 51 = .ok (.aload_n 0, 1) := by decide +kernel
theorem dX6_add_52 : decode cX6_add 52 = .ok (.getfield 9, 3) := by decide +kernel
theorem dX6_add_55 : decode cX6_add 55 = .ok (.arraylength, 1) := by decide +kernel
theorem dX6_add_56 : decode cX6_add 56 = .ok (.if_icmp .ge 23, 3) := by decide +kernel
theorem dX6_add_59 : decode cX6_add 59 = .ok (.aload_n 0, 1) := by decide +kernel
theorem dX6_add_60 : decode cX6_add 60 = .ok (.getfield 9, 3) := by decide +kernel
theorem dX6_add_63 : decode cX6_add 63 = .ok (.aload_n 0, 1) := by decide +kernel
theorem dX6_add_64 : decode cX6_add 64 = .ok (.getfield 13, 3) := by decide +kernel
theorem dX6_add_67 : decode cX6_add 67 = .ok (.lload_n 1, 1) := by decide +kernel
theorem dX6_add_68 : decode cX6_add 68 = .ok (.lastore, 1) := by decide +kernel
theorem dX6_add_69 : decode cX6_add 69 = .ok (.aload_n 0, 1) := by decide +kernel
theorem dX6_add_70 : decode cX6_add 70 = .ok (.dup, 1) := by decide +kernel
theorem dX6_add_71 : decode cX6_add 71 = .ok (.getfield 13, 3) := by decide +kernel
theorem dX6_add_74 : decode cX6_add 74 = .ok (.iconst 1, 1) := by decide +kernel
theorem dX6_add_75 : decode cX6_add 75 = .ok (.iadd, 1) := by decide +kernel
theorem dX6_add_76 : decode cX6_add 76 = .ok (.putfield 13, 3) := by decide +kernel
theorem dX6_add_79 : decode cX6_add 79 = .ok (.return_, 1) := by decide +kernel
theorem dX6_add_12 : decode cX6_add 12 = .ok (.aload_n 0, 1) := by decide +kernel
theorem dX6_add_13 : decode cX6_add 13 = .ok (.getfield 9, 3) := by decide +kernel
theorem dX6_add_16 : decode cX6_add 16 = .ok (.arraylength, 1) := by decide +kernel
theorem dX6_add_17 : decode cX6_add 17 = .ok (.ldc 17, 2) := by decide +kernel
theorem dX6_add_19 : decode cX6_add 19 = .ok (.if_icmp .ge 21, 3) := by decide +kernel
theorem dX6_add_22 : decode cX6_add 22 = .ok (.aload_n 0, 1) := by decide +kernel
theorem dX6_add_23 : decode cX6_add 23 = .ok (.aload_n 0, 1) := by decide +kernel
theorem dX6_add_24 : decode cX6_add 24 = .ok (.getfield 9, 3) := by decide +kernel
theorem dX6_add_27 : decode cX6_add 27 = .ok (.aload_n 0, 1) := by decide +kernel
theorem dX6_add_28 : decode cX6_add 28 = .ok (.getfield 9, 3) := by decide +kernel
theorem dX6_add_31 : decode cX6_add 31 = .ok (.arraylength, 1) := by decide +kernel
theorem dX6_add_32 : decode cX6_add 32 = .ok (.iconst 2, 1) := by decide +kernel
theorem dX6_add_33 : decode cX6_add 33 = .ok (.imul, 1) := by decide +kernel
theorem dX6_add_34 : decode cX6_add 34 = .ok (.invokestatic 18, 3) := by decide +kernel
theorem dX6_add_37 : decode cX6_add 37 = .ok (.putfield 9, 3) := by decide +kernel
theorem dX6_insert_0 : decode cX6_insert 0 = .ok (.aload_n 0, 1) := by decide +kernel
theorem dX6_insert_1 : decode cX6_insert 1 = .ok (.getfield 13, 3) := by decide +kernel
theorem dX6_insert_4 : decode cX6_insert 4 = .ok (.aload_n 0, 1) := by decide +kernel
theorem dX6_insert_5 : decode cX6_insert 5 = .ok (.getfield 9, 3) := by decide +kernel
theorem dX6_insert_8 : decode cX6_insert 8 = .ok (.arraylength, 1) := by decide +kernel
theorem dX6_insert_9 : decode cX6_insert 9 = .ok (.if_icmp .lt 31, 3) := by decide +kernel
theorem dX6_insert_40 : decode cX6_insert 40 = .ok (.iload_n 1, 1) := by decide +kernel
theorem dX6_insert_41 : decode cX6_insert 41 = .ok (.ifCond .lt 61, 3) := by decide +kernel
theorem dX6_insert_44 : decode cX6_insert 44 = .ok (.iload_n 1, 1) := by decide +kernel
theorem dX6_insert_45 : decode cX6_insert 45 = .ok (.aload_n 0, 1) := by decide +kernel
theorem dX6_insert_46 : decode cX6_insert 46 = .ok (.getfield 13, 3) := by decide +kernel
theorem dX6_insert_49 : decode cX6_insert 49 = .ok (.if_icmp .gt 53, 3) := by decide +kernel
theorem dX6_insert_52 : decode cX6_insert 52 = .ok (.aload_n 0, 1) := by decide +kernel
theorem dX6_insert_53 : decode cX6_insert 53 = .ok (.getfield 13, 3) := by decide +kernel
theorem dX6_insert_56 : decode cX6_insert 56 = .ok (.aload_n 0, 1) := by decide +kernel
theorem dX6_insert_57 : decode cX6_insert 57 = .ok (.getfield 9, 3) := by decide +kernel
theorem dX6_insert_60 : decode cX6_insert 60 = .ok (.arraylength, 1) := by decide +kernel
theorem dX6_insert_61 : decode cX6_insert 61 = .ok (.if_icmp .ge 41, 3) := by decide +kernel
theorem dX6_insert_64 : decode cX6_insert 64 = .ok (.aload_n 0, 1) := by decide +kernel
theorem dX6_insert_65 : decode cX6_insert 65 = .ok (.getfield 9, 3) := by decide +kernel
theorem dX6_insert_68 : decode cX6_insert 68 = .ok (.iload_n 1, 1) := by decide +kernel
theorem dX6_insert_69 : decode cX6_insert 69 = .ok (.aload_n 0, 1) := by decide +kernel
theorem dX6_insert_70 : decode cX6_insert 70 = .ok (.getfield 9, 3) := by decide +kernel
theorem dX6_insert_73 : decode cX6_insert 73 = .ok (.iload_n 1, 1) := by decide +kernel
theorem dX6_insert_74 : decode cX6_insert 74 = .ok (.iconst 1, 1) := by decide +kernel
theorem dX6_insert_75 : decode cX6_insert 75 = .ok (.iadd, 1) := by decide +kernel
theorem dX6_insert_76 : decode cX6_insert 76 = .ok (.aload_n 0, 1) := by decide +kernel
theorem dX6_insert_77 : decode cX6_insert 77 = .ok (.getfield 13, 3) := by decide +kernel
theorem dX6_insert_80 : decode cX6_insert 80 = .ok (.iload_n 1, 1) := by decide +kernel
theorem dX6_insert_81 : decode cX6_insert 81 = .ok (.isub, 1) := by decide +kernel
theorem dX6_insert_82 : decode cX6_insert 82 = .ok (.invokestatic 24, 3) := by decide +kernel
theorem dX6_insert_85 : decode cX6_insert 85 = .ok (.aload_n 0, 1) := by decide +kernel
theorem dX6_insert_86 : decode cX6_insert 86 = .ok (.getfield 9, 3) := by decide +kernel
theorem dX6_insert_89 : decode cX6_insert 89 = .ok (.iload_n 1, 1) := by decide +kernel
theorem dX6_insert_90 : decode cX6_insert 90 = .ok (.lload_n 2, 1) := by decide +kernel
theorem dX6_insert_91 : decode cX6_insert 91 = .ok (.lastore, 1) := by decide +kernel
theorem dX6_insert_92 : decode cX6_insert 92 = .ok (.aload_n 0, 1) := by decide +kernel
theorem dX6_insert_93 : decode cX6_insert 93 = .ok (.dup, 1) := by decide +kernel
theorem dX6_insert_94 : decode cX6_insert 94 = .ok (.getfield 13, 3) := by decide +kernel
theorem dX6_insert_97 : decode cX6_insert 97 = .ok (.iconst 1, 1) := by decide +kernel
theorem dX6_insert_98 : decode cX6_insert 98 = .ok (.iadd, 1) := by decide +kernel
theorem dX6_insert_99 : decode cX6_insert 99 = .ok (.putfield 13, 3) := by decide +kernel
theorem dX6_insert_102 : decode cX6_insert 102 = .ok (.return_, 1) := by decide +kernel
theorem dX6_insert_12 : decode cX6_insert 12 = .ok (.aload_n 0, 1) := by decide +kernel
theorem dX6_insert_13 : decode cX6_insert 13 = .ok (.getfield 9, 3) := by decide +kernel
theorem dX6_insert_16 : decode cX6_insert 16 = .ok (.arraylength, 1) := by decide +kernel
theorem dX6_insert_17 : decode cX6_insert 17 = .ok (.ldc 17, 2) := by decide +kernel
theorem dX6_insert_19 : decode cX6_insert 19 = .ok (.if_icmp .ge 21, 3) := by decide +kernel
theorem dX6_insert_22 : decode cX6_insert 22 = .ok (.aload_n 0, 1) := by decide +kernel
theorem dX6_insert_23 : decode cX6_insert 23 = .ok (.aload_n 0, 1) := by decide +kernel
theorem dX6_insert_24 : decode cX6_insert 24 = .ok (.getfield 9, 3) := by decide +kernel
theorem dX6_insert_27 : decode cX6_insert 27 = .ok (.aload_n 0, 1) := by decide +kernel
theorem dX6_insert_28 : decode cX6_insert 28 = .ok (.getfield 9, 3) := by decide +kernel
theorem dX6_insert_31 : decode cX6_insert 31 = .ok (.arraylength, 1) := by decide +kernel
theorem dX6_insert_32 : decode cX6_insert 32 = .ok (.iconst 2, 1) := by decide +kernel
theorem dX6_insert_33 : decode cX6_insert 33 = .ok (.imul, 1) := by decide +kernel
theorem dX6_insert_34 : decode cX6_insert 34 = .ok (.invokestatic 18, 3) := by decide +kernel
theorem dX6_insert_37 : decode cX6_insert 37 = .ok (.putfield 9, 3) := by decide +kernel
theorem dX6_remove_0 : decode cX6_remove 0 = .ok (.iload_n 1, 1) := by decide +kernel
theorem dX6_remove_1 : decode cX6_remove 1 = .ok (.ifCond .lt 62, 3) := by decide +kernel
theorem dX6_remove_4 : decode cX6_remove 4 = .ok (.iload_n 2, 1) := by decide +kernel
theorem dX6_remove_5 : decode cX6_remove 5 = .ok (.ifCond .le 58, 3) := by decide +kernel
theorem dX6_remove_8 : decode cX6_remove 8 = .ok (.iload_n 1, 1) := by decide +kernel
theorem dX6_remove_9 : decode cX6_remove 9 = .ok (.aload_n 0, 1) := by decide +kernel
theorem dX6_remove_10 : decode cX6_remove 10 = .ok (.getfield 13, 3) := by decide +kernel
theorem dX6_remove_13 : decode cX6_remove 13 = .ok (.iload_n 2, 1) := by decide +kernel
theorem dX6_remove_14 : decode cX6_remove 14 = .ok (.isub, 1) := by decide +kernel
theorem dX6_remove_15 : decode cX6_remove 15 = .ok (.if_icmp .gt 48, 3) := by decide +kernel
theorem dX6_remove_18 : decode cX6_remove 18 = .ok (.aload_n 0, 1) := by decide +kernel
theorem dX6_remove_19 : decode cX6_remove 19 = .ok (.getfield 13, 3) := by decide +kernel
theorem dX6_remove_22 : decode cX6_remove 22 = .ok (.aload_n 0, 1) := by decide +kernel
theorem dX6_remove_23 : decode cX6_remove 23 = .ok (.getfield 9, 3) := by decide +kernel
theorem dX6_remove_26 : decode cX6_remove 26 = .ok (.arraylength, 1) := by decide +kernel
theorem dX6_remove_27 : decode cX6_remove 27 = .ok (.if_icmp .gt 36, 3) := by decide +kernel
theorem dX6_remove_30 : decode cX6_remove 30 = .ok (.aload_n 0, 1) := by decide +kernel
theorem dX6_remove_31 : decode cX6_remove 31 = .ok (.getfield 9, 3) := by decide +kernel
theorem dX6_remove_34 : decode cX6_remove 34 = .ok (.iload_n 1, 1) := by decide +kernel
theorem dX6_remove_35 : decode cX6_remove 35 = .ok (.iload_n 2, 1) := by decide +kernel
theorem dX6_remove_36 : decode cX6_remove 36 = .ok (.iadd, 1) := by decide +kernel
theorem dX6_remove_37 : decode cX6_remove 37 = .ok (.aload_n 0, 1) := by decide +kernel
theorem dX6_remove_38 : decode cX6_remove 38 = .ok (.getfield 9, 3) := by decide +kernel
theorem dX6_remove_41 : decode cX6_remove 41 = .ok (.iload_n 1, 1) := by decide +kernel
theorem dX6_remove_42 : decode cX6_remove 42 = .ok (.aload_n 0, 1) := by decide +kernel
theorem dX6_remove_43 : decode cX6_remove 43 = .ok (.getfield 13, 3) := by decide +kernel
theorem dX6_remove_46 : decode cX6_remove 46 = .ok (.iload_n 1, 1) := by decide +kernel
theorem dX6_remove_47 : decode cX6_remove 47 = .ok (.isub, 1) := by decide +kernel
theorem dX6_remove_48 : decode cX6_remove 48 = .ok (.iload_n 2, 1) := by decide +kernel
theorem dX6_remove_49 : decode cX6_remove 49 = .ok (.isub, 1) := by decide +kernel
theorem dX6_remove_50 : decode cX6_remove 50 = .ok (.invokestatic 24, 3) := by decide +kernel
theorem dX6_remove_53 : decode cX6_remove 53 = .ok (.aload_n 0, 1) := by decide +kernel
theorem dX6_remove_54 : decode cX6_remove 54 = .ok (.dup, 1) := by decide +kernel
theorem dX6_remove_55 : decode cX6_remove 55 = .ok (.getfield 13, 3) := by decide +kernel
theorem dX6_remove_58 : decode cX6_remove 58 = .ok (.iload_n 2, 1) := by decide +kernel
theorem dX6_remove_59 : decode cX6_remove 59 = .ok (.isub, 1) := by decide +kernel
theorem dX6_remove_60 : decode cX6_remove 60 = .ok (.putfield 13, 3) := by decide +kernel
theorem dX6_remove_63 : decode cX6_remove 63 = .ok (.return_, 1) := by decide +kernel
theorem dX6_shorten_0 : decode cX6_shorten 0 = .ok (.iload_n 1, 1) := by decide +kernel
theorem dX6_shorten_1 : decode cX6_shorten 1 = .ok (.ifCond .lt 16, 3) := by decide +kernel
theorem dX6_shorten_4 : decode cX6_shorten 4 = .ok (.iload_n 1, 1) := by decide +kernel
theorem dX6_shorten_5 : decode cX6_shorten 5 = .ok (.aload_n 0, 1) := by decide +kernel
theorem dX6_shorten_6 : decode cX6_shorten 6 = .ok (.getfield 13, 3) := by decide +kernel
theorem dX6_shorten_9 : decode cX6_shorten 9 = .ok (.if_icmp .ge 8, 3) := by decide +kernel
theorem dX6_shorten_12 : decode cX6_shorten 12 = .ok (.aload_n 0, 1) := by decide +kernel
theorem dX6_shorten_13 : decode cX6_shorten 13 = .ok (.iload_n 1, 1) := by decide +kernel
theorem dX6_shorten_14 : decode cX6_shorten 14 = .ok (.putfield 13, 3) := by decide +kernel
theorem dX6_shorten_17 : decode cX6_shorten 17 = .ok (.return_, 1) := by decide +kernel
theorem dX6_become_45 : decode cX6_become 45 = .ok (.iload 6, 2) := by decide +kernel
theorem dX6_become_47 : decode cX6_become 47 = .ok (.bipush 30, 2) := by decide +kernel
theorem dX6_become_49 : decode cX6_become 49 = .ok (.if_icmp .ge 22, 3) := by decide +kernel
theorem dX6_become_52 : decode cX6_become 52 = .ok (.iload 5, 2) := by decide +kernel
theorem dX6_become_54 : decode cX6_become 54 = .ok (.iload 4, 2) := by decide +kernel
theorem dX6_become_56 : decode cX6_become 56 = .ok (.if_icmp .ge 15, 3) := by decide +kernel
theorem dX6_become_59 : decode cX6_become 59 = .ok (.iload 5, 2) := by decide +kernel
theorem dX6_become_61 : decode cX6_become 61 = .ok (.iconst 2, 1) := by decide +kernel
theorem dX6_become_62 : decode cX6_become 62 = .ok (.imul, 1) := by decide +kernel
theorem dX6_become_63 : decode cX6_become 63 = .ok (.istore 5, 2) := by decide +kernel
theorem dX6_become_65 : decode cX6_become 65 = .ok (.iinc 6 1, 3) := by decide +kernel
theorem dX6_become_68 : decode cX6_become 68 = .ok (.goto (-23), 3) := by decide +kernel
theorem dX6_become_0 : decode cX6_become 0 = .ok (.iconst 0, 1) := by decide +kernel
theorem dX6_become_1 : decode cX6_become 1 = .ok (.iload_n 2, 1) := by decide +kernel
theorem dX6_become_2 : decode cX6_become 2 = .ok (.aload_n 1, 1) := by decide +kernel
theorem dX6_become_3 : decode cX6_become 3 = .ok (.getfield 13, 3) := by decide +kernel
theorem dX6_become_6 : decode cX6_become 6 = .ok (.invokestatic 30, 3) := by decide +kernel
theorem dX6_become_9 : decode cX6_become 9 = .ok (.invokestatic 36, 3) := by decide +kernel
theorem dX6_become_12 : decode cX6_become 12 = .ok (.istore_n 3, 1) := by decide +kernel
theorem dX6_become_13 : decode cX6_become 13 = .ok (.aload_n 1, 1) := by decide +kernel
theorem dX6_become_14 : decode cX6_become 14 = .ok (.getfield 13, 3) := by decide +kernel
theorem dX6_become_17 : decode cX6_become 17 = .ok (.iload_n 3, 1) := by decide +kernel
theorem dX6_become_18 : decode cX6_become 18 = .ok (.isub, 1) := by decide +kernel
theorem dX6_become_19 : decode cX6_become 19 = .ok (.istore 4, 2) := by decide +kernel
theorem dX6_become_21 : decode cX6_become 21 = .ok (.iload 4, 2) := by decide +kernel
theorem dX6_become_23 : decode cX6_become 23 = .ok (.aload_n 0, 1) := by decide +kernel
theorem dX6_become_24 : decode cX6_become 24 = .ok (.getfield 9, 3) := by decide +kernel
theorem dX6_become_27 : decode cX6_become 27 = .ok (.arraylength, 1) := by decide +kernel
theorem dX6_become_28 : decode cX6_become 28 = .ok (.if_icmp .le 51, 3) := by decide +kernel
theorem dX6_become_79 : decode cX6_become 79 = .ok (.iload 4, 2) := by decide +kernel
theorem dX6_become_81 : decode cX6_become 81 = .ok (.aload_n 0, 1) := by decide +kernel
theorem dX6_become_82 : decode cX6_become 82 = .ok (.getfield 9, 3) := by decide +kernel
theorem dX6_become_85 : decode cX6_become 85 = .ok (.arraylength, 1) := by decide +kernel
theorem dX6_become_86 : decode cX6_become 86 = .ok (.if_icmp .gt 36, 3) := by decide +kernel
theorem dX6_become_89 : decode cX6_become 89 = .ok (.aload_n 1, 1) := by decide +kernel
theorem dX6_become_90 : decode cX6_become 90 = .ok (.getfield 13, 3) := by decide +kernel
theorem dX6_become_93 : decode cX6_become 93 = .ok (.aload_n 1, 1) := by decide +kernel
theorem dX6_become_94 : decode cX6_become 94 = .ok (.getfield 9, 3) := by decide +kernel
theorem dX6_become_97 : decode cX6_become 97 = .ok (.arraylength, 1) := by decide +kernel
theorem dX6_become_98 : decode cX6_become 98 = .ok (.if_icmp .gt 24, 3) := by decide +kernel
theorem dX6_become_101 : decode cX6_become 101 = .ok (.aload_n 1, 1) := by decide +kernel
theorem dX6_become_102 : decode cX6_become 102 = .ok (.getfield 9, 3) := by decide +kernel
theorem dX6_become_105 : decode cX6_become 105 = .ok (.iload_n 3, 1) := by decide +kernel
theorem dX6_become_106 : decode cX6_become 106 = .ok (.aload_n 0, 1) := by decide +kernel
theorem dX6_become_107 : decode cX6_become 107 = .ok (.getfield 9, 3) := by decide +kernel
theorem dX6_become_110 : decode cX6_become 110 = .ok (.iconst 0, 1) := by decide +kernel
theorem dX6_become_111 : decode cX6_become 111 = .ok (.iload 4, 2) := by decide +kernel
theorem dX6_become_113 : decode cX6_become 113 = .ok (.invokestatic 24, 3) := by decide +kernel
theorem dX6_become_116 : decode cX6_become 116 = .ok (.aload_n 0, 1) := by decide +kernel
theorem dX6_become_117 : decode cX6_become 117 = .ok (.iload 4, 2) := by decide +kernel
theorem dX6_become_119 : decode cX6_become 119 = .ok (.putfield 13, 3) := by decide +kernel
theorem dX6_become_122 : decode cX6_become 122 = .ok (.return_, 1) := by decide +kernel
theorem dX6_become_31 : decode cX6_become 31 = .ok (.iload 4, 2) := by decide +kernel
theorem dX6_become_33 : decode cX6_become 33 = .ok (.ldc 17, 2) := by decide +kernel
theorem dX6_become_35 : decode cX6_become 35 = .ok (.if_icmp .gt 44, 3) := by decide +kernel
theorem dX6_become_38 : decode cX6_become 38 = .ok (.bipush 8, 2) := by decide +kernel
theorem dX6_become_40 : decode cX6_become 40 = .ok (.istore 5, 2) := by decide +kernel
theorem dX6_become_42 : decode cX6_become 42 = .ok (.iconst 0, 1) := by decide +kernel
theorem dX6_become_43 : decode cX6_become 43 = .ok (.istore 6, 2) := by decide +kernel
theorem dX6_become_71 : decode cX6_become 71 = .ok (.aload_n 0, 1) := by decide +kernel
theorem dX6_become_72 : decode cX6_become 72 = .ok (.iload 5, 2) := by decide +kernel
theorem dX6_become_74 : decode cX6_become 74 = .ok (.newarray .long, 2) := by decide +kernel
theorem dX6_become_76 : decode cX6_become 76 = .ok (.putfield 9, 3) := by decide +kernel
end
section
set_option maxHeartbeats 4000000 in
set_option maxRecDepth 100000 in
theorem l_copyOf (l : Launch) (D : va_G) (yc : Nat → ClassId) (e0 : Nat) (x : Nat) (cp : Nat) (f : Nat → Int64) (sz : Nat) (n : Nat) (h1 : cp < n) (h2 : n ≤ 8388608) : Met l yJ7_copyOf_c38d5 (ws_ yJ7_copyOf_c38d5 cJ7_copyOf_c38d5 3 (some (.array .long))) { frames := 1, cells := 1, slots := n, locals := 40 } (PR D yc e0 [(x, .inl (yc 1, cp, .inr (.inl f)))] sz [.ref x, .int (nI n)]) ((fun A => va_Qq (fun r u => r = some (u 0 0)) (WD D A (fun u => [(x, .inl (yc 1, cp, .inr (.inl f))), ((u 0 0), .inl (yc 1, n, .inr (.inl (va_cpy f (fun _ => 0) (0 : Int32).toNatClampNeg (0 : Int32).toNatClampNeg (nI cp : Int32).toNatClampNeg))))])) A) (va_A [(x, .inl (yc 1, cp, .inr (.inl f)))] sz)) 1 n (va_A [(x, .inl (yc 1, cp, .inr (.inl f)))] sz) := by
  refine zk_M (y := yJ7_copyOf_c38d5) (cc := cJ7_copyOf_c38d5) (maxL := 3) (w := [(x, .inl (yc 1, cp, .inr (.inl f)))]) (av := [.ref x, .int (nI n)]) (Qc := (fun A => va_Qq (fun r u => r = some (u 0 0)) (WD D A (fun u => [(x, .inl (yc 1, cp, .inr (.inl f))), ((u 0 0), .inl (yc 1, n, .inr (.inl (va_cpy f (fun _ => 0) (0 : Int32).toNatClampNeg (0 : Int32).toNatClampNeg (nI cp : Int32).toNatClampNeg))))])) A)) (by decide) (Nat.le_of_ble_eq_true rfl) ?_
  intro p e s m args below meth c A ls hx hb hml hr hlk hown hnm hts hP hD hS hA hC hl
  have hK := hC.1
  have hN := hC.2.1
  have hl : lv_has ls 3 [(0, .ref x), (1, .int (nI n))] := hl
  refine lv_iload_n hx hb dJ7_copyOf_c38d5_0 rfl (lv_at hl 1 rfl) ?_
  refine lv_aload_n hx hb dJ7_copyOf_c38d5_1 rfl (lv_at hl 0 rfl) ?_
  refine va_alen hx hb hK hP 0 1 rfl rfl (v := nI cp) rfl dJ7_copyOf_c38d5_2 ?_
  refine lv_icmp_ne (tgt := 14) hx hb dJ7_copyOf_c38d5_3 (by decide) (fun _ => ?_) (fun h9 => absurd h9 (fun e9 => by have := (nI_eq (by omega) (by omega)).mp e9; omega))
  refine lv_iload_n hx hb dJ7_copyOf_c38d5_14 rfl (lv_at hl 1 rfl) ?_
  refine va_newa (atype := .long) (a0 := (n, .inr (.inl (fun _ => 0)))) hx hb (hts _ wq587) rfl hK hP hD hS hA (fun cA => rfl) (nI_pos (by omega)) (N' := n) (nI_clamp (by omega)) (by show n * 8 ≤ 536870912; omega) (by show 0 + 1 ≤ 1; omega) (by show 0 + n ≤ n; omega) dJ7_copyOf_c38d5_15 (fun q1 cA H hK1 hP hD hS => ?_)
  obtain rfl : cA = yc 1 := zk_same hK1 3 1 rfl rfl
  have hP : va_P D vwCl [(x, .inl (yc 1, cp, .inr (.inl f))), (q1, .inl (yc 1, n, .inr (.inl (fun _ => 0))))] H := hP
  have hD : va_D A [(x, .inl (yc 1, cp, .inr (.inl f))), (q1, .inl (yc 1, n, .inr (.inl (fun _ => 0))))] := hD
  refine lv_astore_n (lv' := [(2, .ref q1), (0, .ref x), (1, .int (nI n))]) hx hb dJ7_copyOf_c38d5_17 rfl hl (by decide) rfl (fun ls hl => ?_)
  refine lv_aload_n hx hb dJ7_copyOf_c38d5_18 rfl (lv_at hl 1 rfl) ?_
  refine lv_iconst (v := 0) hx hb dJ7_copyOf_c38d5_19 (by decide) ?_
  refine lv_aload_n hx hb dJ7_copyOf_c38d5_20 rfl (lv_at hl 0 rfl) ?_
  refine lv_iconst (v := 0) hx hb dJ7_copyOf_c38d5_21 (by decide) ?_
  refine lv_aload_n hx hb dJ7_copyOf_c38d5_22 rfl (lv_at hl 1 rfl) ?_
  refine va_alen hx hb hK hP 0 1 rfl rfl (v := nI cp) rfl dJ7_copyOf_c38d5_23 ?_
  refine lv_iload_n hx hb dJ7_copyOf_c38d5_24 rfl (lv_at hl 2 rfl) ?_
  refine va_mmin hx hb (by rw [hml]; exact hl.1.symm) hown (hts _ wq359) (hts _ wq300) (hts _ wq14) (hts _ wq301) (Nat.le_of_ble_eq_true rfl) (Nat.le_of_ble_eq_true rfl) (by first | exact (Nat.le_of_ble_eq_true rfl) | exact Nat.zero_le _ | omega | (dsimp only; omega)) (by first | exact (Nat.le_of_ble_eq_true rfl) | exact Nat.zero_le _ | omega | (dsimp only; omega)) dJ7_copyOf_c38d5_25 ?_
  refine zk_ti (y := zmin (nI cp) (nI n)) rfl ?_
  refine zk_ti (y := nI cp) (zmin_l (by omega) (by omega)) ?_
  refine va_copyl (ty := .long) hx hb (by rw [hml]; exact hl.1.symm) hown (hts _ wq360) (hts _ wq327) (hts _ wq326) (hts _ wq20) hK hP hD hS 0 1 1 1 rfl rfl rfl rfl rfl (by decide) (by decide) (nI_pos (by omega)) (by rw [zc0, nI_clamp (by omega)]; omega) (by rw [zc0, nI_clamp (by omega)]; omega) (fun _ _ => rfl) (Nat.le_of_ble_eq_true rfl) (Nat.le_of_ble_eq_true rfl) dJ7_copyOf_c38d5_28 (fun H locs hP hD hS => ?_)
  have hP : va_P D vwCl [(x, .inl (yc 1, cp, .inr (.inl f))), (q1, .inl (yc 1, n, .inr (.inl (va_cpy f (fun _ => 0) (0 : Int32).toNatClampNeg (0 : Int32).toNatClampNeg (nI cp : Int32).toNatClampNeg))))] H := hP
  have hD : va_D A [(x, .inl (yc 1, cp, .inr (.inl f))), (q1, .inl (yc 1, n, .inr (.inl (va_cpy f (fun _ => 0) (0 : Int32).toNatClampNeg (0 : Int32).toNatClampNeg (nI cp : Int32).toNatClampNeg))))] := hD
  refine lv_aload_n hx hb dJ7_copyOf_c38d5_31 rfl (lv_at hl 0 rfl) ?_
  exact zk_rq (r0 := (fun u => some (u 0 0))) (w1 := (fun u => [(x, .inl (yc 1, cp, .inr (.inl f))), ((u 0 0), .inl (yc 1, n, .inr (.inl (va_cpy f (fun _ => 0) (0 : Int32).toNatClampNeg (0 : Int32).toNatClampNeg (nI cp : Int32).toNatClampNeg))))])) hx hb hr (Or.inr ⟨_, rfl⟩) hlk hP hD hS (fun _ _ => q1) rfl [0, 1] rfl rfl (Nat.le_of_ble_eq_true rfl) (by show 0 + n ≤ n; omega) dJ7_copyOf_c38d5_32
set_option maxHeartbeats 4000000 in
set_option maxRecDepth 100000 in
theorem l_put (l : Launch) (D : va_G) (yc : Nat → ClassId) (e0 : Nat) (r : Nat) (x : Nat) (cp : Nat) (xs : List Int64) (f : Nat → Int64) (sz : Nat) (j : Nat) (v : Int64) (hle : xs.length ≤ cp) (hcp : cp ≤ 8388608) (hf : RC (cp, xs) f) (hj : j < xs.length) : Met l yX6_put (ws_ yX6_put cX6_put 4 none) { frames := 0, cells := 0, slots := 0, locals := 0 } (PR D yc e0 [(r, .inr (5, [.ref x, .int (nI xs.length)])), (x, .inl (yc 1, cp, .inr (.inl f)))] sz [.ref r, .int (nI j), .long v]) ((fun A => RQ D yc A r [] (cp, xs.set j v)) (va_A [(r, .inr (5, [.ref x, .int (nI xs.length)])), (x, .inl (yc 1, cp, .inr (.inl f)))] sz)) 0 0 (va_A [(r, .inr (5, [.ref x, .int (nI xs.length)])), (x, .inl (yc 1, cp, .inr (.inl f)))] sz) := by
  refine zk_M (y := yX6_put) (cc := cX6_put) (maxL := 4) (w := [(r, .inr (5, [.ref x, .int (nI xs.length)])), (x, .inl (yc 1, cp, .inr (.inl f)))]) (av := [.ref r, .int (nI j), .long v]) (Qc := (fun A => RQ D yc A r [] (cp, xs.set j v))) (by decide) (Nat.le_of_ble_eq_true rfl) ?_
  intro p e s m args below meth c A ls hx hb hml hr hlk hown hnm hts hP hD hS hA hC hl
  have hK := hC.1
  have hN := hC.2.1
  have hl : lv_has ls 4 [(0, .ref r), (1, .int (nI j)), (2, .long v)] := hl
  refine lv_iload_n hx hb dX6_put_0 rfl (lv_at hl 1 rfl) ?_
  refine lv_if_lt (tgt := 28) hx hb dX6_put_1 (by decide) (fun h9 => absurd h9 (nI_pos (by omega))) (fun _ => ?_)
  refine lv_iload_n hx hb dX6_put_4 rfl (lv_at hl 1 rfl) ?_
  refine lv_aload_n hx hb dX6_put_5 rfl (lv_at hl 0 rfl) ?_
  refine va_get (D := D) (ci := 5) (v := .int (nI xs.length)) (C := RX6) (T := TX6) (N := 2) hx hb hts iX6 hown hK hP 0 rfl rfl 1 (by decide) (hts _ wq914) (fun _ h9 => h9) rfl dX6_put_6 ?_
  refine lv_icmp_ge (tgt := 28) hx hb dX6_put_9 (by decide) (fun h9 => absurd h9 (nI_ge (by omega) (by omega))) (fun _ => ?_)
  refine lv_iload_n hx hb dX6_put_12 rfl (lv_at hl 1 rfl) ?_
  refine lv_aload_n hx hb dX6_put_13 rfl (lv_at hl 0 rfl) ?_
  refine va_get (D := D) (ci := 5) (v := .ref x) (C := RX6) (T := TX6) (N := 2) hx hb hts iX6 hown hK hP 0 rfl rfl 0 (by decide) (hts _ wq913) (fun _ h9 => h9) rfl dX6_put_14 ?_
  refine va_alen hx hb hK hP 1 1 rfl rfl (v := nI cp) rfl dX6_put_17 ?_
  refine lv_icmp_ge (tgt := 28) hx hb dX6_put_18 (by decide) (fun h9 => absurd h9 (nI_ge (by omega) (by omega))) (fun _ => ?_)
  refine lv_aload_n hx hb dX6_put_21 rfl (lv_at hl 0 rfl) ?_
  refine va_get (D := D) (ci := 5) (v := .ref x) (C := RX6) (T := TX6) (N := 2) hx hb hts iX6 hown hK hP 0 rfl rfl 0 (by decide) (hts _ wq913) (fun _ h9 => h9) rfl dX6_put_22 ?_
  refine lv_iload_n hx hb dX6_put_25 rfl (lv_at hl 1 rfl) ?_
  refine lv_lload_n hx hb dX6_put_26 rfl (lv_at hl 2 rfl) ?_
  refine va_last hx hb hK hP hD hS 1 1 rfl rfl (vp_in_nI (by omega) (by omega)) dX6_put_27 (fun H locs hP hD hS => ?_)
  have hP : va_P D vwCl [(r, .inr (5, [.ref x, .int (nI xs.length)])), (x, .inl (yc 1, cp, .inr (.inl (vp_updL f (nI j : Int32).toNatClampNeg v))))] H := hP
  have hD : va_D A [(r, .inr (5, [.ref x, .int (nI xs.length)])), (x, .inl (yc 1, cp, .inr (.inl (vp_updL f (nI j : Int32).toNatClampNeg v))))] := hD
  exact te_row hx hb hr hlk hP hD hS x (vp_updL f (nI j : Int32).toNatClampNeg v) xs.length List.length_set (rc_put hf hj (by omega)) [0, 1] rfl rfl (by first | exact (Nat.le_of_ble_eq_true rfl) | exact Nat.zero_le _ | omega | (dsimp only; omega)) (by first | exact (Nat.le_of_ble_eq_true rfl) | exact Nat.zero_le _ | omega | (dsimp only; omega)) dX6_put_28
set_option maxHeartbeats 4000000 in
set_option maxRecDepth 100000 in
theorem l_put0 (l : Launch) (D : va_G) (yc : Nat → ClassId) (e0 : Nat) (r : Nat) (x : Nat) (cp : Nat) (xs : List Int64) (f : Nat → Int64) (sz : Nat) (j : Nat) (v : Int64) (hle : xs.length ≤ cp) (hcp : cp ≤ 8388608) (hf : RC (cp, xs) f) (hj : xs.length ≤ j) (hj2 : j < 2 ^ 31) : Met l yX6_put (ws_ yX6_put cX6_put 4 none) { frames := 0, cells := 0, slots := 0, locals := 0 } (PR D yc e0 [(r, .inr (5, [.ref x, .int (nI xs.length)])), (x, .inl (yc 1, cp, .inr (.inl f)))] sz [.ref r, .int (nI j), .long v]) ((fun A => RQ D yc A r [] (cp, xs)) (va_A [(r, .inr (5, [.ref x, .int (nI xs.length)])), (x, .inl (yc 1, cp, .inr (.inl f)))] sz)) 0 0 (va_A [(r, .inr (5, [.ref x, .int (nI xs.length)])), (x, .inl (yc 1, cp, .inr (.inl f)))] sz) := by
  refine zk_M (y := yX6_put) (cc := cX6_put) (maxL := 4) (w := [(r, .inr (5, [.ref x, .int (nI xs.length)])), (x, .inl (yc 1, cp, .inr (.inl f)))]) (av := [.ref r, .int (nI j), .long v]) (Qc := (fun A => RQ D yc A r [] (cp, xs))) (by decide) (Nat.le_of_ble_eq_true rfl) ?_
  intro p e s m args below meth c A ls hx hb hml hr hlk hown hnm hts hP hD hS hA hC hl
  have hK := hC.1
  have hN := hC.2.1
  have hl : lv_has ls 4 [(0, .ref r), (1, .int (nI j)), (2, .long v)] := hl
  refine lv_iload_n hx hb dX6_put_0 rfl (lv_at hl 1 rfl) ?_
  refine lv_if_lt (tgt := 28) hx hb dX6_put_1 (by decide) (fun h9 => absurd h9 (nI_pos (by omega))) (fun _ => ?_)
  refine lv_iload_n hx hb dX6_put_4 rfl (lv_at hl 1 rfl) ?_
  refine lv_aload_n hx hb dX6_put_5 rfl (lv_at hl 0 rfl) ?_
  refine va_get (D := D) (ci := 5) (v := .int (nI xs.length)) (C := RX6) (T := TX6) (N := 2) hx hb hts iX6 hown hK hP 0 rfl rfl 1 (by decide) (hts _ wq914) (fun _ h9 => h9) rfl dX6_put_6 ?_
  refine lv_icmp_ge (tgt := 28) hx hb dX6_put_9 (by decide) (fun _ => ?_) (fun h9 => absurd (nI_le (by omega) (by omega)) h9)
  exact te_row hx hb hr hlk hP hD hS x f xs.length rfl hf [0, 1] rfl rfl (by first | exact (Nat.le_of_ble_eq_true rfl) | exact Nat.zero_le _ | omega | (dsimp only; omega)) (by first | exact (Nat.le_of_ble_eq_true rfl) | exact Nat.zero_le _ | omega | (dsimp only; omega)) dX6_put_28
set_option maxHeartbeats 4000000 in
set_option maxRecDepth 100000 in
theorem l_add (l : Launch) (D : va_G) (yc : Nat → ClassId) (e0 : Nat) (r : Nat) (x : Nat) (cp : Nat) (xs : List Int64) (f : Nat → Int64) (sz : Nat) (v : Int64) (hle : xs.length ≤ cp) (hcp : cp ≤ 8388608) (hf : RC (cp, xs) f) (hn : xs.length < cp) : Met l yX6_add (ws_ yX6_add cX6_add 3 none) { frames := 0, cells := 0, slots := 0, locals := 0 } (PR D yc e0 [(r, .inr (5, [.ref x, .int (nI xs.length)])), (x, .inl (yc 1, cp, .inr (.inl f)))] sz [.ref r, .long v]) ((fun A => RQ D yc A r [] (cp, xs ++ [v])) (va_A [(r, .inr (5, [.ref x, .int (nI xs.length)])), (x, .inl (yc 1, cp, .inr (.inl f)))] sz)) 0 0 (va_A [(r, .inr (5, [.ref x, .int (nI xs.length)])), (x, .inl (yc 1, cp, .inr (.inl f)))] sz) := by
  refine zk_M (y := yX6_add) (cc := cX6_add) (maxL := 3) (w := [(r, .inr (5, [.ref x, .int (nI xs.length)])), (x, .inl (yc 1, cp, .inr (.inl f)))]) (av := [.ref r, .long v]) (Qc := (fun A => RQ D yc A r [] (cp, xs ++ [v]))) (by decide) (Nat.le_of_ble_eq_true rfl) ?_
  intro p e s m args below meth c A ls hx hb hml hr hlk hown hnm hts hP hD hS hA hC hl
  have hK := hC.1
  have hN := hC.2.1
  have hl : lv_has ls 3 [(0, .ref r), (1, .long v)] := hl
  refine lv_aload_n hx hb dX6_add_0 rfl (lv_at hl 0 rfl) ?_
  refine va_get (D := D) (ci := 5) (v := .int (nI xs.length)) (C := RX6) (T := TX6) (N := 2) hx hb hts iX6 hown hK hP 0 rfl rfl 1 (by decide) (hts _ wq914) (fun _ h9 => h9) rfl dX6_add_1 ?_
  refine lv_aload_n hx hb dX6_add_4 rfl (lv_at hl 0 rfl) ?_
  refine va_get (D := D) (ci := 5) (v := .ref x) (C := RX6) (T := TX6) (N := 2) hx hb hts iX6 hown hK hP 0 rfl rfl 0 (by decide) (hts _ wq913) (fun _ h9 => h9) rfl dX6_add_5 ?_
  refine va_alen hx hb hK hP 1 1 rfl rfl (v := nI cp) rfl dX6_add_8 ?_
  refine lv_icmp_lt (tgt := 40) hx hb dX6_add_9 (by decide) (fun _ => ?_) (fun h9 => absurd (nI_lt (by omega) (by omega)) h9)
  refine lv_aload_n hx hb dX6_add_40 rfl (lv_at hl 0 rfl) ?_
  refine va_get (D := D) (ci := 5) (v := .int (nI xs.length)) (C := RX6) (T := TX6) (N := 2) hx hb hts iX6 hown hK hP 0 rfl rfl 1 (by decide) (hts _ wq914) (fun _ h9 => h9) rfl dX6_add_41 ?_
  refine lv_if_lt (tgt := 79) hx hb dX6_add_44 (by decide) (fun h9 => absurd h9 (nI_pos (by omega))) (fun _ => ?_)
  refine lv_aload_n hx hb dX6_add_47 rfl (lv_at hl 0 rfl) ?_
  refine va_get (D := D) (ci := 5) (v := .int (nI xs.length)) (C := RX6) (T := TX6) (N := 2) hx hb hts iX6 hown hK hP 0 rfl rfl 1 (by decide) (hts _ wq914) (fun _ h9 => h9) rfl dX6_add_48 ?_
  refine lv_aload_n hx hb dX6_add_51 rfl (lv_at hl 0 rfl) ?_
  refine va_get (D := D) (ci := 5) (v := .ref x) (C := RX6) (T := TX6) (N := 2) hx hb hts iX6 hown hK hP 0 rfl rfl 0 (by decide) (hts _ wq913) (fun _ h9 => h9) rfl dX6_add_52 ?_
  refine va_alen hx hb hK hP 1 1 rfl rfl (v := nI cp) rfl dX6_add_55 ?_
  refine lv_icmp_ge (tgt := 79) hx hb dX6_add_56 (by decide) (fun h9 => absurd h9 (nI_ge (by omega) (by omega))) (fun _ => ?_)
  refine lv_aload_n hx hb dX6_add_59 rfl (lv_at hl 0 rfl) ?_
  refine va_get (D := D) (ci := 5) (v := .ref x) (C := RX6) (T := TX6) (N := 2) hx hb hts iX6 hown hK hP 0 rfl rfl 0 (by decide) (hts _ wq913) (fun _ h9 => h9) rfl dX6_add_60 ?_
  refine lv_aload_n hx hb dX6_add_63 rfl (lv_at hl 0 rfl) ?_
  refine va_get (D := D) (ci := 5) (v := .int (nI xs.length)) (C := RX6) (T := TX6) (N := 2) hx hb hts iX6 hown hK hP 0 rfl rfl 1 (by decide) (hts _ wq914) (fun _ h9 => h9) rfl dX6_add_64 ?_
  refine lv_lload_n hx hb dX6_add_67 rfl (lv_at hl 1 rfl) ?_
  refine va_last hx hb hK hP hD hS 1 1 rfl rfl (vp_in_nI (by omega) (by omega)) dX6_add_68 (fun H locs hP hD hS => ?_)
  have hP : va_P D vwCl [(r, .inr (5, [.ref x, .int (nI xs.length)])), (x, .inl (yc 1, cp, .inr (.inl (vp_updL f (nI xs.length : Int32).toNatClampNeg v))))] H := hP
  have hD : va_D A [(r, .inr (5, [.ref x, .int (nI xs.length)])), (x, .inl (yc 1, cp, .inr (.inl (vp_updL f (nI xs.length : Int32).toNatClampNeg v))))] := hD
  refine lv_aload_n hx hb dX6_add_69 rfl (lv_at hl 0 rfl) ?_
  refine lv_dup hx hb dX6_add_70 rfl ?_
  refine va_get (D := D) (ci := 5) (v := .int (nI xs.length)) (C := RX6) (T := TX6) (N := 2) hx hb hts iX6 hown hK hP 0 rfl rfl 1 (by decide) (hts _ wq914) (fun _ h9 => h9) rfl dX6_add_71 ?_
  refine lv_iconst (v := 1) hx hb dX6_add_74 (by decide) ?_
  refine lv_iadd hx hb dX6_add_75 ?_
  refine zk_ti (y := nI (xs.length + 1)) (nI_1 _) ?_
  refine va_put (D := D) (ci := 5) (v := .int (nI (xs.length + 1))) (ty := .int) (C := RX6) (T := TX6) (N := 2) hx hb hts iX6 tyX6 tyX6_ok nmX6 hown hK hP hD hS 0 rfl rfl 1 (by decide) (hts _ wq914) (fun _ h9 => h9) rfl (by decide +kernel) rfl rfl (Nat.le_of_ble_eq_true rfl) dX6_add_76 (fun H locs hP hD hS => ?_)
  have hP : va_P D vwCl [(r, .inr (5, [.ref x, .int (nI (xs.length + 1))])), (x, .inl (yc 1, cp, .inr (.inl (vp_updL f (nI xs.length : Int32).toNatClampNeg v))))] H := hP
  have hD : va_D A [(r, .inr (5, [.ref x, .int (nI (xs.length + 1))])), (x, .inl (yc 1, cp, .inr (.inl (vp_updL f (nI xs.length : Int32).toNatClampNeg v))))] := hD
  exact te_row hx hb hr hlk hP hD hS x (vp_updL f (nI xs.length : Int32).toNatClampNeg v) (xs.length + 1) (by simp) (rc_add hf (by omega)) [0, 1] rfl rfl (by first | exact (Nat.le_of_ble_eq_true rfl) | exact Nat.zero_le _ | omega | (dsimp only; omega)) (by first | exact (Nat.le_of_ble_eq_true rfl) | exact Nat.zero_le _ | omega | (dsimp only; omega)) dX6_add_79
set_option maxHeartbeats 4000000 in
set_option maxRecDepth 100000 in
theorem l_addG (l : Launch) (D : va_G) (yc : Nat → ClassId) (e0 : Nat) (r : Nat) (x : Nat) (cp : Nat) (xs : List Int64) (f : Nat → Int64) (sz : Nat) (v : Int64) (hle : xs.length ≤ cp) (hcp : cp ≤ 8388608) (hf : RC (cp, xs) f) (hn : xs.length = cp) (h4 : 8 ≤ cp ∧ cp ≤ 4000000) : Met l yX6_add (ws_ yX6_add cX6_add 3 none) { frames := 2, cells := 1, slots := (2 * cp), locals := 62 } (PR D yc e0 [(r, .inr (5, [.ref x, .int (nI xs.length)])), (x, .inl (yc 1, cp, .inr (.inl f)))] sz [.ref r, .long v]) ((fun A => RQ D yc A r [] (2 * cp, xs ++ [v])) (va_A [(r, .inr (5, [.ref x, .int (nI xs.length)])), (x, .inl (yc 1, cp, .inr (.inl f)))] sz)) 1 (2 * cp) (va_A [(r, .inr (5, [.ref x, .int (nI xs.length)])), (x, .inl (yc 1, cp, .inr (.inl f)))] sz) := by
  refine zk_M (y := yX6_add) (cc := cX6_add) (maxL := 3) (w := [(r, .inr (5, [.ref x, .int (nI xs.length)])), (x, .inl (yc 1, cp, .inr (.inl f)))]) (av := [.ref r, .long v]) (Qc := (fun A => RQ D yc A r [] (2 * cp, xs ++ [v]))) (by decide) (Nat.le_of_ble_eq_true rfl) ?_
  intro p e s m args below meth c A ls hx hb hml hr hlk hown hnm hts hP hD hS hA hC hl
  have hK := hC.1
  have hN := hC.2.1
  have hl : lv_has ls 3 [(0, .ref r), (1, .long v)] := hl
  refine lv_aload_n hx hb dX6_add_0 rfl (lv_at hl 0 rfl) ?_
  refine va_get (D := D) (ci := 5) (v := .int (nI xs.length)) (C := RX6) (T := TX6) (N := 2) hx hb hts iX6 hown hK hP 0 rfl rfl 1 (by decide) (hts _ wq914) (fun _ h9 => h9) rfl dX6_add_1 ?_
  refine lv_aload_n hx hb dX6_add_4 rfl (lv_at hl 0 rfl) ?_
  refine va_get (D := D) (ci := 5) (v := .ref x) (C := RX6) (T := TX6) (N := 2) hx hb hts iX6 hown hK hP 0 rfl rfl 0 (by decide) (hts _ wq913) (fun _ h9 => h9) rfl dX6_add_5 ?_
  refine va_alen hx hb hK hP 1 1 rfl rfl (v := nI cp) rfl dX6_add_8 ?_
  refine lv_icmp_lt (tgt := 40) hx hb dX6_add_9 (by decide) (fun h9 => absurd h9 (nI_nlt (by omega) (by omega))) (fun _ => ?_)
  refine lv_aload_n hx hb dX6_add_12 rfl (lv_at hl 0 rfl) ?_
  refine va_get (D := D) (ci := 5) (v := .ref x) (C := RX6) (T := TX6) (N := 2) hx hb hts iX6 hown hK hP 0 rfl rfl 0 (by decide) (hts _ wq913) (fun _ h9 => h9) rfl dX6_add_13 ?_
  refine va_alen hx hb hK hP 1 1 rfl rfl (v := nI cp) rfl dX6_add_16 ?_
  refine lv_ldc hx hb hown (hts _ wq348) dX6_add_17 ?_
  refine lv_icmp_ge (tgt := 40) hx hb dX6_add_19 (by decide) (fun h9 => absurd h9 (show ¬ nI 8388608 ≤ nI cp from nI_ge (by omega) (by omega))) (fun _ => ?_)
  refine lv_aload_n hx hb dX6_add_22 rfl (lv_at hl 0 rfl) ?_
  refine lv_aload_n hx hb dX6_add_23 rfl (lv_at hl 0 rfl) ?_
  refine va_get (D := D) (ci := 5) (v := .ref x) (C := RX6) (T := TX6) (N := 2) hx hb hts iX6 hown hK hP 0 rfl rfl 0 (by decide) (hts _ wq913) (fun _ h9 => h9) rfl dX6_add_24 ?_
  refine lv_aload_n hx hb dX6_add_27 rfl (lv_at hl 0 rfl) ?_
  refine va_get (D := D) (ci := 5) (v := .ref x) (C := RX6) (T := TX6) (N := 2) hx hb hts iX6 hown hK hP 0 rfl rfl 0 (by decide) (hts _ wq913) (fun _ h9 => h9) rfl dX6_add_28 ?_
  refine va_alen hx hb hK hP 1 1 rfl rfl (v := nI cp) rfl dX6_add_31 ?_
  refine lv_iconst (v := 2) hx hb dX6_add_32 (by decide) ?_
  refine lv_imul hx hb dX6_add_33 ?_
  refine zk_ti (y := nI (2 * cp)) (by rw [show (2 : Int32) = nI 2 from rfl, pk_mul, Nat.mul_comm]) ?_
  refine zk_q (wr := [(r, .inr (5, [.ref x, .int (nI xs.length)]))]) (va_runS (As := [.ref x, .int (nI (2 * cp))]) (rest := [.ref r]) ⟨hx, hb, hml, hown, hts⟩ (l_copyOf l D yc e0 x cp f s.heap.size (2 * cp) (by omega) (by omega)) (va_cwS 2 hts (lw_S wq349 wq350 wq19 wq351) rfl rfl rfl (by decide +kernel) ⟨(Nat.le_of_ble_eq_true rfl), (Nat.le_of_ble_eq_true rfl)⟩) (zk_pS hC hP hD hS hA [1] rfl rfl) rfl rfl hl.1 rfl (lv_room (Nat.le_of_ble_eq_true rfl)) dX6_add_34 ⟨(by show 0 + 1 ≤ 1; omega), (by show 0 + (2 * cp) ≤ (2 * cp); omega)⟩) hP hD hS hA [1] [0] rfl rfl rfl (by decide) (fun u1 H locs hP hD hS => ?_)
  have hP : va_P D vwCl [(r, .inr (5, [.ref x, .int (nI xs.length)])), (x, .inl (yc 1, cp, .inr (.inl f))), ((u1 0 0), .inl (yc 1, (2 * cp), .inr (.inl (va_cpy f (fun _ => 0) (0 : Int32).toNatClampNeg (0 : Int32).toNatClampNeg (nI cp : Int32).toNatClampNeg))))] H := hP
  have hD : va_D A [(r, .inr (5, [.ref x, .int (nI xs.length)])), (x, .inl (yc 1, cp, .inr (.inl f))), ((u1 0 0), .inl (yc 1, (2 * cp), .inr (.inl (va_cpy f (fun _ => 0) (0 : Int32).toNatClampNeg (0 : Int32).toNatClampNeg (nI cp : Int32).toNatClampNeg))))] := hD
  refine zk_tv (y := .ref (u1 0 0)) rfl ?_
  refine va_put (D := D) (ci := 5) (v := .ref (u1 0 0)) (ty := (.array .long)) (C := RX6) (T := TX6) (N := 2) hx hb hts iX6 tyX6 tyX6_ok nmX6 hown hK hP hD hS 0 rfl rfl 0 (by decide) (hts _ wq913) (fun _ h9 => h9) rfl (by decide +kernel) rfl rfl (Nat.le_of_ble_eq_true rfl) dX6_add_37 (fun H locs hP hD hS => ?_)
  have hP : va_P D vwCl [(r, .inr (5, [.ref (u1 0 0), .int (nI xs.length)])), (x, .inl (yc 1, cp, .inr (.inl f))), ((u1 0 0), .inl (yc 1, (2 * cp), .inr (.inl (va_cpy f (fun _ => 0) (0 : Int32).toNatClampNeg (0 : Int32).toNatClampNeg (nI cp : Int32).toNatClampNeg))))] H := hP
  have hD : va_D A [(r, .inr (5, [.ref (u1 0 0), .int (nI xs.length)])), (x, .inl (yc 1, cp, .inr (.inl f))), ((u1 0 0), .inl (yc 1, (2 * cp), .inr (.inl (va_cpy f (fun _ => 0) (0 : Int32).toNatClampNeg (0 : Int32).toNatClampNeg (nI cp : Int32).toNatClampNeg))))] := hD
  refine lv_aload_n hx hb dX6_add_40 rfl (lv_at hl 0 rfl) ?_
  refine va_get (D := D) (ci := 5) (v := .int (nI xs.length)) (C := RX6) (T := TX6) (N := 2) hx hb hts iX6 hown hK hP 0 rfl rfl 1 (by decide) (hts _ wq914) (fun _ h9 => h9) rfl dX6_add_41 ?_
  refine lv_if_lt (tgt := 79) hx hb dX6_add_44 (by decide) (fun h9 => absurd h9 (nI_pos (by omega))) (fun _ => ?_)
  refine lv_aload_n hx hb dX6_add_47 rfl (lv_at hl 0 rfl) ?_
  refine va_get (D := D) (ci := 5) (v := .int (nI xs.length)) (C := RX6) (T := TX6) (N := 2) hx hb hts iX6 hown hK hP 0 rfl rfl 1 (by decide) (hts _ wq914) (fun _ h9 => h9) rfl dX6_add_48 ?_
  refine lv_aload_n hx hb dX6_add_51 rfl (lv_at hl 0 rfl) ?_
  refine va_get (D := D) (ci := 5) (v := .ref (u1 0 0)) (C := RX6) (T := TX6) (N := 2) hx hb hts iX6 hown hK hP 0 rfl rfl 0 (by decide) (hts _ wq913) (fun _ h9 => h9) rfl dX6_add_52 ?_
  refine va_alen hx hb hK hP 2 1 rfl rfl (v := nI (2 * cp)) rfl dX6_add_55 ?_
  refine lv_icmp_ge (tgt := 79) hx hb dX6_add_56 (by decide) (fun h9 => absurd h9 (nI_ge (by omega) (by omega))) (fun _ => ?_)
  refine lv_aload_n hx hb dX6_add_59 rfl (lv_at hl 0 rfl) ?_
  refine va_get (D := D) (ci := 5) (v := .ref (u1 0 0)) (C := RX6) (T := TX6) (N := 2) hx hb hts iX6 hown hK hP 0 rfl rfl 0 (by decide) (hts _ wq913) (fun _ h9 => h9) rfl dX6_add_60 ?_
  refine lv_aload_n hx hb dX6_add_63 rfl (lv_at hl 0 rfl) ?_
  refine va_get (D := D) (ci := 5) (v := .int (nI xs.length)) (C := RX6) (T := TX6) (N := 2) hx hb hts iX6 hown hK hP 0 rfl rfl 1 (by decide) (hts _ wq914) (fun _ h9 => h9) rfl dX6_add_64 ?_
  refine lv_lload_n hx hb dX6_add_67 rfl (lv_at hl 1 rfl) ?_
  refine va_last hx hb hK hP hD hS 2 1 rfl rfl (vp_in_nI (by omega) (by omega)) dX6_add_68 (fun H locs hP hD hS => ?_)
  have hP : va_P D vwCl [(r, .inr (5, [.ref (u1 0 0), .int (nI xs.length)])), (x, .inl (yc 1, cp, .inr (.inl f))), ((u1 0 0), .inl (yc 1, (2 * cp), .inr (.inl (vp_updL (va_cpy f (fun _ => 0) (0 : Int32).toNatClampNeg (0 : Int32).toNatClampNeg (nI cp : Int32).toNatClampNeg) (nI xs.length : Int32).toNatClampNeg v))))] H := hP
  have hD : va_D A [(r, .inr (5, [.ref (u1 0 0), .int (nI xs.length)])), (x, .inl (yc 1, cp, .inr (.inl f))), ((u1 0 0), .inl (yc 1, (2 * cp), .inr (.inl (vp_updL (va_cpy f (fun _ => 0) (0 : Int32).toNatClampNeg (0 : Int32).toNatClampNeg (nI cp : Int32).toNatClampNeg) (nI xs.length : Int32).toNatClampNeg v))))] := hD
  refine lv_aload_n hx hb dX6_add_69 rfl (lv_at hl 0 rfl) ?_
  refine lv_dup hx hb dX6_add_70 rfl ?_
  refine va_get (D := D) (ci := 5) (v := .int (nI xs.length)) (C := RX6) (T := TX6) (N := 2) hx hb hts iX6 hown hK hP 0 rfl rfl 1 (by decide) (hts _ wq914) (fun _ h9 => h9) rfl dX6_add_71 ?_
  refine lv_iconst (v := 1) hx hb dX6_add_74 (by decide) ?_
  refine lv_iadd hx hb dX6_add_75 ?_
  refine zk_ti (y := nI (xs.length + 1)) (nI_1 _) ?_
  refine va_put (D := D) (ci := 5) (v := .int (nI (xs.length + 1))) (ty := .int) (C := RX6) (T := TX6) (N := 2) hx hb hts iX6 tyX6 tyX6_ok nmX6 hown hK hP hD hS 0 rfl rfl 1 (by decide) (hts _ wq914) (fun _ h9 => h9) rfl (by decide +kernel) rfl rfl (Nat.le_of_ble_eq_true rfl) dX6_add_76 (fun H locs hP hD hS => ?_)
  have hP : va_P D vwCl [(r, .inr (5, [.ref (u1 0 0), .int (nI (xs.length + 1))])), (x, .inl (yc 1, cp, .inr (.inl f))), ((u1 0 0), .inl (yc 1, (2 * cp), .inr (.inl (vp_updL (va_cpy f (fun _ => 0) (0 : Int32).toNatClampNeg (0 : Int32).toNatClampNeg (nI cp : Int32).toNatClampNeg) (nI xs.length : Int32).toNatClampNeg v))))] H := hP
  have hD : va_D A [(r, .inr (5, [.ref (u1 0 0), .int (nI (xs.length + 1))])), (x, .inl (yc 1, cp, .inr (.inl f))), ((u1 0 0), .inl (yc 1, (2 * cp), .inr (.inl (vp_updL (va_cpy f (fun _ => 0) (0 : Int32).toNatClampNeg (0 : Int32).toNatClampNeg (nI cp : Int32).toNatClampNeg) (nI xs.length : Int32).toNatClampNeg v))))] := hD
  exact te_row hx hb hr hlk hP hD hS (u1 0 0) (vp_updL (va_cpy f (fun _ => 0) (0 : Int32).toNatClampNeg (0 : Int32).toNatClampNeg (nI cp : Int32).toNatClampNeg) (nI xs.length : Int32).toNatClampNeg v) (xs.length + 1) (by simp) (rc_add (rc_grow (cq := 2 * cp) hf hle (by omega)) (by omega)) [0, 2] rfl rfl (by first | exact (Nat.le_of_ble_eq_true rfl) | exact Nat.zero_le _ | omega | (dsimp only; omega)) (by first | exact (Nat.le_of_ble_eq_true rfl) | exact Nat.zero_le _ | omega | (dsimp only; omega)) dX6_add_79
set_option maxHeartbeats 4000000 in
set_option maxRecDepth 100000 in
theorem l_ins (l : Launch) (D : va_G) (yc : Nat → ClassId) (e0 : Nat) (r : Nat) (x : Nat) (cp : Nat) (xs : List Int64) (f : Nat → Int64) (sz : Nat) (j : Nat) (v : Int64) (hle : xs.length ≤ cp) (hcp : cp ≤ 8388608) (hf : RC (cp, xs) f) (hn : xs.length < cp) (hj : j ≤ xs.length) : Met l yX6_insert (ws_ yX6_insert cX6_insert 4 none) { frames := 1, cells := 0, slots := 0, locals := 40 } (PR D yc e0 [(r, .inr (5, [.ref x, .int (nI xs.length)])), (x, .inl (yc 1, cp, .inr (.inl f)))] sz [.ref r, .int (nI j), .long v]) ((fun A => RQ D yc A r [] (cp, xs.take j ++ v :: xs.drop j)) (va_A [(r, .inr (5, [.ref x, .int (nI xs.length)])), (x, .inl (yc 1, cp, .inr (.inl f)))] sz)) 0 0 (va_A [(r, .inr (5, [.ref x, .int (nI xs.length)])), (x, .inl (yc 1, cp, .inr (.inl f)))] sz) := by
  refine zk_M (y := yX6_insert) (cc := cX6_insert) (maxL := 4) (w := [(r, .inr (5, [.ref x, .int (nI xs.length)])), (x, .inl (yc 1, cp, .inr (.inl f)))]) (av := [.ref r, .int (nI j), .long v]) (Qc := (fun A => RQ D yc A r [] (cp, xs.take j ++ v :: xs.drop j))) (by decide) (Nat.le_of_ble_eq_true rfl) ?_
  intro p e s m args below meth c A ls hx hb hml hr hlk hown hnm hts hP hD hS hA hC hl
  have hK := hC.1
  have hN := hC.2.1
  have hl : lv_has ls 4 [(0, .ref r), (1, .int (nI j)), (2, .long v)] := hl
  refine lv_aload_n hx hb dX6_insert_0 rfl (lv_at hl 0 rfl) ?_
  refine va_get (D := D) (ci := 5) (v := .int (nI xs.length)) (C := RX6) (T := TX6) (N := 2) hx hb hts iX6 hown hK hP 0 rfl rfl 1 (by decide) (hts _ wq914) (fun _ h9 => h9) rfl dX6_insert_1 ?_
  refine lv_aload_n hx hb dX6_insert_4 rfl (lv_at hl 0 rfl) ?_
  refine va_get (D := D) (ci := 5) (v := .ref x) (C := RX6) (T := TX6) (N := 2) hx hb hts iX6 hown hK hP 0 rfl rfl 0 (by decide) (hts _ wq913) (fun _ h9 => h9) rfl dX6_insert_5 ?_
  refine va_alen hx hb hK hP 1 1 rfl rfl (v := nI cp) rfl dX6_insert_8 ?_
  refine lv_icmp_lt (tgt := 40) hx hb dX6_insert_9 (by decide) (fun _ => ?_) (fun h9 => absurd (nI_lt (by omega) (by omega)) h9)
  refine lv_iload_n hx hb dX6_insert_40 rfl (lv_at hl 1 rfl) ?_
  refine lv_if_lt (tgt := 102) hx hb dX6_insert_41 (by decide) (fun h9 => absurd h9 (nI_pos (by omega))) (fun _ => ?_)
  refine lv_iload_n hx hb dX6_insert_44 rfl (lv_at hl 1 rfl) ?_
  refine lv_aload_n hx hb dX6_insert_45 rfl (lv_at hl 0 rfl) ?_
  refine va_get (D := D) (ci := 5) (v := .int (nI xs.length)) (C := RX6) (T := TX6) (N := 2) hx hb hts iX6 hown hK hP 0 rfl rfl 1 (by decide) (hts _ wq914) (fun _ h9 => h9) rfl dX6_insert_46 ?_
  refine lv_icmp_gt (tgt := 102) hx hb dX6_insert_49 (by decide) (fun h9 => absurd h9 (nI_nlt (by omega) (by omega))) (fun _ => ?_)
  refine lv_aload_n hx hb dX6_insert_52 rfl (lv_at hl 0 rfl) ?_
  refine va_get (D := D) (ci := 5) (v := .int (nI xs.length)) (C := RX6) (T := TX6) (N := 2) hx hb hts iX6 hown hK hP 0 rfl rfl 1 (by decide) (hts _ wq914) (fun _ h9 => h9) rfl dX6_insert_53 ?_
  refine lv_aload_n hx hb dX6_insert_56 rfl (lv_at hl 0 rfl) ?_
  refine va_get (D := D) (ci := 5) (v := .ref x) (C := RX6) (T := TX6) (N := 2) hx hb hts iX6 hown hK hP 0 rfl rfl 0 (by decide) (hts _ wq913) (fun _ h9 => h9) rfl dX6_insert_57 ?_
  refine va_alen hx hb hK hP 1 1 rfl rfl (v := nI cp) rfl dX6_insert_60 ?_
  refine lv_icmp_ge (tgt := 102) hx hb dX6_insert_61 (by decide) (fun h9 => absurd h9 (nI_ge (by omega) (by omega))) (fun _ => ?_)
  refine lv_aload_n hx hb dX6_insert_64 rfl (lv_at hl 0 rfl) ?_
  refine va_get (D := D) (ci := 5) (v := .ref x) (C := RX6) (T := TX6) (N := 2) hx hb hts iX6 hown hK hP 0 rfl rfl 0 (by decide) (hts _ wq913) (fun _ h9 => h9) rfl dX6_insert_65 ?_
  refine lv_iload_n hx hb dX6_insert_68 rfl (lv_at hl 1 rfl) ?_
  refine lv_aload_n hx hb dX6_insert_69 rfl (lv_at hl 0 rfl) ?_
  refine va_get (D := D) (ci := 5) (v := .ref x) (C := RX6) (T := TX6) (N := 2) hx hb hts iX6 hown hK hP 0 rfl rfl 0 (by decide) (hts _ wq913) (fun _ h9 => h9) rfl dX6_insert_70 ?_
  refine lv_iload_n hx hb dX6_insert_73 rfl (lv_at hl 1 rfl) ?_
  refine lv_iconst (v := 1) hx hb dX6_insert_74 (by decide) ?_
  refine lv_iadd hx hb dX6_insert_75 ?_
  refine zk_ti (y := nI (j + 1)) (nI_1 _) ?_
  refine lv_aload_n hx hb dX6_insert_76 rfl (lv_at hl 0 rfl) ?_
  refine va_get (D := D) (ci := 5) (v := .int (nI xs.length)) (C := RX6) (T := TX6) (N := 2) hx hb hts iX6 hown hK hP 0 rfl rfl 1 (by decide) (hts _ wq914) (fun _ h9 => h9) rfl dX6_insert_77 ?_
  refine lv_iload_n hx hb dX6_insert_80 rfl (lv_at hl 1 rfl) ?_
  refine lv_isub hx hb dX6_insert_81 ?_
  refine zk_ti (y := nI (xs.length - j)) (pk_sub (by omega)) ?_
  refine va_copyl (ty := .long) hx hb (by rw [hml]; exact hl.1.symm) hown (hts _ wq325) (hts _ wq327) (hts _ wq326) (hts _ wq20) hK hP hD hS 1 1 1 1 rfl rfl rfl rfl rfl (nI_pos (by omega)) (nI_pos (by omega)) (nI_pos (by omega)) (by rw [nI_clamp (by omega), nI_clamp (by omega)]; omega) (by rw [nI_clamp (by omega), nI_clamp (by omega)]; omega) (fun _ _ => rfl) (Nat.le_of_ble_eq_true rfl) (Nat.le_of_ble_eq_true rfl) dX6_insert_82 (fun H locs hP hD hS => ?_)
  have hP : va_P D vwCl [(r, .inr (5, [.ref x, .int (nI xs.length)])), (x, .inl (yc 1, cp, .inr (.inl (va_cpy f f (nI j : Int32).toNatClampNeg (nI (j + 1) : Int32).toNatClampNeg (nI (xs.length - j) : Int32).toNatClampNeg))))] H := hP
  have hD : va_D A [(r, .inr (5, [.ref x, .int (nI xs.length)])), (x, .inl (yc 1, cp, .inr (.inl (va_cpy f f (nI j : Int32).toNatClampNeg (nI (j + 1) : Int32).toNatClampNeg (nI (xs.length - j) : Int32).toNatClampNeg))))] := hD
  refine lv_aload_n hx hb dX6_insert_85 rfl (lv_at hl 0 rfl) ?_
  refine va_get (D := D) (ci := 5) (v := .ref x) (C := RX6) (T := TX6) (N := 2) hx hb hts iX6 hown hK hP 0 rfl rfl 0 (by decide) (hts _ wq913) (fun _ h9 => h9) rfl dX6_insert_86 ?_
  refine lv_iload_n hx hb dX6_insert_89 rfl (lv_at hl 1 rfl) ?_
  refine lv_lload_n hx hb dX6_insert_90 rfl (lv_at hl 2 rfl) ?_
  refine va_last hx hb hK hP hD hS 1 1 rfl rfl (vp_in_nI (by omega) (by omega)) dX6_insert_91 (fun H locs hP hD hS => ?_)
  have hP : va_P D vwCl [(r, .inr (5, [.ref x, .int (nI xs.length)])), (x, .inl (yc 1, cp, .inr (.inl (vp_updL (va_cpy f f (nI j : Int32).toNatClampNeg (nI (j + 1) : Int32).toNatClampNeg (nI (xs.length - j) : Int32).toNatClampNeg) (nI j : Int32).toNatClampNeg v))))] H := hP
  have hD : va_D A [(r, .inr (5, [.ref x, .int (nI xs.length)])), (x, .inl (yc 1, cp, .inr (.inl (vp_updL (va_cpy f f (nI j : Int32).toNatClampNeg (nI (j + 1) : Int32).toNatClampNeg (nI (xs.length - j) : Int32).toNatClampNeg) (nI j : Int32).toNatClampNeg v))))] := hD
  refine lv_aload_n hx hb dX6_insert_92 rfl (lv_at hl 0 rfl) ?_
  refine lv_dup hx hb dX6_insert_93 rfl ?_
  refine va_get (D := D) (ci := 5) (v := .int (nI xs.length)) (C := RX6) (T := TX6) (N := 2) hx hb hts iX6 hown hK hP 0 rfl rfl 1 (by decide) (hts _ wq914) (fun _ h9 => h9) rfl dX6_insert_94 ?_
  refine lv_iconst (v := 1) hx hb dX6_insert_97 (by decide) ?_
  refine lv_iadd hx hb dX6_insert_98 ?_
  refine zk_ti (y := nI (xs.length + 1)) (nI_1 _) ?_
  refine va_put (D := D) (ci := 5) (v := .int (nI (xs.length + 1))) (ty := .int) (C := RX6) (T := TX6) (N := 2) hx hb hts iX6 tyX6 tyX6_ok nmX6 hown hK hP hD hS 0 rfl rfl 1 (by decide) (hts _ wq914) (fun _ h9 => h9) rfl (by decide +kernel) rfl rfl (Nat.le_of_ble_eq_true rfl) dX6_insert_99 (fun H locs hP hD hS => ?_)
  have hP : va_P D vwCl [(r, .inr (5, [.ref x, .int (nI (xs.length + 1))])), (x, .inl (yc 1, cp, .inr (.inl (vp_updL (va_cpy f f (nI j : Int32).toNatClampNeg (nI (j + 1) : Int32).toNatClampNeg (nI (xs.length - j) : Int32).toNatClampNeg) (nI j : Int32).toNatClampNeg v))))] H := hP
  have hD : va_D A [(r, .inr (5, [.ref x, .int (nI (xs.length + 1))])), (x, .inl (yc 1, cp, .inr (.inl (vp_updL (va_cpy f f (nI j : Int32).toNatClampNeg (nI (j + 1) : Int32).toNatClampNeg (nI (xs.length - j) : Int32).toNatClampNeg) (nI j : Int32).toNatClampNeg v))))] := hD
  exact te_row hx hb hr hlk hP hD hS x (vp_updL (va_cpy f f (nI j : Int32).toNatClampNeg (nI (j + 1) : Int32).toNatClampNeg (nI (xs.length - j) : Int32).toNatClampNeg) (nI j : Int32).toNatClampNeg v) (xs.length + 1) (by simp; omega) (rc_ins hf hj (by omega)) [0, 1] rfl rfl (by first | exact (Nat.le_of_ble_eq_true rfl) | exact Nat.zero_le _ | omega | (dsimp only; omega)) (by first | exact (Nat.le_of_ble_eq_true rfl) | exact Nat.zero_le _ | omega | (dsimp only; omega)) dX6_insert_102
set_option maxHeartbeats 4000000 in
set_option maxRecDepth 100000 in
theorem l_insG (l : Launch) (D : va_G) (yc : Nat → ClassId) (e0 : Nat) (r : Nat) (x : Nat) (cp : Nat) (xs : List Int64) (f : Nat → Int64) (sz : Nat) (j : Nat) (v : Int64) (hle : xs.length ≤ cp) (hcp : cp ≤ 8388608) (hf : RC (cp, xs) f) (hn : xs.length = cp) (h4 : 8 ≤ cp ∧ cp ≤ 4000000) (hj : j ≤ xs.length) : Met l yX6_insert (ws_ yX6_insert cX6_insert 4 none) { frames := 2, cells := 1, slots := (2 * cp), locals := 62 } (PR D yc e0 [(r, .inr (5, [.ref x, .int (nI xs.length)])), (x, .inl (yc 1, cp, .inr (.inl f)))] sz [.ref r, .int (nI j), .long v]) ((fun A => RQ D yc A r [] (2 * cp, xs.take j ++ v :: xs.drop j)) (va_A [(r, .inr (5, [.ref x, .int (nI xs.length)])), (x, .inl (yc 1, cp, .inr (.inl f)))] sz)) 1 (2 * cp) (va_A [(r, .inr (5, [.ref x, .int (nI xs.length)])), (x, .inl (yc 1, cp, .inr (.inl f)))] sz) := by
  refine zk_M (y := yX6_insert) (cc := cX6_insert) (maxL := 4) (w := [(r, .inr (5, [.ref x, .int (nI xs.length)])), (x, .inl (yc 1, cp, .inr (.inl f)))]) (av := [.ref r, .int (nI j), .long v]) (Qc := (fun A => RQ D yc A r [] (2 * cp, xs.take j ++ v :: xs.drop j))) (by decide) (Nat.le_of_ble_eq_true rfl) ?_
  intro p e s m args below meth c A ls hx hb hml hr hlk hown hnm hts hP hD hS hA hC hl
  have hK := hC.1
  have hN := hC.2.1
  have hl : lv_has ls 4 [(0, .ref r), (1, .int (nI j)), (2, .long v)] := hl
  refine lv_aload_n hx hb dX6_insert_0 rfl (lv_at hl 0 rfl) ?_
  refine va_get (D := D) (ci := 5) (v := .int (nI xs.length)) (C := RX6) (T := TX6) (N := 2) hx hb hts iX6 hown hK hP 0 rfl rfl 1 (by decide) (hts _ wq914) (fun _ h9 => h9) rfl dX6_insert_1 ?_
  refine lv_aload_n hx hb dX6_insert_4 rfl (lv_at hl 0 rfl) ?_
  refine va_get (D := D) (ci := 5) (v := .ref x) (C := RX6) (T := TX6) (N := 2) hx hb hts iX6 hown hK hP 0 rfl rfl 0 (by decide) (hts _ wq913) (fun _ h9 => h9) rfl dX6_insert_5 ?_
  refine va_alen hx hb hK hP 1 1 rfl rfl (v := nI cp) rfl dX6_insert_8 ?_
  refine lv_icmp_lt (tgt := 40) hx hb dX6_insert_9 (by decide) (fun h9 => absurd h9 (nI_nlt (by omega) (by omega))) (fun _ => ?_)
  refine lv_aload_n hx hb dX6_insert_12 rfl (lv_at hl 0 rfl) ?_
  refine va_get (D := D) (ci := 5) (v := .ref x) (C := RX6) (T := TX6) (N := 2) hx hb hts iX6 hown hK hP 0 rfl rfl 0 (by decide) (hts _ wq913) (fun _ h9 => h9) rfl dX6_insert_13 ?_
  refine va_alen hx hb hK hP 1 1 rfl rfl (v := nI cp) rfl dX6_insert_16 ?_
  refine lv_ldc hx hb hown (hts _ wq348) dX6_insert_17 ?_
  refine lv_icmp_ge (tgt := 40) hx hb dX6_insert_19 (by decide) (fun h9 => absurd h9 (show ¬ nI 8388608 ≤ nI cp from nI_ge (by omega) (by omega))) (fun _ => ?_)
  refine lv_aload_n hx hb dX6_insert_22 rfl (lv_at hl 0 rfl) ?_
  refine lv_aload_n hx hb dX6_insert_23 rfl (lv_at hl 0 rfl) ?_
  refine va_get (D := D) (ci := 5) (v := .ref x) (C := RX6) (T := TX6) (N := 2) hx hb hts iX6 hown hK hP 0 rfl rfl 0 (by decide) (hts _ wq913) (fun _ h9 => h9) rfl dX6_insert_24 ?_
  refine lv_aload_n hx hb dX6_insert_27 rfl (lv_at hl 0 rfl) ?_
  refine va_get (D := D) (ci := 5) (v := .ref x) (C := RX6) (T := TX6) (N := 2) hx hb hts iX6 hown hK hP 0 rfl rfl 0 (by decide) (hts _ wq913) (fun _ h9 => h9) rfl dX6_insert_28 ?_
  refine va_alen hx hb hK hP 1 1 rfl rfl (v := nI cp) rfl dX6_insert_31 ?_
  refine lv_iconst (v := 2) hx hb dX6_insert_32 (by decide) ?_
  refine lv_imul hx hb dX6_insert_33 ?_
  refine zk_ti (y := nI (2 * cp)) (by rw [show (2 : Int32) = nI 2 from rfl, pk_mul, Nat.mul_comm]) ?_
  refine zk_q (wr := [(r, .inr (5, [.ref x, .int (nI xs.length)]))]) (va_runS (As := [.ref x, .int (nI (2 * cp))]) (rest := [.ref r]) ⟨hx, hb, hml, hown, hts⟩ (l_copyOf l D yc e0 x cp f s.heap.size (2 * cp) (by omega) (by omega)) (va_cwS 2 hts (lw_S wq349 wq350 wq19 wq351) rfl rfl rfl (by decide +kernel) ⟨(Nat.le_of_ble_eq_true rfl), (Nat.le_of_ble_eq_true rfl)⟩) (zk_pS hC hP hD hS hA [1] rfl rfl) rfl rfl hl.1 rfl (lv_room (Nat.le_of_ble_eq_true rfl)) dX6_insert_34 ⟨(by show 0 + 1 ≤ 1; omega), (by show 0 + (2 * cp) ≤ (2 * cp); omega)⟩) hP hD hS hA [1] [0] rfl rfl rfl (by decide) (fun u1 H locs hP hD hS => ?_)
  have hP : va_P D vwCl [(r, .inr (5, [.ref x, .int (nI xs.length)])), (x, .inl (yc 1, cp, .inr (.inl f))), ((u1 0 0), .inl (yc 1, (2 * cp), .inr (.inl (va_cpy f (fun _ => 0) (0 : Int32).toNatClampNeg (0 : Int32).toNatClampNeg (nI cp : Int32).toNatClampNeg))))] H := hP
  have hD : va_D A [(r, .inr (5, [.ref x, .int (nI xs.length)])), (x, .inl (yc 1, cp, .inr (.inl f))), ((u1 0 0), .inl (yc 1, (2 * cp), .inr (.inl (va_cpy f (fun _ => 0) (0 : Int32).toNatClampNeg (0 : Int32).toNatClampNeg (nI cp : Int32).toNatClampNeg))))] := hD
  refine zk_tv (y := .ref (u1 0 0)) rfl ?_
  refine va_put (D := D) (ci := 5) (v := .ref (u1 0 0)) (ty := (.array .long)) (C := RX6) (T := TX6) (N := 2) hx hb hts iX6 tyX6 tyX6_ok nmX6 hown hK hP hD hS 0 rfl rfl 0 (by decide) (hts _ wq913) (fun _ h9 => h9) rfl (by decide +kernel) rfl rfl (Nat.le_of_ble_eq_true rfl) dX6_insert_37 (fun H locs hP hD hS => ?_)
  have hP : va_P D vwCl [(r, .inr (5, [.ref (u1 0 0), .int (nI xs.length)])), (x, .inl (yc 1, cp, .inr (.inl f))), ((u1 0 0), .inl (yc 1, (2 * cp), .inr (.inl (va_cpy f (fun _ => 0) (0 : Int32).toNatClampNeg (0 : Int32).toNatClampNeg (nI cp : Int32).toNatClampNeg))))] H := hP
  have hD : va_D A [(r, .inr (5, [.ref (u1 0 0), .int (nI xs.length)])), (x, .inl (yc 1, cp, .inr (.inl f))), ((u1 0 0), .inl (yc 1, (2 * cp), .inr (.inl (va_cpy f (fun _ => 0) (0 : Int32).toNatClampNeg (0 : Int32).toNatClampNeg (nI cp : Int32).toNatClampNeg))))] := hD
  refine lv_iload_n hx hb dX6_insert_40 rfl (lv_at hl 1 rfl) ?_
  refine lv_if_lt (tgt := 102) hx hb dX6_insert_41 (by decide) (fun h9 => absurd h9 (nI_pos (by omega))) (fun _ => ?_)
  refine lv_iload_n hx hb dX6_insert_44 rfl (lv_at hl 1 rfl) ?_
  refine lv_aload_n hx hb dX6_insert_45 rfl (lv_at hl 0 rfl) ?_
  refine va_get (D := D) (ci := 5) (v := .int (nI xs.length)) (C := RX6) (T := TX6) (N := 2) hx hb hts iX6 hown hK hP 0 rfl rfl 1 (by decide) (hts _ wq914) (fun _ h9 => h9) rfl dX6_insert_46 ?_
  refine lv_icmp_gt (tgt := 102) hx hb dX6_insert_49 (by decide) (fun h9 => absurd h9 (nI_nlt (by omega) (by omega))) (fun _ => ?_)
  refine lv_aload_n hx hb dX6_insert_52 rfl (lv_at hl 0 rfl) ?_
  refine va_get (D := D) (ci := 5) (v := .int (nI xs.length)) (C := RX6) (T := TX6) (N := 2) hx hb hts iX6 hown hK hP 0 rfl rfl 1 (by decide) (hts _ wq914) (fun _ h9 => h9) rfl dX6_insert_53 ?_
  refine lv_aload_n hx hb dX6_insert_56 rfl (lv_at hl 0 rfl) ?_
  refine va_get (D := D) (ci := 5) (v := .ref (u1 0 0)) (C := RX6) (T := TX6) (N := 2) hx hb hts iX6 hown hK hP 0 rfl rfl 0 (by decide) (hts _ wq913) (fun _ h9 => h9) rfl dX6_insert_57 ?_
  refine va_alen hx hb hK hP 2 1 rfl rfl (v := nI (2 * cp)) rfl dX6_insert_60 ?_
  refine lv_icmp_ge (tgt := 102) hx hb dX6_insert_61 (by decide) (fun h9 => absurd h9 (nI_ge (by omega) (by omega))) (fun _ => ?_)
  refine lv_aload_n hx hb dX6_insert_64 rfl (lv_at hl 0 rfl) ?_
  refine va_get (D := D) (ci := 5) (v := .ref (u1 0 0)) (C := RX6) (T := TX6) (N := 2) hx hb hts iX6 hown hK hP 0 rfl rfl 0 (by decide) (hts _ wq913) (fun _ h9 => h9) rfl dX6_insert_65 ?_
  refine lv_iload_n hx hb dX6_insert_68 rfl (lv_at hl 1 rfl) ?_
  refine lv_aload_n hx hb dX6_insert_69 rfl (lv_at hl 0 rfl) ?_
  refine va_get (D := D) (ci := 5) (v := .ref (u1 0 0)) (C := RX6) (T := TX6) (N := 2) hx hb hts iX6 hown hK hP 0 rfl rfl 0 (by decide) (hts _ wq913) (fun _ h9 => h9) rfl dX6_insert_70 ?_
  refine lv_iload_n hx hb dX6_insert_73 rfl (lv_at hl 1 rfl) ?_
  refine lv_iconst (v := 1) hx hb dX6_insert_74 (by decide) ?_
  refine lv_iadd hx hb dX6_insert_75 ?_
  refine zk_ti (y := nI (j + 1)) (nI_1 _) ?_
  refine lv_aload_n hx hb dX6_insert_76 rfl (lv_at hl 0 rfl) ?_
  refine va_get (D := D) (ci := 5) (v := .int (nI xs.length)) (C := RX6) (T := TX6) (N := 2) hx hb hts iX6 hown hK hP 0 rfl rfl 1 (by decide) (hts _ wq914) (fun _ h9 => h9) rfl dX6_insert_77 ?_
  refine lv_iload_n hx hb dX6_insert_80 rfl (lv_at hl 1 rfl) ?_
  refine lv_isub hx hb dX6_insert_81 ?_
  refine zk_ti (y := nI (xs.length - j)) (pk_sub (by omega)) ?_
  refine va_copyl (ty := .long) hx hb (by rw [hml]; exact hl.1.symm) hown (hts _ wq325) (hts _ wq327) (hts _ wq326) (hts _ wq20) hK hP hD hS 2 2 1 1 rfl rfl rfl rfl rfl (nI_pos (by omega)) (nI_pos (by omega)) (nI_pos (by omega)) (by rw [nI_clamp (by omega), nI_clamp (by omega)]; omega) (by rw [nI_clamp (by omega), nI_clamp (by omega)]; omega) (fun _ _ => rfl) (Nat.le_of_ble_eq_true rfl) (Nat.le_of_ble_eq_true rfl) dX6_insert_82 (fun H locs hP hD hS => ?_)
  have hP : va_P D vwCl [(r, .inr (5, [.ref (u1 0 0), .int (nI xs.length)])), (x, .inl (yc 1, cp, .inr (.inl f))), ((u1 0 0), .inl (yc 1, (2 * cp), .inr (.inl (va_cpy (va_cpy f (fun _ => 0) (0 : Int32).toNatClampNeg (0 : Int32).toNatClampNeg (nI cp : Int32).toNatClampNeg) (va_cpy f (fun _ => 0) (0 : Int32).toNatClampNeg (0 : Int32).toNatClampNeg (nI cp : Int32).toNatClampNeg) (nI j : Int32).toNatClampNeg (nI (j + 1) : Int32).toNatClampNeg (nI (xs.length - j) : Int32).toNatClampNeg))))] H := hP
  have hD : va_D A [(r, .inr (5, [.ref (u1 0 0), .int (nI xs.length)])), (x, .inl (yc 1, cp, .inr (.inl f))), ((u1 0 0), .inl (yc 1, (2 * cp), .inr (.inl (va_cpy (va_cpy f (fun _ => 0) (0 : Int32).toNatClampNeg (0 : Int32).toNatClampNeg (nI cp : Int32).toNatClampNeg) (va_cpy f (fun _ => 0) (0 : Int32).toNatClampNeg (0 : Int32).toNatClampNeg (nI cp : Int32).toNatClampNeg) (nI j : Int32).toNatClampNeg (nI (j + 1) : Int32).toNatClampNeg (nI (xs.length - j) : Int32).toNatClampNeg))))] := hD
  refine lv_aload_n hx hb dX6_insert_85 rfl (lv_at hl 0 rfl) ?_
  refine va_get (D := D) (ci := 5) (v := .ref (u1 0 0)) (C := RX6) (T := TX6) (N := 2) hx hb hts iX6 hown hK hP 0 rfl rfl 0 (by decide) (hts _ wq913) (fun _ h9 => h9) rfl dX6_insert_86 ?_
  refine lv_iload_n hx hb dX6_insert_89 rfl (lv_at hl 1 rfl) ?_
  refine lv_lload_n hx hb dX6_insert_90 rfl (lv_at hl 2 rfl) ?_
  refine va_last hx hb hK hP hD hS 2 1 rfl rfl (vp_in_nI (by omega) (by omega)) dX6_insert_91 (fun H locs hP hD hS => ?_)
  have hP : va_P D vwCl [(r, .inr (5, [.ref (u1 0 0), .int (nI xs.length)])), (x, .inl (yc 1, cp, .inr (.inl f))), ((u1 0 0), .inl (yc 1, (2 * cp), .inr (.inl (vp_updL (va_cpy (va_cpy f (fun _ => 0) (0 : Int32).toNatClampNeg (0 : Int32).toNatClampNeg (nI cp : Int32).toNatClampNeg) (va_cpy f (fun _ => 0) (0 : Int32).toNatClampNeg (0 : Int32).toNatClampNeg (nI cp : Int32).toNatClampNeg) (nI j : Int32).toNatClampNeg (nI (j + 1) : Int32).toNatClampNeg (nI (xs.length - j) : Int32).toNatClampNeg) (nI j : Int32).toNatClampNeg v))))] H := hP
  have hD : va_D A [(r, .inr (5, [.ref (u1 0 0), .int (nI xs.length)])), (x, .inl (yc 1, cp, .inr (.inl f))), ((u1 0 0), .inl (yc 1, (2 * cp), .inr (.inl (vp_updL (va_cpy (va_cpy f (fun _ => 0) (0 : Int32).toNatClampNeg (0 : Int32).toNatClampNeg (nI cp : Int32).toNatClampNeg) (va_cpy f (fun _ => 0) (0 : Int32).toNatClampNeg (0 : Int32).toNatClampNeg (nI cp : Int32).toNatClampNeg) (nI j : Int32).toNatClampNeg (nI (j + 1) : Int32).toNatClampNeg (nI (xs.length - j) : Int32).toNatClampNeg) (nI j : Int32).toNatClampNeg v))))] := hD
  refine lv_aload_n hx hb dX6_insert_92 rfl (lv_at hl 0 rfl) ?_
  refine lv_dup hx hb dX6_insert_93 rfl ?_
  refine va_get (D := D) (ci := 5) (v := .int (nI xs.length)) (C := RX6) (T := TX6) (N := 2) hx hb hts iX6 hown hK hP 0 rfl rfl 1 (by decide) (hts _ wq914) (fun _ h9 => h9) rfl dX6_insert_94 ?_
  refine lv_iconst (v := 1) hx hb dX6_insert_97 (by decide) ?_
  refine lv_iadd hx hb dX6_insert_98 ?_
  refine zk_ti (y := nI (xs.length + 1)) (nI_1 _) ?_
  refine va_put (D := D) (ci := 5) (v := .int (nI (xs.length + 1))) (ty := .int) (C := RX6) (T := TX6) (N := 2) hx hb hts iX6 tyX6 tyX6_ok nmX6 hown hK hP hD hS 0 rfl rfl 1 (by decide) (hts _ wq914) (fun _ h9 => h9) rfl (by decide +kernel) rfl rfl (Nat.le_of_ble_eq_true rfl) dX6_insert_99 (fun H locs hP hD hS => ?_)
  have hP : va_P D vwCl [(r, .inr (5, [.ref (u1 0 0), .int (nI (xs.length + 1))])), (x, .inl (yc 1, cp, .inr (.inl f))), ((u1 0 0), .inl (yc 1, (2 * cp), .inr (.inl (vp_updL (va_cpy (va_cpy f (fun _ => 0) (0 : Int32).toNatClampNeg (0 : Int32).toNatClampNeg (nI cp : Int32).toNatClampNeg) (va_cpy f (fun _ => 0) (0 : Int32).toNatClampNeg (0 : Int32).toNatClampNeg (nI cp : Int32).toNatClampNeg) (nI j : Int32).toNatClampNeg (nI (j + 1) : Int32).toNatClampNeg (nI (xs.length - j) : Int32).toNatClampNeg) (nI j : Int32).toNatClampNeg v))))] H := hP
  have hD : va_D A [(r, .inr (5, [.ref (u1 0 0), .int (nI (xs.length + 1))])), (x, .inl (yc 1, cp, .inr (.inl f))), ((u1 0 0), .inl (yc 1, (2 * cp), .inr (.inl (vp_updL (va_cpy (va_cpy f (fun _ => 0) (0 : Int32).toNatClampNeg (0 : Int32).toNatClampNeg (nI cp : Int32).toNatClampNeg) (va_cpy f (fun _ => 0) (0 : Int32).toNatClampNeg (0 : Int32).toNatClampNeg (nI cp : Int32).toNatClampNeg) (nI j : Int32).toNatClampNeg (nI (j + 1) : Int32).toNatClampNeg (nI (xs.length - j) : Int32).toNatClampNeg) (nI j : Int32).toNatClampNeg v))))] := hD
  exact te_row hx hb hr hlk hP hD hS (u1 0 0) (vp_updL (va_cpy (va_cpy f (fun _ => 0) (0 : Int32).toNatClampNeg (0 : Int32).toNatClampNeg (nI cp : Int32).toNatClampNeg) (va_cpy f (fun _ => 0) (0 : Int32).toNatClampNeg (0 : Int32).toNatClampNeg (nI cp : Int32).toNatClampNeg) (nI j : Int32).toNatClampNeg (nI (j + 1) : Int32).toNatClampNeg (nI (xs.length - j) : Int32).toNatClampNeg) (nI j : Int32).toNatClampNeg v) (xs.length + 1) (by simp; omega) (rc_ins (rc_grow (cq := 2 * cp) hf hle (by omega)) hj (by omega)) [0, 2] rfl rfl (by first | exact (Nat.le_of_ble_eq_true rfl) | exact Nat.zero_le _ | omega | (dsimp only; omega)) (by first | exact (Nat.le_of_ble_eq_true rfl) | exact Nat.zero_le _ | omega | (dsimp only; omega)) dX6_insert_102
set_option maxHeartbeats 4000000 in
set_option maxRecDepth 100000 in
theorem l_insX (l : Launch) (D : va_G) (yc : Nat → ClassId) (e0 : Nat) (r : Nat) (x : Nat) (cp : Nat) (xs : List Int64) (f : Nat → Int64) (sz : Nat) (j : Nat) (v : Int64) (hle : xs.length ≤ cp) (hcp : cp ≤ 8388608) (hf : RC (cp, xs) f) (hn : xs.length < cp) (hj : xs.length < j) (hj2 : j < 2 ^ 31) : Met l yX6_insert (ws_ yX6_insert cX6_insert 4 none) { frames := 0, cells := 0, slots := 0, locals := 0 } (PR D yc e0 [(r, .inr (5, [.ref x, .int (nI xs.length)])), (x, .inl (yc 1, cp, .inr (.inl f)))] sz [.ref r, .int (nI j), .long v]) ((fun A => RQ D yc A r [] (cp, xs)) (va_A [(r, .inr (5, [.ref x, .int (nI xs.length)])), (x, .inl (yc 1, cp, .inr (.inl f)))] sz)) 0 0 (va_A [(r, .inr (5, [.ref x, .int (nI xs.length)])), (x, .inl (yc 1, cp, .inr (.inl f)))] sz) := by
  refine zk_M (y := yX6_insert) (cc := cX6_insert) (maxL := 4) (w := [(r, .inr (5, [.ref x, .int (nI xs.length)])), (x, .inl (yc 1, cp, .inr (.inl f)))]) (av := [.ref r, .int (nI j), .long v]) (Qc := (fun A => RQ D yc A r [] (cp, xs))) (by decide) (Nat.le_of_ble_eq_true rfl) ?_
  intro p e s m args below meth c A ls hx hb hml hr hlk hown hnm hts hP hD hS hA hC hl
  have hK := hC.1
  have hN := hC.2.1
  have hl : lv_has ls 4 [(0, .ref r), (1, .int (nI j)), (2, .long v)] := hl
  refine lv_aload_n hx hb dX6_insert_0 rfl (lv_at hl 0 rfl) ?_
  refine va_get (D := D) (ci := 5) (v := .int (nI xs.length)) (C := RX6) (T := TX6) (N := 2) hx hb hts iX6 hown hK hP 0 rfl rfl 1 (by decide) (hts _ wq914) (fun _ h9 => h9) rfl dX6_insert_1 ?_
  refine lv_aload_n hx hb dX6_insert_4 rfl (lv_at hl 0 rfl) ?_
  refine va_get (D := D) (ci := 5) (v := .ref x) (C := RX6) (T := TX6) (N := 2) hx hb hts iX6 hown hK hP 0 rfl rfl 0 (by decide) (hts _ wq913) (fun _ h9 => h9) rfl dX6_insert_5 ?_
  refine va_alen hx hb hK hP 1 1 rfl rfl (v := nI cp) rfl dX6_insert_8 ?_
  refine lv_icmp_lt (tgt := 40) hx hb dX6_insert_9 (by decide) (fun _ => ?_) (fun h9 => absurd (nI_lt (by omega) (by omega)) h9)
  refine lv_iload_n hx hb dX6_insert_40 rfl (lv_at hl 1 rfl) ?_
  refine lv_if_lt (tgt := 102) hx hb dX6_insert_41 (by decide) (fun h9 => absurd h9 (nI_pos (by omega))) (fun _ => ?_)
  refine lv_iload_n hx hb dX6_insert_44 rfl (lv_at hl 1 rfl) ?_
  refine lv_aload_n hx hb dX6_insert_45 rfl (lv_at hl 0 rfl) ?_
  refine va_get (D := D) (ci := 5) (v := .int (nI xs.length)) (C := RX6) (T := TX6) (N := 2) hx hb hts iX6 hown hK hP 0 rfl rfl 1 (by decide) (hts _ wq914) (fun _ h9 => h9) rfl dX6_insert_46 ?_
  refine lv_icmp_gt (tgt := 102) hx hb dX6_insert_49 (by decide) (fun _ => ?_) (fun h9 => absurd (nI_lt (by omega) (by omega)) h9)
  exact te_row hx hb hr hlk hP hD hS x f xs.length rfl hf [0, 1] rfl rfl (by first | exact (Nat.le_of_ble_eq_true rfl) | exact Nat.zero_le _ | omega | (dsimp only; omega)) (by first | exact (Nat.le_of_ble_eq_true rfl) | exact Nat.zero_le _ | omega | (dsimp only; omega)) dX6_insert_102
set_option maxHeartbeats 4000000 in
set_option maxRecDepth 100000 in
theorem l_insGX (l : Launch) (D : va_G) (yc : Nat → ClassId) (e0 : Nat) (r : Nat) (x : Nat) (cp : Nat) (xs : List Int64) (f : Nat → Int64) (sz : Nat) (j : Nat) (v : Int64) (hle : xs.length ≤ cp) (hcp : cp ≤ 8388608) (hf : RC (cp, xs) f) (hn : xs.length = cp) (h4 : 8 ≤ cp ∧ cp ≤ 4000000) (hj : xs.length < j) (hj2 : j < 2 ^ 31) : Met l yX6_insert (ws_ yX6_insert cX6_insert 4 none) { frames := 2, cells := 1, slots := (2 * cp), locals := 62 } (PR D yc e0 [(r, .inr (5, [.ref x, .int (nI xs.length)])), (x, .inl (yc 1, cp, .inr (.inl f)))] sz [.ref r, .int (nI j), .long v]) ((fun A => RQ D yc A r [] (2 * cp, xs)) (va_A [(r, .inr (5, [.ref x, .int (nI xs.length)])), (x, .inl (yc 1, cp, .inr (.inl f)))] sz)) 1 (2 * cp) (va_A [(r, .inr (5, [.ref x, .int (nI xs.length)])), (x, .inl (yc 1, cp, .inr (.inl f)))] sz) := by
  refine zk_M (y := yX6_insert) (cc := cX6_insert) (maxL := 4) (w := [(r, .inr (5, [.ref x, .int (nI xs.length)])), (x, .inl (yc 1, cp, .inr (.inl f)))]) (av := [.ref r, .int (nI j), .long v]) (Qc := (fun A => RQ D yc A r [] (2 * cp, xs))) (by decide) (Nat.le_of_ble_eq_true rfl) ?_
  intro p e s m args below meth c A ls hx hb hml hr hlk hown hnm hts hP hD hS hA hC hl
  have hK := hC.1
  have hN := hC.2.1
  have hl : lv_has ls 4 [(0, .ref r), (1, .int (nI j)), (2, .long v)] := hl
  refine lv_aload_n hx hb dX6_insert_0 rfl (lv_at hl 0 rfl) ?_
  refine va_get (D := D) (ci := 5) (v := .int (nI xs.length)) (C := RX6) (T := TX6) (N := 2) hx hb hts iX6 hown hK hP 0 rfl rfl 1 (by decide) (hts _ wq914) (fun _ h9 => h9) rfl dX6_insert_1 ?_
  refine lv_aload_n hx hb dX6_insert_4 rfl (lv_at hl 0 rfl) ?_
  refine va_get (D := D) (ci := 5) (v := .ref x) (C := RX6) (T := TX6) (N := 2) hx hb hts iX6 hown hK hP 0 rfl rfl 0 (by decide) (hts _ wq913) (fun _ h9 => h9) rfl dX6_insert_5 ?_
  refine va_alen hx hb hK hP 1 1 rfl rfl (v := nI cp) rfl dX6_insert_8 ?_
  refine lv_icmp_lt (tgt := 40) hx hb dX6_insert_9 (by decide) (fun h9 => absurd h9 (nI_nlt (by omega) (by omega))) (fun _ => ?_)
  refine lv_aload_n hx hb dX6_insert_12 rfl (lv_at hl 0 rfl) ?_
  refine va_get (D := D) (ci := 5) (v := .ref x) (C := RX6) (T := TX6) (N := 2) hx hb hts iX6 hown hK hP 0 rfl rfl 0 (by decide) (hts _ wq913) (fun _ h9 => h9) rfl dX6_insert_13 ?_
  refine va_alen hx hb hK hP 1 1 rfl rfl (v := nI cp) rfl dX6_insert_16 ?_
  refine lv_ldc hx hb hown (hts _ wq348) dX6_insert_17 ?_
  refine lv_icmp_ge (tgt := 40) hx hb dX6_insert_19 (by decide) (fun h9 => absurd h9 (show ¬ nI 8388608 ≤ nI cp from nI_ge (by omega) (by omega))) (fun _ => ?_)
  refine lv_aload_n hx hb dX6_insert_22 rfl (lv_at hl 0 rfl) ?_
  refine lv_aload_n hx hb dX6_insert_23 rfl (lv_at hl 0 rfl) ?_
  refine va_get (D := D) (ci := 5) (v := .ref x) (C := RX6) (T := TX6) (N := 2) hx hb hts iX6 hown hK hP 0 rfl rfl 0 (by decide) (hts _ wq913) (fun _ h9 => h9) rfl dX6_insert_24 ?_
  refine lv_aload_n hx hb dX6_insert_27 rfl (lv_at hl 0 rfl) ?_
  refine va_get (D := D) (ci := 5) (v := .ref x) (C := RX6) (T := TX6) (N := 2) hx hb hts iX6 hown hK hP 0 rfl rfl 0 (by decide) (hts _ wq913) (fun _ h9 => h9) rfl dX6_insert_28 ?_
  refine va_alen hx hb hK hP 1 1 rfl rfl (v := nI cp) rfl dX6_insert_31 ?_
  refine lv_iconst (v := 2) hx hb dX6_insert_32 (by decide) ?_
  refine lv_imul hx hb dX6_insert_33 ?_
  refine zk_ti (y := nI (2 * cp)) (by rw [show (2 : Int32) = nI 2 from rfl, pk_mul, Nat.mul_comm]) ?_
  refine zk_q (wr := [(r, .inr (5, [.ref x, .int (nI xs.length)]))]) (va_runS (As := [.ref x, .int (nI (2 * cp))]) (rest := [.ref r]) ⟨hx, hb, hml, hown, hts⟩ (l_copyOf l D yc e0 x cp f s.heap.size (2 * cp) (by omega) (by omega)) (va_cwS 2 hts (lw_S wq349 wq350 wq19 wq351) rfl rfl rfl (by decide +kernel) ⟨(Nat.le_of_ble_eq_true rfl), (Nat.le_of_ble_eq_true rfl)⟩) (zk_pS hC hP hD hS hA [1] rfl rfl) rfl rfl hl.1 rfl (lv_room (Nat.le_of_ble_eq_true rfl)) dX6_insert_34 ⟨(by show 0 + 1 ≤ 1; omega), (by show 0 + (2 * cp) ≤ (2 * cp); omega)⟩) hP hD hS hA [1] [0] rfl rfl rfl (by decide) (fun u1 H locs hP hD hS => ?_)
  have hP : va_P D vwCl [(r, .inr (5, [.ref x, .int (nI xs.length)])), (x, .inl (yc 1, cp, .inr (.inl f))), ((u1 0 0), .inl (yc 1, (2 * cp), .inr (.inl (va_cpy f (fun _ => 0) (0 : Int32).toNatClampNeg (0 : Int32).toNatClampNeg (nI cp : Int32).toNatClampNeg))))] H := hP
  have hD : va_D A [(r, .inr (5, [.ref x, .int (nI xs.length)])), (x, .inl (yc 1, cp, .inr (.inl f))), ((u1 0 0), .inl (yc 1, (2 * cp), .inr (.inl (va_cpy f (fun _ => 0) (0 : Int32).toNatClampNeg (0 : Int32).toNatClampNeg (nI cp : Int32).toNatClampNeg))))] := hD
  refine zk_tv (y := .ref (u1 0 0)) rfl ?_
  refine va_put (D := D) (ci := 5) (v := .ref (u1 0 0)) (ty := (.array .long)) (C := RX6) (T := TX6) (N := 2) hx hb hts iX6 tyX6 tyX6_ok nmX6 hown hK hP hD hS 0 rfl rfl 0 (by decide) (hts _ wq913) (fun _ h9 => h9) rfl (by decide +kernel) rfl rfl (Nat.le_of_ble_eq_true rfl) dX6_insert_37 (fun H locs hP hD hS => ?_)
  have hP : va_P D vwCl [(r, .inr (5, [.ref (u1 0 0), .int (nI xs.length)])), (x, .inl (yc 1, cp, .inr (.inl f))), ((u1 0 0), .inl (yc 1, (2 * cp), .inr (.inl (va_cpy f (fun _ => 0) (0 : Int32).toNatClampNeg (0 : Int32).toNatClampNeg (nI cp : Int32).toNatClampNeg))))] H := hP
  have hD : va_D A [(r, .inr (5, [.ref (u1 0 0), .int (nI xs.length)])), (x, .inl (yc 1, cp, .inr (.inl f))), ((u1 0 0), .inl (yc 1, (2 * cp), .inr (.inl (va_cpy f (fun _ => 0) (0 : Int32).toNatClampNeg (0 : Int32).toNatClampNeg (nI cp : Int32).toNatClampNeg))))] := hD
  refine lv_iload_n hx hb dX6_insert_40 rfl (lv_at hl 1 rfl) ?_
  refine lv_if_lt (tgt := 102) hx hb dX6_insert_41 (by decide) (fun h9 => absurd h9 (nI_pos (by omega))) (fun _ => ?_)
  refine lv_iload_n hx hb dX6_insert_44 rfl (lv_at hl 1 rfl) ?_
  refine lv_aload_n hx hb dX6_insert_45 rfl (lv_at hl 0 rfl) ?_
  refine va_get (D := D) (ci := 5) (v := .int (nI xs.length)) (C := RX6) (T := TX6) (N := 2) hx hb hts iX6 hown hK hP 0 rfl rfl 1 (by decide) (hts _ wq914) (fun _ h9 => h9) rfl dX6_insert_46 ?_
  refine lv_icmp_gt (tgt := 102) hx hb dX6_insert_49 (by decide) (fun _ => ?_) (fun h9 => absurd (nI_lt (by omega) (by omega)) h9)
  exact te_row hx hb hr hlk hP hD hS (u1 0 0) (va_cpy f (fun _ => 0) (0 : Int32).toNatClampNeg (0 : Int32).toNatClampNeg (nI cp : Int32).toNatClampNeg) xs.length rfl (rc_grow (cq := 2 * cp) hf hle (by omega)) [0, 2] rfl rfl (by first | exact (Nat.le_of_ble_eq_true rfl) | exact Nat.zero_le _ | omega | (dsimp only; omega)) (by first | exact (Nat.le_of_ble_eq_true rfl) | exact Nat.zero_le _ | omega | (dsimp only; omega)) dX6_insert_102
set_option maxHeartbeats 4000000 in
set_option maxRecDepth 100000 in
theorem l_rem (l : Launch) (D : va_G) (yc : Nat → ClassId) (e0 : Nat) (r : Nat) (x : Nat) (cp : Nat) (xs : List Int64) (f : Nat → Int64) (sz : Nat) (a : Nat) (b : Nat) (hle : xs.length ≤ cp) (hcp : cp ≤ 8388608) (hf : RC (cp, xs) f) (ha : a < 2 ^ 31) (hb9 : b < 2 ^ 31) (h0 : 0 < b) (hab : a + b ≤ xs.length) : Met l yX6_remove (ws_ yX6_remove cX6_remove 3 none) { frames := 1, cells := 0, slots := 0, locals := 40 } (PR D yc e0 [(r, .inr (5, [.ref x, .int (nI xs.length)])), (x, .inl (yc 1, cp, .inr (.inl f)))] sz [.ref r, .int (nI a), .int (nI b)]) ((fun A => RQ D yc A r [] (cp, xs.take a ++ xs.drop (a + b))) (va_A [(r, .inr (5, [.ref x, .int (nI xs.length)])), (x, .inl (yc 1, cp, .inr (.inl f)))] sz)) 0 0 (va_A [(r, .inr (5, [.ref x, .int (nI xs.length)])), (x, .inl (yc 1, cp, .inr (.inl f)))] sz) := by
  refine zk_M (y := yX6_remove) (cc := cX6_remove) (maxL := 3) (w := [(r, .inr (5, [.ref x, .int (nI xs.length)])), (x, .inl (yc 1, cp, .inr (.inl f)))]) (av := [.ref r, .int (nI a), .int (nI b)]) (Qc := (fun A => RQ D yc A r [] (cp, xs.take a ++ xs.drop (a + b)))) (by decide) (Nat.le_of_ble_eq_true rfl) ?_
  intro p e s m args below meth c A ls hx hb hml hr hlk hown hnm hts hP hD hS hA hC hl
  have hK := hC.1
  have hN := hC.2.1
  have hl : lv_has ls 3 [(0, .ref r), (1, .int (nI a)), (2, .int (nI b))] := hl
  refine lv_iload_n hx hb dX6_remove_0 rfl (lv_at hl 1 rfl) ?_
  refine lv_if_lt (tgt := 63) hx hb dX6_remove_1 (by decide) (fun h9 => absurd h9 (nI_pos (by omega))) (fun _ => ?_)
  refine lv_iload_n hx hb dX6_remove_4 rfl (lv_at hl 2 rfl) ?_
  refine lv_if_le (tgt := 63) hx hb dX6_remove_5 (by decide) (fun h9 => absurd h9 (nI_nle (by omega) (by omega))) (fun _ => ?_)
  refine lv_iload_n hx hb dX6_remove_8 rfl (lv_at hl 1 rfl) ?_
  refine lv_aload_n hx hb dX6_remove_9 rfl (lv_at hl 0 rfl) ?_
  refine va_get (D := D) (ci := 5) (v := .int (nI xs.length)) (C := RX6) (T := TX6) (N := 2) hx hb hts iX6 hown hK hP 0 rfl rfl 1 (by decide) (hts _ wq914) (fun _ h9 => h9) rfl dX6_remove_10 ?_
  refine lv_iload_n hx hb dX6_remove_13 rfl (lv_at hl 2 rfl) ?_
  refine lv_isub hx hb dX6_remove_14 ?_
  refine lv_icmp_gt (tgt := 63) hx hb dX6_remove_15 (by decide) (fun h9 => absurd h9 (zsuble (by omega) (by omega))) (fun _ => ?_)
  refine lv_aload_n hx hb dX6_remove_18 rfl (lv_at hl 0 rfl) ?_
  refine va_get (D := D) (ci := 5) (v := .int (nI xs.length)) (C := RX6) (T := TX6) (N := 2) hx hb hts iX6 hown hK hP 0 rfl rfl 1 (by decide) (hts _ wq914) (fun _ h9 => h9) rfl dX6_remove_19 ?_
  refine lv_aload_n hx hb dX6_remove_22 rfl (lv_at hl 0 rfl) ?_
  refine va_get (D := D) (ci := 5) (v := .ref x) (C := RX6) (T := TX6) (N := 2) hx hb hts iX6 hown hK hP 0 rfl rfl 0 (by decide) (hts _ wq913) (fun _ h9 => h9) rfl dX6_remove_23 ?_
  refine va_alen hx hb hK hP 1 1 rfl rfl (v := nI cp) rfl dX6_remove_26 ?_
  refine lv_icmp_gt (tgt := 63) hx hb dX6_remove_27 (by decide) (fun h9 => absurd h9 (nI_nlt (by omega) (by omega))) (fun _ => ?_)
  refine lv_aload_n hx hb dX6_remove_30 rfl (lv_at hl 0 rfl) ?_
  refine va_get (D := D) (ci := 5) (v := .ref x) (C := RX6) (T := TX6) (N := 2) hx hb hts iX6 hown hK hP 0 rfl rfl 0 (by decide) (hts _ wq913) (fun _ h9 => h9) rfl dX6_remove_31 ?_
  refine lv_iload_n hx hb dX6_remove_34 rfl (lv_at hl 1 rfl) ?_
  refine lv_iload_n hx hb dX6_remove_35 rfl (lv_at hl 2 rfl) ?_
  refine lv_iadd hx hb dX6_remove_36 ?_
  refine zk_ti (y := nI (a + b)) (nI_add _ _) ?_
  refine lv_aload_n hx hb dX6_remove_37 rfl (lv_at hl 0 rfl) ?_
  refine va_get (D := D) (ci := 5) (v := .ref x) (C := RX6) (T := TX6) (N := 2) hx hb hts iX6 hown hK hP 0 rfl rfl 0 (by decide) (hts _ wq913) (fun _ h9 => h9) rfl dX6_remove_38 ?_
  refine lv_iload_n hx hb dX6_remove_41 rfl (lv_at hl 1 rfl) ?_
  refine lv_aload_n hx hb dX6_remove_42 rfl (lv_at hl 0 rfl) ?_
  refine va_get (D := D) (ci := 5) (v := .int (nI xs.length)) (C := RX6) (T := TX6) (N := 2) hx hb hts iX6 hown hK hP 0 rfl rfl 1 (by decide) (hts _ wq914) (fun _ h9 => h9) rfl dX6_remove_43 ?_
  refine lv_iload_n hx hb dX6_remove_46 rfl (lv_at hl 1 rfl) ?_
  refine lv_isub hx hb dX6_remove_47 ?_
  refine zk_ti (y := nI (xs.length - a)) (pk_sub (by omega)) ?_
  refine lv_iload_n hx hb dX6_remove_48 rfl (lv_at hl 2 rfl) ?_
  refine lv_isub hx hb dX6_remove_49 ?_
  refine zk_ti (y := nI ((xs.length - a) - b)) (pk_sub (by omega)) ?_
  refine va_copyl (ty := .long) hx hb (by rw [hml]; exact hl.1.symm) hown (hts _ wq325) (hts _ wq327) (hts _ wq326) (hts _ wq20) hK hP hD hS 1 1 1 1 rfl rfl rfl rfl rfl (nI_pos (by omega)) (nI_pos (by omega)) (nI_pos (by omega)) (by rw [nI_clamp (by omega), nI_clamp (by omega)]; omega) (by rw [nI_clamp (by omega), nI_clamp (by omega)]; omega) (fun _ _ => rfl) (Nat.le_of_ble_eq_true rfl) (Nat.le_of_ble_eq_true rfl) dX6_remove_50 (fun H locs hP hD hS => ?_)
  have hP : va_P D vwCl [(r, .inr (5, [.ref x, .int (nI xs.length)])), (x, .inl (yc 1, cp, .inr (.inl (va_cpy f f (nI (a + b) : Int32).toNatClampNeg (nI a : Int32).toNatClampNeg (nI ((xs.length - a) - b) : Int32).toNatClampNeg))))] H := hP
  have hD : va_D A [(r, .inr (5, [.ref x, .int (nI xs.length)])), (x, .inl (yc 1, cp, .inr (.inl (va_cpy f f (nI (a + b) : Int32).toNatClampNeg (nI a : Int32).toNatClampNeg (nI ((xs.length - a) - b) : Int32).toNatClampNeg))))] := hD
  refine lv_aload_n hx hb dX6_remove_53 rfl (lv_at hl 0 rfl) ?_
  refine lv_dup hx hb dX6_remove_54 rfl ?_
  refine va_get (D := D) (ci := 5) (v := .int (nI xs.length)) (C := RX6) (T := TX6) (N := 2) hx hb hts iX6 hown hK hP 0 rfl rfl 1 (by decide) (hts _ wq914) (fun _ h9 => h9) rfl dX6_remove_55 ?_
  refine lv_iload_n hx hb dX6_remove_58 rfl (lv_at hl 2 rfl) ?_
  refine lv_isub hx hb dX6_remove_59 ?_
  refine zk_ti (y := nI (xs.length - b)) (pk_sub (by omega)) ?_
  refine va_put (D := D) (ci := 5) (v := .int (nI (xs.length - b))) (ty := .int) (C := RX6) (T := TX6) (N := 2) hx hb hts iX6 tyX6 tyX6_ok nmX6 hown hK hP hD hS 0 rfl rfl 1 (by decide) (hts _ wq914) (fun _ h9 => h9) rfl (by decide +kernel) rfl rfl (Nat.le_of_ble_eq_true rfl) dX6_remove_60 (fun H locs hP hD hS => ?_)
  have hP : va_P D vwCl [(r, .inr (5, [.ref x, .int (nI (xs.length - b))])), (x, .inl (yc 1, cp, .inr (.inl (va_cpy f f (nI (a + b) : Int32).toNatClampNeg (nI a : Int32).toNatClampNeg (nI ((xs.length - a) - b) : Int32).toNatClampNeg))))] H := hP
  have hD : va_D A [(r, .inr (5, [.ref x, .int (nI (xs.length - b))])), (x, .inl (yc 1, cp, .inr (.inl (va_cpy f f (nI (a + b) : Int32).toNatClampNeg (nI a : Int32).toNatClampNeg (nI ((xs.length - a) - b) : Int32).toNatClampNeg))))] := hD
  exact te_row hx hb hr hlk hP hD hS x (va_cpy f f (nI (a + b) : Int32).toNatClampNeg (nI a : Int32).toNatClampNeg (nI ((xs.length - a) - b) : Int32).toNatClampNeg) (xs.length - b) (by simp; omega) (rc_rem hf hab (by omega)) [0, 1] rfl rfl (by first | exact (Nat.le_of_ble_eq_true rfl) | exact Nat.zero_le _ | omega | (dsimp only; omega)) (by first | exact (Nat.le_of_ble_eq_true rfl) | exact Nat.zero_le _ | omega | (dsimp only; omega)) dX6_remove_63
set_option maxHeartbeats 4000000 in
set_option maxRecDepth 100000 in
theorem l_rem0 (l : Launch) (D : va_G) (yc : Nat → ClassId) (e0 : Nat) (r : Nat) (x : Nat) (cp : Nat) (xs : List Int64) (f : Nat → Int64) (sz : Nat) (a : Nat) (hle : xs.length ≤ cp) (hcp : cp ≤ 8388608) (hf : RC (cp, xs) f) (ha : a < 2 ^ 31) : Met l yX6_remove (ws_ yX6_remove cX6_remove 3 none) { frames := 0, cells := 0, slots := 0, locals := 0 } (PR D yc e0 [(r, .inr (5, [.ref x, .int (nI xs.length)])), (x, .inl (yc 1, cp, .inr (.inl f)))] sz [.ref r, .int (nI a), .int (nI 0)]) ((fun A => RQ D yc A r [] (cp, xs)) (va_A [(r, .inr (5, [.ref x, .int (nI xs.length)])), (x, .inl (yc 1, cp, .inr (.inl f)))] sz)) 0 0 (va_A [(r, .inr (5, [.ref x, .int (nI xs.length)])), (x, .inl (yc 1, cp, .inr (.inl f)))] sz) := by
  refine zk_M (y := yX6_remove) (cc := cX6_remove) (maxL := 3) (w := [(r, .inr (5, [.ref x, .int (nI xs.length)])), (x, .inl (yc 1, cp, .inr (.inl f)))]) (av := [.ref r, .int (nI a), .int (nI 0)]) (Qc := (fun A => RQ D yc A r [] (cp, xs))) (by decide) (Nat.le_of_ble_eq_true rfl) ?_
  intro p e s m args below meth c A ls hx hb hml hr hlk hown hnm hts hP hD hS hA hC hl
  have hK := hC.1
  have hN := hC.2.1
  have hl : lv_has ls 3 [(0, .ref r), (1, .int (nI a)), (2, .int (nI 0))] := hl
  refine lv_iload_n hx hb dX6_remove_0 rfl (lv_at hl 1 rfl) ?_
  refine lv_if_lt (tgt := 63) hx hb dX6_remove_1 (by decide) (fun h9 => absurd h9 (nI_pos (by omega))) (fun _ => ?_)
  refine lv_iload_n hx hb dX6_remove_4 rfl (lv_at hl 2 rfl) ?_
  refine lv_if_le (tgt := 63) hx hb dX6_remove_5 (by decide) (fun _ => ?_) (fun h9 => absurd (show nI 0 ≤ nI 0 from nI_le (by omega) (by omega)) h9)
  exact te_row hx hb hr hlk hP hD hS x f xs.length rfl hf [0, 1] rfl rfl (by first | exact (Nat.le_of_ble_eq_true rfl) | exact Nat.zero_le _ | omega | (dsimp only; omega)) (by first | exact (Nat.le_of_ble_eq_true rfl) | exact Nat.zero_le _ | omega | (dsimp only; omega)) dX6_remove_63
set_option maxHeartbeats 4000000 in
set_option maxRecDepth 100000 in
theorem l_remX (l : Launch) (D : va_G) (yc : Nat → ClassId) (e0 : Nat) (r : Nat) (x : Nat) (cp : Nat) (xs : List Int64) (f : Nat → Int64) (sz : Nat) (a : Nat) (b : Nat) (hle : xs.length ≤ cp) (hcp : cp ≤ 8388608) (hf : RC (cp, xs) f) (ha : a < 2 ^ 31) (hb9 : b < 2 ^ 31) (h0 : 0 < b) (hab : xs.length < a + b) : Met l yX6_remove (ws_ yX6_remove cX6_remove 3 none) { frames := 0, cells := 0, slots := 0, locals := 0 } (PR D yc e0 [(r, .inr (5, [.ref x, .int (nI xs.length)])), (x, .inl (yc 1, cp, .inr (.inl f)))] sz [.ref r, .int (nI a), .int (nI b)]) ((fun A => RQ D yc A r [] (cp, xs)) (va_A [(r, .inr (5, [.ref x, .int (nI xs.length)])), (x, .inl (yc 1, cp, .inr (.inl f)))] sz)) 0 0 (va_A [(r, .inr (5, [.ref x, .int (nI xs.length)])), (x, .inl (yc 1, cp, .inr (.inl f)))] sz) := by
  refine zk_M (y := yX6_remove) (cc := cX6_remove) (maxL := 3) (w := [(r, .inr (5, [.ref x, .int (nI xs.length)])), (x, .inl (yc 1, cp, .inr (.inl f)))]) (av := [.ref r, .int (nI a), .int (nI b)]) (Qc := (fun A => RQ D yc A r [] (cp, xs))) (by decide) (Nat.le_of_ble_eq_true rfl) ?_
  intro p e s m args below meth c A ls hx hb hml hr hlk hown hnm hts hP hD hS hA hC hl
  have hK := hC.1
  have hN := hC.2.1
  have hl : lv_has ls 3 [(0, .ref r), (1, .int (nI a)), (2, .int (nI b))] := hl
  refine lv_iload_n hx hb dX6_remove_0 rfl (lv_at hl 1 rfl) ?_
  refine lv_if_lt (tgt := 63) hx hb dX6_remove_1 (by decide) (fun h9 => absurd h9 (nI_pos (by omega))) (fun _ => ?_)
  refine lv_iload_n hx hb dX6_remove_4 rfl (lv_at hl 2 rfl) ?_
  refine lv_if_le (tgt := 63) hx hb dX6_remove_5 (by decide) (fun h9 => absurd h9 (nI_nle (by omega) (by omega))) (fun _ => ?_)
  refine lv_iload_n hx hb dX6_remove_8 rfl (lv_at hl 1 rfl) ?_
  refine lv_aload_n hx hb dX6_remove_9 rfl (lv_at hl 0 rfl) ?_
  refine va_get (D := D) (ci := 5) (v := .int (nI xs.length)) (C := RX6) (T := TX6) (N := 2) hx hb hts iX6 hown hK hP 0 rfl rfl 1 (by decide) (hts _ wq914) (fun _ h9 => h9) rfl dX6_remove_10 ?_
  refine lv_iload_n hx hb dX6_remove_13 rfl (lv_at hl 2 rfl) ?_
  refine lv_isub hx hb dX6_remove_14 ?_
  refine lv_icmp_gt (tgt := 63) hx hb dX6_remove_15 (by decide) (fun _ => ?_) (fun h9 => absurd (zsubgt hab (by omega) (by omega) (by omega)) h9)
  exact te_row hx hb hr hlk hP hD hS x f xs.length rfl hf [0, 1] rfl rfl (by first | exact (Nat.le_of_ble_eq_true rfl) | exact Nat.zero_le _ | omega | (dsimp only; omega)) (by first | exact (Nat.le_of_ble_eq_true rfl) | exact Nat.zero_le _ | omega | (dsimp only; omega)) dX6_remove_63
set_option maxHeartbeats 4000000 in
set_option maxRecDepth 100000 in
theorem l_sho (l : Launch) (D : va_G) (yc : Nat → ClassId) (e0 : Nat) (r : Nat) (x : Nat) (cp : Nat) (xs : List Int64) (f : Nat → Int64) (sz : Nat) (j : Nat) (hle : xs.length ≤ cp) (hcp : cp ≤ 8388608) (hf : RC (cp, xs) f) (hj : j < xs.length) : Met l yX6_shorten (ws_ yX6_shorten cX6_shorten 2 none) { frames := 0, cells := 0, slots := 0, locals := 0 } (PR D yc e0 [(r, .inr (5, [.ref x, .int (nI xs.length)])), (x, .inl (yc 1, cp, .inr (.inl f)))] sz [.ref r, .int (nI j)]) ((fun A => RQ D yc A r [] (cp, xs.take j)) (va_A [(r, .inr (5, [.ref x, .int (nI xs.length)])), (x, .inl (yc 1, cp, .inr (.inl f)))] sz)) 0 0 (va_A [(r, .inr (5, [.ref x, .int (nI xs.length)])), (x, .inl (yc 1, cp, .inr (.inl f)))] sz) := by
  refine zk_M (y := yX6_shorten) (cc := cX6_shorten) (maxL := 2) (w := [(r, .inr (5, [.ref x, .int (nI xs.length)])), (x, .inl (yc 1, cp, .inr (.inl f)))]) (av := [.ref r, .int (nI j)]) (Qc := (fun A => RQ D yc A r [] (cp, xs.take j))) (by decide) (Nat.le_of_ble_eq_true rfl) ?_
  intro p e s m args below meth c A ls hx hb hml hr hlk hown hnm hts hP hD hS hA hC hl
  have hK := hC.1
  have hN := hC.2.1
  have hl : lv_has ls 2 [(0, .ref r), (1, .int (nI j))] := hl
  refine lv_iload_n hx hb dX6_shorten_0 rfl (lv_at hl 1 rfl) ?_
  refine lv_if_lt (tgt := 17) hx hb dX6_shorten_1 (by decide) (fun h9 => absurd h9 (nI_pos (by omega))) (fun _ => ?_)
  refine lv_iload_n hx hb dX6_shorten_4 rfl (lv_at hl 1 rfl) ?_
  refine lv_aload_n hx hb dX6_shorten_5 rfl (lv_at hl 0 rfl) ?_
  refine va_get (D := D) (ci := 5) (v := .int (nI xs.length)) (C := RX6) (T := TX6) (N := 2) hx hb hts iX6 hown hK hP 0 rfl rfl 1 (by decide) (hts _ wq914) (fun _ h9 => h9) rfl dX6_shorten_6 ?_
  refine lv_icmp_ge (tgt := 17) hx hb dX6_shorten_9 (by decide) (fun h9 => absurd h9 (nI_ge (by omega) (by omega))) (fun _ => ?_)
  refine lv_aload_n hx hb dX6_shorten_12 rfl (lv_at hl 0 rfl) ?_
  refine lv_iload_n hx hb dX6_shorten_13 rfl (lv_at hl 1 rfl) ?_
  refine va_put (D := D) (ci := 5) (v := .int (nI j)) (ty := .int) (C := RX6) (T := TX6) (N := 2) hx hb hts iX6 tyX6 tyX6_ok nmX6 hown hK hP hD hS 0 rfl rfl 1 (by decide) (hts _ wq914) (fun _ h9 => h9) rfl (by decide +kernel) rfl rfl (Nat.le_of_ble_eq_true rfl) dX6_shorten_14 (fun H locs hP hD hS => ?_)
  have hP : va_P D vwCl [(r, .inr (5, [.ref x, .int (nI j)])), (x, .inl (yc 1, cp, .inr (.inl f)))] H := hP
  have hD : va_D A [(r, .inr (5, [.ref x, .int (nI j)])), (x, .inl (yc 1, cp, .inr (.inl f)))] := hD
  exact te_row hx hb hr hlk hP hD hS x f j (by simp; omega) (rc_take hf) [0, 1] rfl rfl (by first | exact (Nat.le_of_ble_eq_true rfl) | exact Nat.zero_le _ | omega | (dsimp only; omega)) (by first | exact (Nat.le_of_ble_eq_true rfl) | exact Nat.zero_le _ | omega | (dsimp only; omega)) dX6_shorten_17
set_option maxHeartbeats 4000000 in
set_option maxRecDepth 100000 in
theorem l_sho0 (l : Launch) (D : va_G) (yc : Nat → ClassId) (e0 : Nat) (r : Nat) (x : Nat) (cp : Nat) (xs : List Int64) (f : Nat → Int64) (sz : Nat) (j : Nat) (hle : xs.length ≤ cp) (hcp : cp ≤ 8388608) (hf : RC (cp, xs) f) (hj : xs.length ≤ j) (hj2 : j < 2 ^ 31) : Met l yX6_shorten (ws_ yX6_shorten cX6_shorten 2 none) { frames := 0, cells := 0, slots := 0, locals := 0 } (PR D yc e0 [(r, .inr (5, [.ref x, .int (nI xs.length)])), (x, .inl (yc 1, cp, .inr (.inl f)))] sz [.ref r, .int (nI j)]) ((fun A => RQ D yc A r [] (cp, xs)) (va_A [(r, .inr (5, [.ref x, .int (nI xs.length)])), (x, .inl (yc 1, cp, .inr (.inl f)))] sz)) 0 0 (va_A [(r, .inr (5, [.ref x, .int (nI xs.length)])), (x, .inl (yc 1, cp, .inr (.inl f)))] sz) := by
  refine zk_M (y := yX6_shorten) (cc := cX6_shorten) (maxL := 2) (w := [(r, .inr (5, [.ref x, .int (nI xs.length)])), (x, .inl (yc 1, cp, .inr (.inl f)))]) (av := [.ref r, .int (nI j)]) (Qc := (fun A => RQ D yc A r [] (cp, xs))) (by decide) (Nat.le_of_ble_eq_true rfl) ?_
  intro p e s m args below meth c A ls hx hb hml hr hlk hown hnm hts hP hD hS hA hC hl
  have hK := hC.1
  have hN := hC.2.1
  have hl : lv_has ls 2 [(0, .ref r), (1, .int (nI j))] := hl
  refine lv_iload_n hx hb dX6_shorten_0 rfl (lv_at hl 1 rfl) ?_
  refine lv_if_lt (tgt := 17) hx hb dX6_shorten_1 (by decide) (fun h9 => absurd h9 (nI_pos (by omega))) (fun _ => ?_)
  refine lv_iload_n hx hb dX6_shorten_4 rfl (lv_at hl 1 rfl) ?_
  refine lv_aload_n hx hb dX6_shorten_5 rfl (lv_at hl 0 rfl) ?_
  refine va_get (D := D) (ci := 5) (v := .int (nI xs.length)) (C := RX6) (T := TX6) (N := 2) hx hb hts iX6 hown hK hP 0 rfl rfl 1 (by decide) (hts _ wq914) (fun _ h9 => h9) rfl dX6_shorten_6 ?_
  refine lv_icmp_ge (tgt := 17) hx hb dX6_shorten_9 (by decide) (fun _ => ?_) (fun h9 => absurd (nI_le (by omega) (by omega)) h9)
  exact te_row hx hb hr hlk hP hD hS x f xs.length rfl hf [0, 1] rfl rfl (by first | exact (Nat.le_of_ble_eq_true rfl) | exact Nat.zero_le _ | omega | (dsimp only; omega)) (by first | exact (Nat.le_of_ble_eq_true rfl) | exact Nat.zero_le _ | omega | (dsimp only; omega)) dX6_shorten_17
set_option maxHeartbeats 4000000 in
set_option maxRecDepth 100000 in
theorem l_shoN (l : Launch) (D : va_G) (yc : Nat → ClassId) (e0 : Nat) (r : Nat) (x : Nat) (cp : Nat) (xs : List Int64) (f : Nat → Int64) (sz : Nat) (i1 : Int32) (hle : xs.length ≤ cp) (hcp : cp ≤ 8388608) (hf : RC (cp, xs) f) (hj : i1 < 0) : Met l yX6_shorten (ws_ yX6_shorten cX6_shorten 2 none) { frames := 0, cells := 0, slots := 0, locals := 0 } (PR D yc e0 [(r, .inr (5, [.ref x, .int (nI xs.length)])), (x, .inl (yc 1, cp, .inr (.inl f)))] sz [.ref r, .int i1]) ((fun A => RQ D yc A r [] (cp, xs)) (va_A [(r, .inr (5, [.ref x, .int (nI xs.length)])), (x, .inl (yc 1, cp, .inr (.inl f)))] sz)) 0 0 (va_A [(r, .inr (5, [.ref x, .int (nI xs.length)])), (x, .inl (yc 1, cp, .inr (.inl f)))] sz) := by
  refine zk_M (y := yX6_shorten) (cc := cX6_shorten) (maxL := 2) (w := [(r, .inr (5, [.ref x, .int (nI xs.length)])), (x, .inl (yc 1, cp, .inr (.inl f)))]) (av := [.ref r, .int i1]) (Qc := (fun A => RQ D yc A r [] (cp, xs))) (by decide) (Nat.le_of_ble_eq_true rfl) ?_
  intro p e s m args below meth c A ls hx hb hml hr hlk hown hnm hts hP hD hS hA hC hl
  have hK := hC.1
  have hN := hC.2.1
  have hl : lv_has ls 2 [(0, .ref r), (1, .int i1)] := hl
  refine lv_iload_n hx hb dX6_shorten_0 rfl (lv_at hl 1 rfl) ?_
  refine lv_if_lt (tgt := 17) hx hb dX6_shorten_1 (by decide) (fun _ => ?_) (fun h9 => absurd hj h9)
  exact te_row hx hb hr hlk hP hD hS x f xs.length rfl hf [0, 1] rfl rfl (by first | exact (Nat.le_of_ble_eq_true rfl) | exact Nat.zero_le _ | omega | (dsimp only; omega)) (by first | exact (Nat.le_of_ble_eq_true rfl) | exact Nat.zero_le _ | omega | (dsimp only; omega)) dX6_shorten_17
set_option maxHeartbeats 4000000 in
theorem lp_room {p : Program} {l : Launch} {e : Env} {R : Room} {s : State} {m : MethodId} {args : Array Value} {below : List Frame} {meth : Method} {c : Code} {H : Heap} {locs : List Loc} {cells slots : Nat} {Q : State → Prop} (hx : p.tables.exec = Jvm.exec) (hb : c.code = cX6_become) (hown : s.vm.findClass yX6_become.cls = some m.cls) (hts : ∀ w ∈ lw_all, w.before args s = true) (W9 r9 r8 rm : Nat) (fr9 i9 : Int32) (hw9 : W9 ≤ 8388608) (kk : ∀ ls : Array Slot, lv_has ls 7 [(5, .int (nI rm)), (4, .int (nI W9)), (3, .int fr9), (0, .ref r9), (1, .ref r8), (2, .int i9)] → W p l e R s m args below meth c H locs cells slots Q (F0 m 71 ls [])) : ∀ (n z : Nat) (ls : Array Slot), z + n = 30 → z ≤ 20 → zroom n (8 * 2 ^ z) W9 = rm → lv_has ls 7 [(6, .int (nI z)), (5, .int (nI (8 * 2 ^ z))), (4, .int (nI W9)), (3, .int fr9), (0, .ref r9), (1, .ref r8), (2, .int i9)] → W p l e R s m args below meth c H locs cells slots Q (F0 m 45 ls []) := by
  intro n
  induction n with
  | zero =>
    intro z ls hz hz20 hr hl
    exact absurd hz (by omega)
  | succ n ih =>
    intro z ls hz hz20 hr hl
    have hp9 : 2 ^ z ≤ 2 ^ 20 := Nat.pow_le_pow_right (by decide) hz20
    have hp8 : (2 : Nat) ^ 20 = 1048576 := by decide
    by_cases hlt : 8 * 2 ^ z < W9
    · have hz2 : z < 20 := by
        rcases Nat.lt_or_ge z 20 with h1 | h1
        · exact h1
        · have e : z = 20 := by omega
          subst e
          omega
      have e9 : zroom n (8 * 2 ^ (z + 1)) W9 = rm := by rw [← hr]; show _ = (if _ then _ else _); rw [if_pos hlt, show 2 * (8 * 2 ^ z) = 8 * 2 ^ (z + 1) by rw [Nat.pow_succ]; omega]
      refine lv_iload hx hb dX6_become_45 (lv_at hl 0 rfl) ?_
      refine lv_bipush (v := 30) hx hb dX6_become_47 (by decide) ?_
      refine lv_icmp_ge (tgt := 71) hx hb dX6_become_49 (by decide) (fun h9 => absurd h9 (show ¬ nI 30 ≤ nI z from nI_ge (by omega) (by omega))) (fun _ => ?_)
      refine lv_iload hx hb dX6_become_52 (lv_at hl 1 rfl) ?_
      refine lv_iload hx hb dX6_become_54 (lv_at hl 2 rfl) ?_
      refine lv_icmp_ge (tgt := 71) hx hb dX6_become_56 (by decide) (fun h9 => absurd h9 (nI_ge (by omega) (by omega))) (fun _ => ?_)
      refine lv_iload hx hb dX6_become_59 (lv_at hl 1 rfl) ?_
      refine lv_iconst (v := 2) hx hb dX6_become_61 (by decide) ?_
      refine lv_imul hx hb dX6_become_62 ?_
      refine zk_ti (y := nI (2 * (8 * 2 ^ z))) (by rw [show (2 : Int32) = nI 2 from rfl, pk_mul, Nat.mul_comm]) ?_
      refine zk_ti (y := nI (8 * 2 ^ (z + 1))) (by rw [show 2 * (8 * 2 ^ z) = 8 * 2 ^ (z + 1) by rw [Nat.pow_succ]; omega]) ?_
      refine lv_istore (lv' := [(5, .int (nI (8 * 2 ^ (z + 1)))), (6, .int (nI z)), (4, .int (nI W9)), (3, .int fr9), (0, .ref r9), (1, .ref r8), (2, .int i9)]) hx hb dX6_become_63 hl (by decide) rfl (fun ls hl => ?_)
      refine lv_iinc (v := nI (z + 1)) (lv' := [(6, .int (nI (z + 1))), (5, .int (nI (8 * 2 ^ (z + 1)))), (4, .int (nI W9)), (3, .int fr9), (0, .ref r9), (1, .ref r8), (2, .int i9)]) hx hb dX6_become_65 hl (k := 1) rfl (nI_1 _) (by decide) rfl (fun ls hl => ?_)
      refine lv_goto (tgt := 45) hx hb dX6_become_68 (by decide) ?_
      exact ih (z + 1) _ (by omega) (by omega) e9 (lv_sub hl [0, 1, 2, 3, 4, 5, 6] rfl)
    · have e9 : 8 * 2 ^ z = rm := by rw [← hr]; show _ = (if _ then _ else _); rw [if_neg hlt]
      refine lv_iload hx hb dX6_become_45 (lv_at hl 0 rfl) ?_
      refine lv_bipush (v := 30) hx hb dX6_become_47 (by decide) ?_
      refine lv_icmp_ge (tgt := 71) hx hb dX6_become_49 (by decide) (fun h9 => absurd h9 (show ¬ nI 30 ≤ nI z from nI_ge (by omega) (by omega))) (fun _ => ?_)
      refine lv_iload hx hb dX6_become_52 (lv_at hl 1 rfl) ?_
      refine lv_iload hx hb dX6_become_54 (lv_at hl 2 rfl) ?_
      refine lv_icmp_ge (tgt := 71) hx hb dX6_become_56 (by decide) (fun _ => ?_) (fun h9 => absurd (nI_le (by omega) (by omega)) h9)
      rw [e9] at hl
      exact kk _ (lv_sub hl [1, 2, 3, 4, 5, 6] rfl)
set_option maxHeartbeats 4000000 in
set_option maxRecDepth 100000 in
theorem l_bec (l : Launch) (D : va_G) (yc : Nat → ClassId) (e0 : Nat) (r : Nat) (x : Nat) (cp : Nat) (xs : List Int64) (f : Nat → Int64) (sz : Nat) (r2 : Nat) (x2 : Nat) (cq : Nat) (ys : List Int64) (g : Nat → Int64) (i1 : Int32) (hle : xs.length ≤ cp) (hcp : cp ≤ 8388608) (hf : RC (cp, xs) f) (hle2 : ys.length ≤ cq) (hcq : cq ≤ 8388608) (hg : RC (cq, ys) g) (hw : ys.length - zfrom i1 ys.length ≤ cp) : Met l yX6_become (ws_ yX6_become cX6_become 7 none) { frames := 1, cells := 0, slots := 0, locals := 40 } (PR D yc e0 [(r, .inr (5, [.ref x, .int (nI xs.length)])), (x, .inl (yc 1, cp, .inr (.inl f))), (r2, .inr (5, [.ref x2, .int (nI ys.length)])), (x2, .inl (yc 1, cq, .inr (.inl g)))] sz [.ref r, .ref r2, .int i1]) ((fun A => RQ D yc A r (RW yc r2 x2 cq ys.length g) (cp, ys.drop (zfrom i1 ys.length))) (va_A [(r, .inr (5, [.ref x, .int (nI xs.length)])), (x, .inl (yc 1, cp, .inr (.inl f))), (r2, .inr (5, [.ref x2, .int (nI ys.length)])), (x2, .inl (yc 1, cq, .inr (.inl g)))] sz)) 0 0 (va_A [(r, .inr (5, [.ref x, .int (nI xs.length)])), (x, .inl (yc 1, cp, .inr (.inl f))), (r2, .inr (5, [.ref x2, .int (nI ys.length)])), (x2, .inl (yc 1, cq, .inr (.inl g)))] sz) := by
  refine zk_M (y := yX6_become) (cc := cX6_become) (maxL := 7) (w := [(r, .inr (5, [.ref x, .int (nI xs.length)])), (x, .inl (yc 1, cp, .inr (.inl f))), (r2, .inr (5, [.ref x2, .int (nI ys.length)])), (x2, .inl (yc 1, cq, .inr (.inl g)))]) (av := [.ref r, .ref r2, .int i1]) (Qc := (fun A => RQ D yc A r (RW yc r2 x2 cq ys.length g) (cp, ys.drop (zfrom i1 ys.length)))) (by decide) (Nat.le_of_ble_eq_true rfl) ?_
  intro p e s m args below meth c A ls hx hb hml hr hlk hown hnm hts hP hD hS hA hC hl
  have hK := hC.1
  have hN := hC.2.1
  have hl : lv_has ls 7 [(0, .ref r), (1, .ref r2), (2, .int i1)] := hl
  have hfr := (zfrom_ok i1 (n := ys.length) (by omega)).2
  refine lv_iconst (v := 0) hx hb dX6_become_0 (by decide) ?_
  refine lv_iload_n hx hb dX6_become_1 rfl (lv_at hl 2 rfl) ?_
  refine lv_aload_n hx hb dX6_become_2 rfl (lv_at hl 1 rfl) ?_
  refine va_get (D := D) (ci := 5) (v := .int (nI ys.length)) (C := RX6) (T := TX6) (N := 2) hx hb hts iX6 hown hK hP 2 rfl rfl 1 (by decide) (hts _ wq914) (fun _ h9 => h9) rfl dX6_become_3 ?_
  refine va_mmin hx hb (by rw [hml]; exact hl.1.symm) hown (hts _ wq373) (hts _ wq300) (hts _ wq14) (hts _ wq301) (Nat.le_of_ble_eq_true rfl) (Nat.le_of_ble_eq_true rfl) (by first | exact (Nat.le_of_ble_eq_true rfl) | exact Nat.zero_le _ | omega | (dsimp only; omega)) (by first | exact (Nat.le_of_ble_eq_true rfl) | exact Nat.zero_le _ | omega | (dsimp only; omega)) dX6_become_6 ?_
  refine zk_ti (y := zmin i1 (nI ys.length)) rfl ?_
  refine va_mmax hx hb (by rw [hml]; exact hl.1.symm) hown (hts _ wq374) (hts _ wq375) (hts _ wq14) (hts _ wq376) (Nat.le_of_ble_eq_true rfl) (Nat.le_of_ble_eq_true rfl) (by first | exact (Nat.le_of_ble_eq_true rfl) | exact Nat.zero_le _ | omega | (dsimp only; omega)) (by first | exact (Nat.le_of_ble_eq_true rfl) | exact Nat.zero_le _ | omega | (dsimp only; omega)) dX6_become_9 ?_
  refine zk_ti (y := zmax 0 (zmin i1 (nI ys.length))) rfl ?_
  refine zk_ti (y := nI (zfrom i1 ys.length)) (zfrom_ok i1 (by omega)).1 ?_
  refine lv_istore_n (lv' := [(3, .int (nI (zfrom i1 ys.length))), (0, .ref r), (1, .ref r2), (2, .int i1)]) hx hb dX6_become_12 rfl hl (by decide) rfl (fun ls hl => ?_)
  refine lv_aload_n hx hb dX6_become_13 rfl (lv_at hl 2 rfl) ?_
  refine va_get (D := D) (ci := 5) (v := .int (nI ys.length)) (C := RX6) (T := TX6) (N := 2) hx hb hts iX6 hown hK hP 2 rfl rfl 1 (by decide) (hts _ wq914) (fun _ h9 => h9) rfl dX6_become_14 ?_
  refine lv_iload_n hx hb dX6_become_17 rfl (lv_at hl 0 rfl) ?_
  refine lv_isub hx hb dX6_become_18 ?_
  refine zk_ti (y := nI (ys.length - (zfrom i1 ys.length))) (pk_sub (by omega)) ?_
  refine lv_istore (lv' := [(4, .int (nI (ys.length - (zfrom i1 ys.length)))), (3, .int (nI (zfrom i1 ys.length))), (0, .ref r), (1, .ref r2), (2, .int i1)]) hx hb dX6_become_19 hl (by decide) rfl (fun ls hl => ?_)
  refine lv_iload hx hb dX6_become_21 (lv_at hl 0 rfl) ?_
  refine lv_aload_n hx hb dX6_become_23 rfl (lv_at hl 2 rfl) ?_
  refine va_get (D := D) (ci := 5) (v := .ref x) (C := RX6) (T := TX6) (N := 2) hx hb hts iX6 hown hK hP 0 rfl rfl 0 (by decide) (hts _ wq913) (fun _ h9 => h9) rfl dX6_become_24 ?_
  refine va_alen hx hb hK hP 1 1 rfl rfl (v := nI cp) rfl dX6_become_27 ?_
  refine lv_icmp_le (tgt := 79) hx hb dX6_become_28 (by decide) (fun _ => ?_) (fun h9 => absurd (nI_le (by omega) (by omega)) h9)
  refine lv_iload hx hb dX6_become_79 (lv_at hl 0 rfl) ?_
  refine lv_aload_n hx hb dX6_become_81 rfl (lv_at hl 2 rfl) ?_
  refine va_get (D := D) (ci := 5) (v := .ref x) (C := RX6) (T := TX6) (N := 2) hx hb hts iX6 hown hK hP 0 rfl rfl 0 (by decide) (hts _ wq913) (fun _ h9 => h9) rfl dX6_become_82 ?_
  refine va_alen hx hb hK hP 1 1 rfl rfl (v := nI cp) rfl dX6_become_85 ?_
  refine lv_icmp_gt (tgt := 122) hx hb dX6_become_86 (by decide) (fun h9 => absurd h9 (nI_nlt (by omega) (by omega))) (fun _ => ?_)
  refine lv_aload_n hx hb dX6_become_89 rfl (lv_at hl 3 rfl) ?_
  refine va_get (D := D) (ci := 5) (v := .int (nI ys.length)) (C := RX6) (T := TX6) (N := 2) hx hb hts iX6 hown hK hP 2 rfl rfl 1 (by decide) (hts _ wq914) (fun _ h9 => h9) rfl dX6_become_90 ?_
  refine lv_aload_n hx hb dX6_become_93 rfl (lv_at hl 3 rfl) ?_
  refine va_get (D := D) (ci := 5) (v := .ref x2) (C := RX6) (T := TX6) (N := 2) hx hb hts iX6 hown hK hP 2 rfl rfl 0 (by decide) (hts _ wq913) (fun _ h9 => h9) rfl dX6_become_94 ?_
  refine va_alen hx hb hK hP 3 1 rfl rfl (v := nI cq) rfl dX6_become_97 ?_
  refine lv_icmp_gt (tgt := 122) hx hb dX6_become_98 (by decide) (fun h9 => absurd h9 (nI_nlt (by omega) (by omega))) (fun _ => ?_)
  refine lv_aload_n hx hb dX6_become_101 rfl (lv_at hl 3 rfl) ?_
  refine va_get (D := D) (ci := 5) (v := .ref x2) (C := RX6) (T := TX6) (N := 2) hx hb hts iX6 hown hK hP 2 rfl rfl 0 (by decide) (hts _ wq913) (fun _ h9 => h9) rfl dX6_become_102 ?_
  refine lv_iload_n hx hb dX6_become_105 rfl (lv_at hl 1 rfl) ?_
  refine lv_aload_n hx hb dX6_become_106 rfl (lv_at hl 2 rfl) ?_
  refine va_get (D := D) (ci := 5) (v := .ref x) (C := RX6) (T := TX6) (N := 2) hx hb hts iX6 hown hK hP 0 rfl rfl 0 (by decide) (hts _ wq913) (fun _ h9 => h9) rfl dX6_become_107 ?_
  refine lv_iconst (v := 0) hx hb dX6_become_110 (by decide) ?_
  refine lv_iload hx hb dX6_become_111 (lv_at hl 0 rfl) ?_
  refine va_copyl (ty := .long) hx hb (by rw [hml]; exact hl.1.symm) hown (hts _ wq325) (hts _ wq327) (hts _ wq326) (hts _ wq20) hK hP hD hS 3 1 1 1 rfl rfl rfl rfl rfl (nI_pos (by omega)) (by decide) (nI_pos (by omega)) (by rw [nI_clamp (by omega), nI_clamp (by omega)]; omega) (by rw [zc0, nI_clamp (by omega)]; omega) (fun _ _ => rfl) (Nat.le_of_ble_eq_true rfl) (Nat.le_of_ble_eq_true rfl) dX6_become_113 (fun H locs hP hD hS => ?_)
  have hP : va_P D vwCl [(r, .inr (5, [.ref x, .int (nI xs.length)])), (x, .inl (yc 1, cp, .inr (.inl (va_cpy g f (nI (zfrom i1 ys.length) : Int32).toNatClampNeg (0 : Int32).toNatClampNeg (nI (ys.length - (zfrom i1 ys.length)) : Int32).toNatClampNeg)))), (r2, .inr (5, [.ref x2, .int (nI ys.length)])), (x2, .inl (yc 1, cq, .inr (.inl g)))] H := hP
  have hD : va_D A [(r, .inr (5, [.ref x, .int (nI xs.length)])), (x, .inl (yc 1, cp, .inr (.inl (va_cpy g f (nI (zfrom i1 ys.length) : Int32).toNatClampNeg (0 : Int32).toNatClampNeg (nI (ys.length - (zfrom i1 ys.length)) : Int32).toNatClampNeg)))), (r2, .inr (5, [.ref x2, .int (nI ys.length)])), (x2, .inl (yc 1, cq, .inr (.inl g)))] := hD
  refine lv_aload_n hx hb dX6_become_116 rfl (lv_at hl 2 rfl) ?_
  refine lv_iload hx hb dX6_become_117 (lv_at hl 0 rfl) ?_
  refine va_put (D := D) (ci := 5) (v := .int (nI (ys.length - (zfrom i1 ys.length)))) (ty := .int) (C := RX6) (T := TX6) (N := 2) hx hb hts iX6 tyX6 tyX6_ok nmX6 hown hK hP hD hS 0 rfl rfl 1 (by decide) (hts _ wq914) (fun _ h9 => h9) rfl (by decide +kernel) rfl rfl (Nat.le_of_ble_eq_true rfl) dX6_become_119 (fun H locs hP hD hS => ?_)
  have hP : va_P D vwCl [(r, .inr (5, [.ref x, .int (nI (ys.length - (zfrom i1 ys.length)))])), (x, .inl (yc 1, cp, .inr (.inl (va_cpy g f (nI (zfrom i1 ys.length) : Int32).toNatClampNeg (0 : Int32).toNatClampNeg (nI (ys.length - (zfrom i1 ys.length)) : Int32).toNatClampNeg)))), (r2, .inr (5, [.ref x2, .int (nI ys.length)])), (x2, .inl (yc 1, cq, .inr (.inl g)))] H := hP
  have hD : va_D A [(r, .inr (5, [.ref x, .int (nI (ys.length - (zfrom i1 ys.length)))])), (x, .inl (yc 1, cp, .inr (.inl (va_cpy g f (nI (zfrom i1 ys.length) : Int32).toNatClampNeg (0 : Int32).toNatClampNeg (nI (ys.length - (zfrom i1 ys.length)) : Int32).toNatClampNeg)))), (r2, .inr (5, [.ref x2, .int (nI ys.length)])), (x2, .inl (yc 1, cq, .inr (.inl g)))] := hD
  exact te_row hx hb hr hlk hP hD hS x (va_cpy g f (nI (zfrom i1 ys.length) : Int32).toNatClampNeg (0 : Int32).toNatClampNeg (nI (ys.length - (zfrom i1 ys.length)) : Int32).toNatClampNeg) (ys.length - (zfrom i1 ys.length)) List.length_drop (rc_bec hg hfr (by omega)) [0, 1, 2, 3] rfl rfl (by first | exact (Nat.le_of_ble_eq_true rfl) | exact Nat.zero_le _ | omega | (dsimp only; omega)) (by first | exact (Nat.le_of_ble_eq_true rfl) | exact Nat.zero_le _ | omega | (dsimp only; omega)) dX6_become_122
set_option maxHeartbeats 4000000 in
set_option maxRecDepth 100000 in
theorem l_becG (l : Launch) (D : va_G) (yc : Nat → ClassId) (e0 : Nat) (r : Nat) (x : Nat) (cp : Nat) (xs : List Int64) (f : Nat → Int64) (sz : Nat) (r2 : Nat) (x2 : Nat) (cq : Nat) (ys : List Int64) (g : Nat → Int64) (i1 : Int32) (rm : Nat) (hle : xs.length ≤ cp) (hcp : cp ≤ 8388608) (hf : RC (cp, xs) f) (hle2 : ys.length ≤ cq) (hcq : cq ≤ 8388608) (hg : RC (cq, ys) g) (hw : cp < ys.length - zfrom i1 ys.length) (hrm : zroom 30 8 (ys.length - zfrom i1 ys.length) = rm) : Met l yX6_become (ws_ yX6_become cX6_become 7 none) { frames := 1, cells := 1, slots := rm, locals := 40 } (PR D yc e0 [(r, .inr (5, [.ref x, .int (nI xs.length)])), (x, .inl (yc 1, cp, .inr (.inl f))), (r2, .inr (5, [.ref x2, .int (nI ys.length)])), (x2, .inl (yc 1, cq, .inr (.inl g)))] sz [.ref r, .ref r2, .int i1]) ((fun A => RQ D yc A r (RW yc r2 x2 cq ys.length g) (rm, ys.drop (zfrom i1 ys.length))) (va_A [(r, .inr (5, [.ref x, .int (nI xs.length)])), (x, .inl (yc 1, cp, .inr (.inl f))), (r2, .inr (5, [.ref x2, .int (nI ys.length)])), (x2, .inl (yc 1, cq, .inr (.inl g)))] sz)) 1 rm (va_A [(r, .inr (5, [.ref x, .int (nI xs.length)])), (x, .inl (yc 1, cp, .inr (.inl f))), (r2, .inr (5, [.ref x2, .int (nI ys.length)])), (x2, .inl (yc 1, cq, .inr (.inl g)))] sz) := by
  refine zk_M (y := yX6_become) (cc := cX6_become) (maxL := 7) (w := [(r, .inr (5, [.ref x, .int (nI xs.length)])), (x, .inl (yc 1, cp, .inr (.inl f))), (r2, .inr (5, [.ref x2, .int (nI ys.length)])), (x2, .inl (yc 1, cq, .inr (.inl g)))]) (av := [.ref r, .ref r2, .int i1]) (Qc := (fun A => RQ D yc A r (RW yc r2 x2 cq ys.length g) (rm, ys.drop (zfrom i1 ys.length)))) (by decide) (Nat.le_of_ble_eq_true rfl) ?_
  intro p e s m args below meth c A ls hx hb hml hr hlk hown hnm hts hP hD hS hA hC hl
  have hK := hC.1
  have hN := hC.2.1
  have hl : lv_has ls 7 [(0, .ref r), (1, .ref r2), (2, .int i1)] := hl
  have hfr := (zfrom_ok i1 (n := ys.length) (by omega)).2
  have hz9 := zroom_ok 30 0 (ys.length - zfrom i1 ys.length) rfl (by omega) (by omega)
  rw [show zroom 30 (8 * 2 ^ 0) (ys.length - zfrom i1 ys.length) = rm from hrm] at hz9
  have hz5 := hz9.2.1.le
  have hz6 := hz9.1
  refine lv_iconst (v := 0) hx hb dX6_become_0 (by decide) ?_
  refine lv_iload_n hx hb dX6_become_1 rfl (lv_at hl 2 rfl) ?_
  refine lv_aload_n hx hb dX6_become_2 rfl (lv_at hl 1 rfl) ?_
  refine va_get (D := D) (ci := 5) (v := .int (nI ys.length)) (C := RX6) (T := TX6) (N := 2) hx hb hts iX6 hown hK hP 2 rfl rfl 1 (by decide) (hts _ wq914) (fun _ h9 => h9) rfl dX6_become_3 ?_
  refine va_mmin hx hb (by rw [hml]; exact hl.1.symm) hown (hts _ wq373) (hts _ wq300) (hts _ wq14) (hts _ wq301) (Nat.le_of_ble_eq_true rfl) (Nat.le_of_ble_eq_true rfl) (by first | exact (Nat.le_of_ble_eq_true rfl) | exact Nat.zero_le _ | omega | (dsimp only; omega)) (by first | exact (Nat.le_of_ble_eq_true rfl) | exact Nat.zero_le _ | omega | (dsimp only; omega)) dX6_become_6 ?_
  refine zk_ti (y := zmin i1 (nI ys.length)) rfl ?_
  refine va_mmax hx hb (by rw [hml]; exact hl.1.symm) hown (hts _ wq374) (hts _ wq375) (hts _ wq14) (hts _ wq376) (Nat.le_of_ble_eq_true rfl) (Nat.le_of_ble_eq_true rfl) (by first | exact (Nat.le_of_ble_eq_true rfl) | exact Nat.zero_le _ | omega | (dsimp only; omega)) (by first | exact (Nat.le_of_ble_eq_true rfl) | exact Nat.zero_le _ | omega | (dsimp only; omega)) dX6_become_9 ?_
  refine zk_ti (y := zmax 0 (zmin i1 (nI ys.length))) rfl ?_
  refine zk_ti (y := nI (zfrom i1 ys.length)) (zfrom_ok i1 (by omega)).1 ?_
  refine lv_istore_n (lv' := [(3, .int (nI (zfrom i1 ys.length))), (0, .ref r), (1, .ref r2), (2, .int i1)]) hx hb dX6_become_12 rfl hl (by decide) rfl (fun ls hl => ?_)
  refine lv_aload_n hx hb dX6_become_13 rfl (lv_at hl 2 rfl) ?_
  refine va_get (D := D) (ci := 5) (v := .int (nI ys.length)) (C := RX6) (T := TX6) (N := 2) hx hb hts iX6 hown hK hP 2 rfl rfl 1 (by decide) (hts _ wq914) (fun _ h9 => h9) rfl dX6_become_14 ?_
  refine lv_iload_n hx hb dX6_become_17 rfl (lv_at hl 0 rfl) ?_
  refine lv_isub hx hb dX6_become_18 ?_
  refine zk_ti (y := nI (ys.length - (zfrom i1 ys.length))) (pk_sub (by omega)) ?_
  refine lv_istore (lv' := [(4, .int (nI (ys.length - (zfrom i1 ys.length)))), (3, .int (nI (zfrom i1 ys.length))), (0, .ref r), (1, .ref r2), (2, .int i1)]) hx hb dX6_become_19 hl (by decide) rfl (fun ls hl => ?_)
  refine lv_iload hx hb dX6_become_21 (lv_at hl 0 rfl) ?_
  refine lv_aload_n hx hb dX6_become_23 rfl (lv_at hl 2 rfl) ?_
  refine va_get (D := D) (ci := 5) (v := .ref x) (C := RX6) (T := TX6) (N := 2) hx hb hts iX6 hown hK hP 0 rfl rfl 0 (by decide) (hts _ wq913) (fun _ h9 => h9) rfl dX6_become_24 ?_
  refine va_alen hx hb hK hP 1 1 rfl rfl (v := nI cp) rfl dX6_become_27 ?_
  refine lv_icmp_le (tgt := 79) hx hb dX6_become_28 (by decide) (fun h9 => absurd h9 (nI_ge (by omega) (by omega))) (fun _ => ?_)
  refine lv_iload hx hb dX6_become_31 (lv_at hl 0 rfl) ?_
  refine lv_ldc hx hb hown (hts _ wq348) dX6_become_33 ?_
  refine lv_icmp_gt (tgt := 79) hx hb dX6_become_35 (by decide) (fun h9 => absurd h9 (show ¬ nI 8388608 < nI _ from nI_nlt (by omega) (by omega))) (fun _ => ?_)
  refine lv_bipush (v := 8) hx hb dX6_become_38 (by decide) ?_
  refine lv_istore (lv' := [(5, .int 8), (4, .int (nI (ys.length - (zfrom i1 ys.length)))), (3, .int (nI (zfrom i1 ys.length))), (0, .ref r), (1, .ref r2), (2, .int i1)]) hx hb dX6_become_40 hl (by decide) rfl (fun ls hl => ?_)
  refine lv_iconst (v := 0) hx hb dX6_become_42 (by decide) ?_
  refine lv_istore (lv' := [(6, .int 0), (5, .int 8), (4, .int (nI (ys.length - (zfrom i1 ys.length)))), (3, .int (nI (zfrom i1 ys.length))), (0, .ref r), (1, .ref r2), (2, .int i1)]) hx hb dX6_become_43 hl (by decide) rfl (fun ls hl => ?_)
  refine lp_room hx hb hown hts (ys.length - zfrom i1 ys.length) r r2 rm (nI (zfrom i1 ys.length)) i1 (by omega) (fun ls hl => ?_) 30 0 ls rfl (by omega) hrm (lv_sub hl [0, 1, 2, 3, 4, 5, 6] rfl)
  refine lv_aload_n hx hb dX6_become_71 rfl (lv_at hl 3 rfl) ?_
  refine lv_iload hx hb dX6_become_72 (lv_at hl 0 rfl) ?_
  refine va_newa (atype := .long) (a0 := (rm, .inr (.inl (fun _ => 0)))) hx hb (hts _ wq587) rfl hK hP hD hS hA (fun cA => rfl) (nI_pos (by omega)) (N' := rm) (nI_clamp (by omega)) (by show rm * 8 ≤ 536870912; omega) (by show 0 + 1 ≤ 1; omega) (by show 0 + rm ≤ rm; omega) dX6_become_74 (fun q1 cA H hK1 hP hD hS => ?_)
  obtain rfl : cA = yc 1 := zk_same hK1 3 1 rfl rfl
  have hP : va_P D vwCl [(r, .inr (5, [.ref x, .int (nI xs.length)])), (x, .inl (yc 1, cp, .inr (.inl f))), (r2, .inr (5, [.ref x2, .int (nI ys.length)])), (x2, .inl (yc 1, cq, .inr (.inl g))), (q1, .inl (yc 1, rm, .inr (.inl (fun _ => 0))))] H := hP
  have hD : va_D A [(r, .inr (5, [.ref x, .int (nI xs.length)])), (x, .inl (yc 1, cp, .inr (.inl f))), (r2, .inr (5, [.ref x2, .int (nI ys.length)])), (x2, .inl (yc 1, cq, .inr (.inl g))), (q1, .inl (yc 1, rm, .inr (.inl (fun _ => 0))))] := hD
  refine va_put (D := D) (ci := 5) (v := .ref q1) (ty := (.array .long)) (C := RX6) (T := TX6) (N := 2) hx hb hts iX6 tyX6 tyX6_ok nmX6 hown hK hP hD hS 0 rfl rfl 0 (by decide) (hts _ wq913) (fun _ h9 => h9) rfl (by decide +kernel) rfl rfl (Nat.le_of_ble_eq_true rfl) dX6_become_76 (fun H locs hP hD hS => ?_)
  have hP : va_P D vwCl [(r, .inr (5, [.ref q1, .int (nI xs.length)])), (x, .inl (yc 1, cp, .inr (.inl f))), (r2, .inr (5, [.ref x2, .int (nI ys.length)])), (x2, .inl (yc 1, cq, .inr (.inl g))), (q1, .inl (yc 1, rm, .inr (.inl (fun _ => 0))))] H := hP
  have hD : va_D A [(r, .inr (5, [.ref q1, .int (nI xs.length)])), (x, .inl (yc 1, cp, .inr (.inl f))), (r2, .inr (5, [.ref x2, .int (nI ys.length)])), (x2, .inl (yc 1, cq, .inr (.inl g))), (q1, .inl (yc 1, rm, .inr (.inl (fun _ => 0))))] := hD
  refine lv_iload hx hb dX6_become_79 (lv_at hl 1 rfl) ?_
  refine lv_aload_n hx hb dX6_become_81 rfl (lv_at hl 3 rfl) ?_
  refine va_get (D := D) (ci := 5) (v := .ref q1) (C := RX6) (T := TX6) (N := 2) hx hb hts iX6 hown hK hP 0 rfl rfl 0 (by decide) (hts _ wq913) (fun _ h9 => h9) rfl dX6_become_82 ?_
  refine va_alen hx hb hK hP 4 1 rfl rfl (v := nI rm) rfl dX6_become_85 ?_
  refine lv_icmp_gt (tgt := 122) hx hb dX6_become_86 (by decide) (fun h9 => absurd h9 (nI_nlt (by omega) (by omega))) (fun _ => ?_)
  refine lv_aload_n hx hb dX6_become_89 rfl (lv_at hl 4 rfl) ?_
  refine va_get (D := D) (ci := 5) (v := .int (nI ys.length)) (C := RX6) (T := TX6) (N := 2) hx hb hts iX6 hown hK hP 2 rfl rfl 1 (by decide) (hts _ wq914) (fun _ h9 => h9) rfl dX6_become_90 ?_
  refine lv_aload_n hx hb dX6_become_93 rfl (lv_at hl 4 rfl) ?_
  refine va_get (D := D) (ci := 5) (v := .ref x2) (C := RX6) (T := TX6) (N := 2) hx hb hts iX6 hown hK hP 2 rfl rfl 0 (by decide) (hts _ wq913) (fun _ h9 => h9) rfl dX6_become_94 ?_
  refine va_alen hx hb hK hP 3 1 rfl rfl (v := nI cq) rfl dX6_become_97 ?_
  refine lv_icmp_gt (tgt := 122) hx hb dX6_become_98 (by decide) (fun h9 => absurd h9 (nI_nlt (by omega) (by omega))) (fun _ => ?_)
  refine lv_aload_n hx hb dX6_become_101 rfl (lv_at hl 4 rfl) ?_
  refine va_get (D := D) (ci := 5) (v := .ref x2) (C := RX6) (T := TX6) (N := 2) hx hb hts iX6 hown hK hP 2 rfl rfl 0 (by decide) (hts _ wq913) (fun _ h9 => h9) rfl dX6_become_102 ?_
  refine lv_iload_n hx hb dX6_become_105 rfl (lv_at hl 2 rfl) ?_
  refine lv_aload_n hx hb dX6_become_106 rfl (lv_at hl 3 rfl) ?_
  refine va_get (D := D) (ci := 5) (v := .ref q1) (C := RX6) (T := TX6) (N := 2) hx hb hts iX6 hown hK hP 0 rfl rfl 0 (by decide) (hts _ wq913) (fun _ h9 => h9) rfl dX6_become_107 ?_
  refine lv_iconst (v := 0) hx hb dX6_become_110 (by decide) ?_
  refine lv_iload hx hb dX6_become_111 (lv_at hl 1 rfl) ?_
  refine va_copyl (ty := .long) hx hb (by rw [hml]; exact hl.1.symm) hown (hts _ wq325) (hts _ wq327) (hts _ wq326) (hts _ wq20) hK hP hD hS 3 4 1 1 rfl rfl rfl rfl rfl (nI_pos (by omega)) (by decide) (nI_pos (by omega)) (by rw [nI_clamp (by omega), nI_clamp (by omega)]; omega) (by rw [zc0, nI_clamp (by omega)]; omega) (fun _ _ => rfl) (Nat.le_of_ble_eq_true rfl) (Nat.le_of_ble_eq_true rfl) dX6_become_113 (fun H locs hP hD hS => ?_)
  have hP : va_P D vwCl [(r, .inr (5, [.ref q1, .int (nI xs.length)])), (x, .inl (yc 1, cp, .inr (.inl f))), (r2, .inr (5, [.ref x2, .int (nI ys.length)])), (x2, .inl (yc 1, cq, .inr (.inl g))), (q1, .inl (yc 1, rm, .inr (.inl (va_cpy g (fun _ => 0) (nI (zfrom i1 ys.length) : Int32).toNatClampNeg (0 : Int32).toNatClampNeg (nI (ys.length - (zfrom i1 ys.length)) : Int32).toNatClampNeg))))] H := hP
  have hD : va_D A [(r, .inr (5, [.ref q1, .int (nI xs.length)])), (x, .inl (yc 1, cp, .inr (.inl f))), (r2, .inr (5, [.ref x2, .int (nI ys.length)])), (x2, .inl (yc 1, cq, .inr (.inl g))), (q1, .inl (yc 1, rm, .inr (.inl (va_cpy g (fun _ => 0) (nI (zfrom i1 ys.length) : Int32).toNatClampNeg (0 : Int32).toNatClampNeg (nI (ys.length - (zfrom i1 ys.length)) : Int32).toNatClampNeg))))] := hD
  refine lv_aload_n hx hb dX6_become_116 rfl (lv_at hl 3 rfl) ?_
  refine lv_iload hx hb dX6_become_117 (lv_at hl 1 rfl) ?_
  refine va_put (D := D) (ci := 5) (v := .int (nI (ys.length - (zfrom i1 ys.length)))) (ty := .int) (C := RX6) (T := TX6) (N := 2) hx hb hts iX6 tyX6 tyX6_ok nmX6 hown hK hP hD hS 0 rfl rfl 1 (by decide) (hts _ wq914) (fun _ h9 => h9) rfl (by decide +kernel) rfl rfl (Nat.le_of_ble_eq_true rfl) dX6_become_119 (fun H locs hP hD hS => ?_)
  have hP : va_P D vwCl [(r, .inr (5, [.ref q1, .int (nI (ys.length - (zfrom i1 ys.length)))])), (x, .inl (yc 1, cp, .inr (.inl f))), (r2, .inr (5, [.ref x2, .int (nI ys.length)])), (x2, .inl (yc 1, cq, .inr (.inl g))), (q1, .inl (yc 1, rm, .inr (.inl (va_cpy g (fun _ => 0) (nI (zfrom i1 ys.length) : Int32).toNatClampNeg (0 : Int32).toNatClampNeg (nI (ys.length - (zfrom i1 ys.length)) : Int32).toNatClampNeg))))] H := hP
  have hD : va_D A [(r, .inr (5, [.ref q1, .int (nI (ys.length - (zfrom i1 ys.length)))])), (x, .inl (yc 1, cp, .inr (.inl f))), (r2, .inr (5, [.ref x2, .int (nI ys.length)])), (x2, .inl (yc 1, cq, .inr (.inl g))), (q1, .inl (yc 1, rm, .inr (.inl (va_cpy g (fun _ => 0) (nI (zfrom i1 ys.length) : Int32).toNatClampNeg (0 : Int32).toNatClampNeg (nI (ys.length - (zfrom i1 ys.length)) : Int32).toNatClampNeg))))] := hD
  exact te_row hx hb hr hlk hP hD hS q1 (va_cpy g (fun _ => 0) (nI (zfrom i1 ys.length) : Int32).toNatClampNeg (0 : Int32).toNatClampNeg (nI (ys.length - (zfrom i1 ys.length)) : Int32).toNatClampNeg) (ys.length - (zfrom i1 ys.length)) List.length_drop (rc_bec hg hfr (by omega)) [0, 4, 2, 3] rfl rfl (by first | exact (Nat.le_of_ble_eq_true rfl) | exact Nat.zero_le _ | omega | (dsimp only; omega)) (by first | exact (Nat.le_of_ble_eq_true rfl) | exact Nat.zero_le _ | omega | (dsimp only; omega)) dX6_become_122
end
section
set_option maxHeartbeats 1000000 in
theorem k_X6_put (l : Launch) (D : va_G) (yc : Nat → ClassId) (e0 : Nat) (A : Nat → Prop) (S : TS) (Z : Nat × Nat) (Tc Ts : Nat) (w : TW) (cN zN : Nat) (i : Nat) (j : Nat) (v : Int64) (hi : dr S i) (hj : j < 2 ^ 31) (hB : ZB Z Tc Ts (zrw w i (qput (w.2.2 i) j v))) : Met l yX6_put (ws_ yX6_put cX6_put 4 none) { frames := 0, cells := Tc - cN, slots := Ts - zN, locals := 0 } (PM D yc e0 A S Z w cN zN [.ref (zr S i), .int (nI j), .long v]) (tQv D yc e0 A S Z (zrw w i (qput (w.2.2 i) j v))) (Tc - cN) (Ts - zN) A := by
  by_cases h : j < (w.2.2 i).2.length
  · exact tk_row hi _ 0 0 0 0 (by decide) hB (fun h1 h2 => ⟨by show ((w.2.2 i).2.set j v).length ≤ (w.2.2 i).1; rw [List.length_set]; exact h1, h2, by show _ ≤ (w.2.2 i).1 / 8; omega, by show _ ≤ 2 * (w.2.2 i).1; omega⟩) (fun x f sz h1 h2 h3 => l_put l D yc e0 (zr S i) x (w.2.2 i).1 (w.2.2 i).2 f sz j v h1 h2.le h3 h)
  · have e : qput (w.2.2 i) j v = w.2.2 i := by unfold qput; rw [List.set_eq_of_length_le (by omega)]
    rw [e] at hB ⊢
    exact tk_row hi _ 0 0 0 0 (by decide) hB (fun h1 h2 => ⟨h1, h2, by show _ ≤ (w.2.2 i).1 / 8; omega, by show _ ≤ 2 * (w.2.2 i).1; omega⟩) (fun x f sz h1 h2 h3 => l_put0 l D yc e0 (zr S i) x (w.2.2 i).1 (w.2.2 i).2 f sz j v h1 h2.le h3 (by omega) hj)
set_option maxHeartbeats 1000000 in
theorem k_X6_add (l : Launch) (D : va_G) (yc : Nat → ClassId) (e0 : Nat) (A : Nat → Prop) (S : TS) (Z : Nat × Nat) (Tc Ts : Nat) (w : TW) (cN zN : Nat) (i : Nat) (v : Int64) (hi : dr S i) (hB : ZB Z Tc Ts (zrw w i (qadd (w.2.2 i) v))) : Met l yX6_add (ws_ yX6_add cX6_add 3 none) { frames := 2, cells := Tc - cN, slots := Ts - zN, locals := 62 } (PM D yc e0 A S Z w cN zN [.ref (zr S i), .long v]) (tQv D yc e0 A S Z (zrw w i (qadd (w.2.2 i) v))) (Tc - cN) (Ts - zN) A := by
  by_cases h : (w.2.2 i).2.length < (w.2.2 i).1
  · have e : qadd (w.2.2 i) v = ((w.2.2 i).1, (w.2.2 i).2 ++ [v]) := by unfold qadd; rw [if_pos h]
    rw [e] at hB ⊢
    exact tk_row hi _ 0 0 0 0 (by decide) hB (fun h1 h2 => ⟨by show ((w.2.2 i).2 ++ [v]).length ≤ (w.2.2 i).1; simp; omega, h2, by show _ ≤ (w.2.2 i).1 / 8; omega, by show _ ≤ 2 * (w.2.2 i).1; omega⟩) (fun x f sz h1 h2 h3 => l_add l D yc e0 (zr S i) x (w.2.2 i).1 (w.2.2 i).2 f sz v h1 h2.le h3 h)
  · have e : qadd (w.2.2 i) v = (2 * (w.2.2 i).1, (w.2.2 i).2 ++ [v]) := by unfold qadd; rw [if_neg h]
    rw [e] at hB ⊢
    have h5 : 2 * (w.2.2 i).1 ≤ 4000000 := by have h9 := hB.cap (dr_lt hi); simp only [zrw, zq_s] at h9; exact h9
    exact tk_row hi _ 1 (2 * (w.2.2 i).1) 2 62 (by decide) hB (fun h1 h2 => ⟨by show ((w.2.2 i).2 ++ [v]).length ≤ 2 * (w.2.2 i).1; have := h2.ge; simp; omega, h2.two (by omega), by show _ ≤ 2 * (w.2.2 i).1 / 8; have := h2.ge; obtain ⟨z9, -, e9⟩ := h2; omega, by show _ ≤ 2 * (2 * (w.2.2 i).1); omega⟩) (fun x f sz h1 h2 h3 => l_addG l D yc e0 (zr S i) x (w.2.2 i).1 (w.2.2 i).2 f sz v h1 h2.le h3 (by omega) ⟨h2.ge, by omega⟩)
set_option maxHeartbeats 1000000 in
theorem k_X6_insert (l : Launch) (D : va_G) (yc : Nat → ClassId) (e0 : Nat) (A : Nat → Prop) (S : TS) (Z : Nat × Nat) (Tc Ts : Nat) (w : TW) (cN zN : Nat) (i : Nat) (j : Nat) (v : Int64) (hi : dr S i) (hj2 : j < 2 ^ 31) (hB : ZB Z Tc Ts (zrw w i (qins (w.2.2 i) j v))) : Met l yX6_insert (ws_ yX6_insert cX6_insert 4 none) { frames := 2, cells := Tc - cN, slots := Ts - zN, locals := 62 } (PM D yc e0 A S Z w cN zN [.ref (zr S i), .int (nI j), .long v]) (tQv D yc e0 A S Z (zrw w i (qins (w.2.2 i) j v))) (Tc - cN) (Ts - zN) A := by
  by_cases h : (w.2.2 i).2.length < (w.2.2 i).1
  · by_cases hj : j ≤ (w.2.2 i).2.length
    · have e : qins (w.2.2 i) j v = ((w.2.2 i).1, (w.2.2 i).2.take j ++ v :: (w.2.2 i).2.drop j) := by unfold qins; rw [if_pos h, if_pos hj]
      rw [e] at hB ⊢
      exact tk_row hi _ 0 0 1 40 (by decide) hB (fun h1 h2 => ⟨by show ((w.2.2 i).2.take j ++ v :: (w.2.2 i).2.drop j).length ≤ (w.2.2 i).1; simp; omega, h2, by show _ ≤ (w.2.2 i).1 / 8; omega, by show _ ≤ 2 * (w.2.2 i).1; omega⟩) (fun x f sz h1 h2 h3 => l_ins l D yc e0 (zr S i) x (w.2.2 i).1 (w.2.2 i).2 f sz j v h1 h2.le h3 h hj)
    · have e : qins (w.2.2 i) j v = ((w.2.2 i).1, (w.2.2 i).2) := by unfold qins; rw [if_pos h, if_neg hj]
      rw [e] at hB ⊢
      exact tk_row hi _ 0 0 0 0 (by decide) hB (fun h1 h2 => ⟨h1, h2, by show _ ≤ (w.2.2 i).1 / 8; omega, by show _ ≤ 2 * (w.2.2 i).1; omega⟩) (fun x f sz h1 h2 h3 => l_insX l D yc e0 (zr S i) x (w.2.2 i).1 (w.2.2 i).2 f sz j v h1 h2.le h3 h (by omega) hj2)
  · by_cases hj : j ≤ (w.2.2 i).2.length
    · have e : qins (w.2.2 i) j v = (2 * (w.2.2 i).1, (w.2.2 i).2.take j ++ v :: (w.2.2 i).2.drop j) := by unfold qins; rw [if_neg h, if_pos hj]
      rw [e] at hB ⊢
      have h5 : 2 * (w.2.2 i).1 ≤ 4000000 := by have h9 := hB.cap (dr_lt hi); simp only [zrw, zq_s] at h9; exact h9
      exact tk_row hi _ 1 (2 * (w.2.2 i).1) 2 62 (by decide) hB (fun h1 h2 => ⟨by show ((w.2.2 i).2.take j ++ v :: (w.2.2 i).2.drop j).length ≤ 2 * (w.2.2 i).1; have := h2.ge; simp; omega, h2.two (by omega), by show _ ≤ 2 * (w.2.2 i).1 / 8; have := h2.ge; obtain ⟨z9, -, e9⟩ := h2; omega, by show _ ≤ 2 * (2 * (w.2.2 i).1); omega⟩) (fun x f sz h1 h2 h3 => l_insG l D yc e0 (zr S i) x (w.2.2 i).1 (w.2.2 i).2 f sz j v h1 h2.le h3 (by omega) ⟨h2.ge, by omega⟩ hj)
    · have e : qins (w.2.2 i) j v = (2 * (w.2.2 i).1, (w.2.2 i).2) := by unfold qins; rw [if_neg h, if_neg hj]
      rw [e] at hB ⊢
      have h5 : 2 * (w.2.2 i).1 ≤ 4000000 := by have h9 := hB.cap (dr_lt hi); simp only [zrw, zq_s] at h9; exact h9
      exact tk_row hi _ 1 (2 * (w.2.2 i).1) 2 62 (by decide) hB (fun h1 h2 => ⟨by show ((w.2.2 i).2).length ≤ 2 * (w.2.2 i).1; have := h2.ge; omega, h2.two (by omega), by show _ ≤ 2 * (w.2.2 i).1 / 8; have := h2.ge; obtain ⟨z9, -, e9⟩ := h2; omega, by show _ ≤ 2 * (2 * (w.2.2 i).1); omega⟩) (fun x f sz h1 h2 h3 => l_insGX l D yc e0 (zr S i) x (w.2.2 i).1 (w.2.2 i).2 f sz j v h1 h2.le h3 (by omega) ⟨h2.ge, by omega⟩ (by omega) hj2)
set_option maxHeartbeats 1000000 in
theorem k_X6_remove (l : Launch) (D : va_G) (yc : Nat → ClassId) (e0 : Nat) (A : Nat → Prop) (S : TS) (Z : Nat × Nat) (Tc Ts : Nat) (w : TW) (cN zN : Nat) (i : Nat) (a : Nat) (b : Nat) (hi : dr S i) (ha : a < 2 ^ 31) (hb : b < 2 ^ 31) (hB : ZB Z Tc Ts (zrw w i (qrem (w.2.2 i) a b))) : Met l yX6_remove (ws_ yX6_remove cX6_remove 3 none) { frames := 1, cells := Tc - cN, slots := Ts - zN, locals := 40 } (PM D yc e0 A S Z w cN zN [.ref (zr S i), .int (nI a), .int (nI b)]) (tQv D yc e0 A S Z (zrw w i (qrem (w.2.2 i) a b))) (Tc - cN) (Ts - zN) A := by
  by_cases h0 : b = 0
  · subst h0
    have e : qrem (w.2.2 i) a 0 = w.2.2 i := by unfold qrem; split <;> simp
    rw [e] at hB ⊢
    exact tk_row hi _ 0 0 0 0 (by decide) hB (fun h1 h2 => ⟨h1, h2, by show _ ≤ (w.2.2 i).1 / 8; omega, by show _ ≤ 2 * (w.2.2 i).1; omega⟩) (fun x f sz h1 h2 h3 => l_rem0 l D yc e0 (zr S i) x (w.2.2 i).1 (w.2.2 i).2 f sz a h1 h2.le h3 ha)
  · by_cases h : a + b ≤ (w.2.2 i).2.length
    · have e : qrem (w.2.2 i) a b = ((w.2.2 i).1, (w.2.2 i).2.take a ++ (w.2.2 i).2.drop (a + b)) := by unfold qrem; rw [if_pos h]
      rw [e] at hB ⊢
      exact tk_row hi _ 0 0 1 40 (by decide) hB (fun h1 h2 => ⟨by show ((w.2.2 i).2.take a ++ (w.2.2 i).2.drop (a + b)).length ≤ (w.2.2 i).1; simp; omega, h2, by show _ ≤ (w.2.2 i).1 / 8; omega, by show _ ≤ 2 * (w.2.2 i).1; omega⟩) (fun x f sz h1 h2 h3 => l_rem l D yc e0 (zr S i) x (w.2.2 i).1 (w.2.2 i).2 f sz a b h1 h2.le h3 ha hb (by omega) h)
    · have e : qrem (w.2.2 i) a b = w.2.2 i := by unfold qrem; rw [if_neg h]
      rw [e] at hB ⊢
      exact tk_row hi _ 0 0 0 0 (by decide) hB (fun h1 h2 => ⟨h1, h2, by show _ ≤ (w.2.2 i).1 / 8; omega, by show _ ≤ 2 * (w.2.2 i).1; omega⟩) (fun x f sz h1 h2 h3 => l_remX l D yc e0 (zr S i) x (w.2.2 i).1 (w.2.2 i).2 f sz a b h1 h2.le h3 ha hb (by omega) (by omega))
set_option maxHeartbeats 1000000 in
theorem k_X6_shorten (l : Launch) (D : va_G) (yc : Nat → ClassId) (e0 : Nat) (A : Nat → Prop) (S : TS) (Z : Nat × Nat) (Tc Ts : Nat) (w : TW) (cN zN : Nat) (i : Nat) (i1 : Int32) (hi : dr S i) (hB : ZB Z Tc Ts (zrw w i (qsho (w.2.2 i) i1))) : Met l yX6_shorten (ws_ yX6_shorten cX6_shorten 2 none) { frames := 0, cells := Tc - cN, slots := Ts - zN, locals := 0 } (PM D yc e0 A S Z w cN zN [.ref (zr S i), .int i1]) (tQv D yc e0 A S Z (zrw w i (qsho (w.2.2 i) i1))) (Tc - cN) (Ts - zN) A := by
  by_cases h0 : i1 < 0
  · have e : qsho (w.2.2 i) i1 = w.2.2 i := by unfold qsho; rw [if_pos h0]
    rw [e] at hB ⊢
    exact tk_row hi _ 0 0 0 0 (by decide) hB (fun h1 h2 => ⟨h1, h2, by show _ ≤ (w.2.2 i).1 / 8; omega, by show _ ≤ 2 * (w.2.2 i).1; omega⟩) (fun x f sz h1 h2 h3 => l_shoN l D yc e0 (zr S i) x (w.2.2 i).1 (w.2.2 i).2 f sz i1 h1 h2.le h3 h0)
  · obtain ⟨j, hj, rfl⟩ := nI_of h0
    have e : qsho (w.2.2 i) (nI j) = ((w.2.2 i).1, (w.2.2 i).2.take j) := by unfold qsho; rw [if_neg h0, nI_clamp hj]
    rw [e] at hB ⊢
    by_cases h : j < (w.2.2 i).2.length
    · exact tk_row hi _ 0 0 0 0 (by decide) hB (fun h1 h2 => ⟨by show ((w.2.2 i).2.take j).length ≤ (w.2.2 i).1; simp; omega, h2, by show _ ≤ (w.2.2 i).1 / 8; omega, by show _ ≤ 2 * (w.2.2 i).1; omega⟩) (fun x f sz h1 h2 h3 => l_sho l D yc e0 (zr S i) x (w.2.2 i).1 (w.2.2 i).2 f sz j h1 h2.le h3 h)
    · rw [List.take_of_length_le (by omega)] at hB ⊢
      exact tk_row hi _ 0 0 0 0 (by decide) hB (fun h1 h2 => ⟨h1, h2, by show _ ≤ (w.2.2 i).1 / 8; omega, by show _ ≤ 2 * (w.2.2 i).1; omega⟩) (fun x f sz h1 h2 h3 => l_sho0 l D yc e0 (zr S i) x (w.2.2 i).1 (w.2.2 i).2 f sz j h1 h2.le h3 (by omega) hj)
set_option maxHeartbeats 1000000 in
theorem k_X6_become (l : Launch) (D : va_G) (yc : Nat → ClassId) (e0 : Nat) (A : Nat → Prop) (S : TS) (Z : Nat × Nat) (Tc Ts : Nat) (w : TW) (cN zN : Nat) (i : Nat) (o : Nat) (i1 : Int32) (hi : dr S i) (ho : dr S o) (hne : o ≠ i) (hB : ZB Z Tc Ts (zrw w i (qbec (w.2.2 i) (w.2.2 o) (zfrom i1 (w.2.2 o).2.length)))) : Met l yX6_become (ws_ yX6_become cX6_become 7 none) { frames := 1, cells := Tc - cN, slots := Ts - zN, locals := 40 } (PM D yc e0 A S Z w cN zN [.ref (zr S i), .ref (zr S o), .int i1]) (tQv D yc e0 A S Z (zrw w i (qbec (w.2.2 i) (w.2.2 o) (zfrom i1 (w.2.2 o).2.length)))) (Tc - cN) (Ts - zN) A := by
  by_cases h : (w.2.2 o).2.length - zfrom i1 (w.2.2 o).2.length ≤ (w.2.2 i).1
  · have e : qbec (w.2.2 i) (w.2.2 o) (zfrom i1 (w.2.2 o).2.length) = ((w.2.2 i).1, (w.2.2 o).2.drop (zfrom i1 (w.2.2 o).2.length)) := by unfold qbec; rw [if_pos h]
    rw [e] at hB ⊢
    exact tk_row2 hi ho hne _ 0 0 1 40 (by decide) hB (fun h1 h2 h3 h4 => ⟨by show ((w.2.2 o).2.drop _).length ≤ (w.2.2 i).1; rw [List.length_drop]; exact h, h2, by show _ ≤ (w.2.2 i).1 / 8; omega, by show _ ≤ 2 * (w.2.2 i).1; omega⟩) (fun x f x2 g sz h1 h2 h3 h4 h5 h6 => l_bec l D yc e0 (zr S i) x (w.2.2 i).1 (w.2.2 i).2 f sz (zr S o) x2 (w.2.2 o).1 (w.2.2 o).2 g i1 h1 h2.le h3 h4 h5.le h6 h)
  · obtain ⟨rm, hrm⟩ : ∃ rm, zroom 30 8 ((w.2.2 o).2.length - zfrom i1 (w.2.2 o).2.length) = rm := ⟨_, rfl⟩
    have e : qbec (w.2.2 i) (w.2.2 o) (zfrom i1 (w.2.2 o).2.length) = (max (w.2.2 i).1 rm, (w.2.2 o).2.drop (zfrom i1 (w.2.2 o).2.length)) := by unfold qbec; rw [if_neg h, hrm]
    rw [e] at hB ⊢
    have key : (w.2.2 o).2.length ≤ (w.2.2 o).1 → RK (w.2.2 o).1 → max (w.2.2 i).1 rm = rm ∧ (w.2.2 o).2.length - zfrom i1 (w.2.2 o).2.length ≤ rm ∧ RK rm := fun h3 h4 => by
      have hle := h4.le
      obtain ⟨z1, z2, z3, z4⟩ := zroom_ok 30 0 ((w.2.2 o).2.length - zfrom i1 (w.2.2 o).2.length) rfl (by omega) (by omega)
      rw [show zroom 30 (8 * 2 ^ 0) ((w.2.2 o).2.length - zfrom i1 (w.2.2 o).2.length) = rm from hrm] at z1 z2 z3 z4
      exact ⟨Nat.max_eq_right (by omega), z1, z2⟩
    refine tk_row2 hi ho hne _ 1 rm 1 40 (by decide) hB (fun h1 h2 h3 h4 => ?_) (fun x f x2 g sz h1 h2 h3 h4 h5 h6 => ?_)
    · obtain ⟨e2, z1, z2⟩ := key h3 h4
      rw [e2]
      refine ⟨by show ((w.2.2 o).2.drop _).length ≤ rm; rw [List.length_drop]; exact z1, z2, ?_, ?_⟩
      · show 1 + (w.2.2 i).1 / 8 ≤ rm / 8
        exact zrk_lt h2 z2 (by omega)
      · show rm + 2 * (w.2.2 i).1 ≤ 2 * rm
        have := zrk_two h2 z2 (by omega)
        omega
    · obtain ⟨e2, z1, z2⟩ := key h4 h5
      rw [e2]
      exact l_becG l D yc e0 (zr S i) x (w.2.2 i).1 (w.2.2 i).2 f sz (zr S o) x2 (w.2.2 o).1 (w.2.2 o).2 g i1 rm h1 h2.le h3 h4 h5.le h6 (by omega) hrm
end
section
theorem wq322 : (Jvm.Cond.instanceMethod ({ cls := "WeirStream$Row", name := "remove", desc := "(II)V" } : Jvm.MethodName)) ∈ lw_all := lw_in (lw_tb (List.mem_of_getElem? (i := 322) (by decide +kernel))) rfl
theorem wq323 : (Jvm.Cond.selects "WeirStream$Row" ({ cls := "WeirStream$Row", name := "remove", desc := "(II)V" } : Jvm.MethodName) ({ cls := "WeirStream$Row", name := "remove", desc := "(II)V" } : Jvm.MethodName)) ∈ lw_all := lw_in (lw_tb (List.mem_of_getElem? (i := 323) (by decide +kernel))) rfl
theorem wq324 : (Jvm.Cond.code ({ cls := "WeirStream$Row", name := "remove", desc := "(II)V" } : Jvm.MethodName) prog_8_method_7_code (3 : Nat) (Option.none : Option Jvm.ClassFile.FieldType)) ∈ lw_all := lw_in (lw_tb (List.mem_of_getElem? (i := 324) (by decide +kernel))) rfl
theorem wq365 : (Jvm.Cond.methodLink "WeirStream$State" (57 : Nat) ({ cls := "WeirStream$Spans", name := "become", desc := "(LWeirStream$Spans;)V" } : Jvm.MethodName)) ∈ lw_all := lw_in (lw_tb (List.mem_of_getElem? (i := 365) (by decide +kernel))) rfl
theorem wq366 : (Jvm.Cond.instanceMethod ({ cls := "WeirStream$Spans", name := "become", desc := "(LWeirStream$Spans;)V" } : Jvm.MethodName)) ∈ lw_all := lw_in (lw_tb (List.mem_of_getElem? (i := 366) (by decide +kernel))) rfl
theorem wq367 : (Jvm.Cond.selects "WeirStream$Spans" ({ cls := "WeirStream$Spans", name := "become", desc := "(LWeirStream$Spans;)V" } : Jvm.MethodName) ({ cls := "WeirStream$Spans", name := "become", desc := "(LWeirStream$Spans;)V" } : Jvm.MethodName)) ∈ lw_all := lw_in (lw_tb (List.mem_of_getElem? (i := 367) (by decide +kernel))) rfl
theorem wq368 : (Jvm.Cond.code ({ cls := "WeirStream$Spans", name := "become", desc := "(LWeirStream$Spans;)V" } : Jvm.MethodName) prog_9_method_15_code (2 : Nat) (Option.none : Option Jvm.ClassFile.FieldType)) ∈ lw_all := lw_in (lw_tb (List.mem_of_getElem? (i := 368) (by decide +kernel))) rfl
theorem wq369 : (Jvm.Cond.methodLink "WeirStream$Spans" (58 : Nat) ({ cls := "WeirStream$Row", name := "become", desc := "(LWeirStream$Row;I)V" } : Jvm.MethodName)) ∈ lw_all := lw_in (lw_tb (List.mem_of_getElem? (i := 369) (by decide +kernel))) rfl
theorem wq370 : (Jvm.Cond.instanceMethod ({ cls := "WeirStream$Row", name := "become", desc := "(LWeirStream$Row;I)V" } : Jvm.MethodName)) ∈ lw_all := lw_in (lw_tb (List.mem_of_getElem? (i := 370) (by decide +kernel))) rfl
theorem wq371 : (Jvm.Cond.selects "WeirStream$Row" ({ cls := "WeirStream$Row", name := "become", desc := "(LWeirStream$Row;I)V" } : Jvm.MethodName) ({ cls := "WeirStream$Row", name := "become", desc := "(LWeirStream$Row;I)V" } : Jvm.MethodName)) ∈ lw_all := lw_in (lw_tb (List.mem_of_getElem? (i := 371) (by decide +kernel))) rfl
theorem wq372 : (Jvm.Cond.code ({ cls := "WeirStream$Row", name := "become", desc := "(LWeirStream$Row;I)V" } : Jvm.MethodName) prog_8_method_9_code (7 : Nat) (Option.none : Option Jvm.ClassFile.FieldType)) ∈ lw_all := lw_in (lw_tb (List.mem_of_getElem? (i := 372) (by decide +kernel))) rfl
theorem wq377 : (Jvm.Cond.methodLink "WeirStream$State" (61 : Nat) ({ cls := "WeirStream$Row", name := "become", desc := "(LWeirStream$Row;I)V" } : Jvm.MethodName)) ∈ lw_all := lw_in (lw_tb (List.mem_of_getElem? (i := 377) (by decide +kernel))) rfl
theorem wq452 : (Jvm.Cond.methodLink "WeirStream$Spans" (54 : Nat) ({ cls := "WeirStream$Row", name := "remove", desc := "(II)V" } : Jvm.MethodName)) ∈ lw_all := lw_in (lw_tb (List.mem_of_getElem? (i := 452) (by decide +kernel))) rfl
theorem wq474 : (Jvm.Cond.methodLink "WeirStream$Channel" (28 : Nat) ({ cls := "WeirStream$Row", name := "at", desc := "(I)J" } : Jvm.MethodName)) ∈ lw_all := lw_in (lw_tb (List.mem_of_getElem? (i := 474) (by decide +kernel))) rfl
theorem wq535 : (Jvm.Cond.methodLink "WeirStream$Spans" (51 : Nat) ({ cls := "WeirStream$Row", name := "put", desc := "(IJ)V" } : Jvm.MethodName)) ∈ lw_all := lw_in (lw_tb (List.mem_of_getElem? (i := 535) (by decide +kernel))) rfl
theorem wq536 : (Jvm.Cond.instanceMethod ({ cls := "WeirStream$Row", name := "put", desc := "(IJ)V" } : Jvm.MethodName)) ∈ lw_all := lw_in (lw_tb (List.mem_of_getElem? (i := 536) (by decide +kernel))) rfl
theorem wq537 : (Jvm.Cond.selects "WeirStream$Row" ({ cls := "WeirStream$Row", name := "put", desc := "(IJ)V" } : Jvm.MethodName) ({ cls := "WeirStream$Row", name := "put", desc := "(IJ)V" } : Jvm.MethodName)) ∈ lw_all := lw_in (lw_tb (List.mem_of_getElem? (i := 537) (by decide +kernel))) rfl
theorem wq538 : (Jvm.Cond.code ({ cls := "WeirStream$Row", name := "put", desc := "(IJ)V" } : Jvm.MethodName) prog_8_method_4_code (4 : Nat) (Option.none : Option Jvm.ClassFile.FieldType)) ∈ lw_all := lw_in (lw_tb (List.mem_of_getElem? (i := 538) (by decide +kernel))) rfl
theorem wq543 : (Jvm.Cond.methodLink "WeirStream$Spans" (47 : Nat) ({ cls := "WeirStream$Row", name := "insert", desc := "(IJ)V" } : Jvm.MethodName)) ∈ lw_all := lw_in (lw_tb (List.mem_of_getElem? (i := 543) (by decide +kernel))) rfl
theorem wq544 : (Jvm.Cond.instanceMethod ({ cls := "WeirStream$Row", name := "insert", desc := "(IJ)V" } : Jvm.MethodName)) ∈ lw_all := lw_in (lw_tb (List.mem_of_getElem? (i := 544) (by decide +kernel))) rfl
theorem wq545 : (Jvm.Cond.selects "WeirStream$Row" ({ cls := "WeirStream$Row", name := "insert", desc := "(IJ)V" } : Jvm.MethodName) ({ cls := "WeirStream$Row", name := "insert", desc := "(IJ)V" } : Jvm.MethodName)) ∈ lw_all := lw_in (lw_tb (List.mem_of_getElem? (i := 545) (by decide +kernel))) rfl
theorem wq546 : (Jvm.Cond.code ({ cls := "WeirStream$Row", name := "insert", desc := "(IJ)V" } : Jvm.MethodName) prog_8_method_6_code (4 : Nat) (Option.none : Option Jvm.ClassFile.FieldType)) ∈ lw_all := lw_in (lw_tb (List.mem_of_getElem? (i := 546) (by decide +kernel))) rfl
theorem wq1051 : (Jvm.Cond.fieldLink "WeirStream$State" (7 : Nat) "WeirStream$State" "mark" "I") ∈ lw_all := lw_in (lw_tb (List.mem_of_getElem? (i := 1051) (by decide +kernel))) rfl
theorem wq1054 : (Jvm.Cond.fieldLink "WeirStream$State" (13 : Nat) "WeirStream$State" "firstMark" "I") ∈ lw_all := lw_in (lw_tb (List.mem_of_getElem? (i := 1054) (by decide +kernel))) rfl
theorem wq1056 : (Jvm.Cond.fieldLink "WeirStream$State" (16 : Nat) "WeirStream$State" "secondMark" "I") ∈ lw_all := lw_in (lw_tb (List.mem_of_getElem? (i := 1056) (by decide +kernel))) rfl
theorem wq1058 : (Jvm.Cond.fieldLink "WeirStream$State" (19 : Nat) "WeirStream$State" "tookSecond" "Z") ∈ lw_all := lw_in (lw_tb (List.mem_of_getElem? (i := 1058) (by decide +kernel))) rfl
theorem wq1062 : (Jvm.Cond.fieldLink "WeirStream$State" (45 : Nat) "WeirStream$State" "taken" "I") ∈ lw_all := lw_in (lw_tb (List.mem_of_getElem? (i := 1062) (by decide +kernel))) rfl
theorem wq1064 : (Jvm.Cond.fieldLink "WeirStream$State" (48 : Nat) "WeirStream$State" "emitted" "I") ∈ lw_all := lw_in (lw_tb (List.mem_of_getElem? (i := 1064) (by decide +kernel))) rfl
theorem wq1067 : (Jvm.Cond.fieldLink "WeirStream$State" (51 : Nat) "WeirStream$State" "late" "I") ∈ lw_all := lw_in (lw_tb (List.mem_of_getElem? (i := 1067) (by decide +kernel))) rfl
theorem wq1070 : (Jvm.Cond.fieldLink "WeirStream$State" (54 : Nat) "WeirStream$State" "outputCount" "I") ∈ lw_all := lw_in (lw_tb (List.mem_of_getElem? (i := 1070) (by decide +kernel))) rfl
theorem dX1_give_0 : decode cX1_give 0 = .ok (.aload_n 0, 1) := by decide +kernel
theorem dX1_give_1 : decode cX1_give 1 = .ok (.getfield 7, 3) := by decide +kernel
theorem dX1_give_4 : decode cX1_give 4 = .ok (.aload_n 0, 1) := by decide +kernel
theorem dX1_give_5 : decode cX1_give 5 = .ok (.getfield 19, 3) := by decide +kernel
theorem dX1_give_8 : decode cX1_give 8 = .ok (.invokevirtual 28, 3) := by decide +kernel
theorem dX1_give_11 : decode cX1_give 11 = .ok (.lstore_n 1, 1) := by decide +kernel
theorem dX1_give_12 : decode cX1_give 12 = .ok (.aload_n 0, 1) := by decide +kernel
theorem dX1_give_13 : decode cX1_give 13 = .ok (.dup, 1) := by decide +kernel
theorem dX1_give_14 : decode cX1_give 14 = .ok (.getfield 19, 3) := by decide +kernel
theorem dX1_give_17 : decode cX1_give 17 = .ok (.iconst 1, 1) := by decide +kernel
theorem dX1_give_18 : decode cX1_give 18 = .ok (.iadd, 1) := by decide +kernel
theorem dX1_give_19 : decode cX1_give 19 = .ok (.putfield 19, 3) := by decide +kernel
theorem dX1_give_22 : decode cX1_give 22 = .ok (.lload_n 1, 1) := by decide +kernel
theorem dX1_give_23 : decode cX1_give 23 = .ok (.lreturn, 1) := by decide +kernel
theorem dX7_insert_0 : decode cX7_insert 0 = .ok (.aload_n 0, 1) := by decide +kernel
theorem dX7_insert_1 : decode cX7_insert 1 = .ok (.getfield 12, 3) := by decide +kernel
theorem dX7_insert_4 : decode cX7_insert 4 = .ok (.iload_n 1, 1) := by decide +kernel
theorem dX7_insert_5 : decode cX7_insert 5 = .ok (.lload_n 2, 1) := by decide +kernel
theorem dX7_insert_6 : decode cX7_insert 6 = .ok (.invokevirtual 47, 3) := by decide +kernel
theorem dX7_insert_9 : decode cX7_insert 9 = .ok (.aload_n 0, 1) := by decide +kernel
theorem dX7_insert_10 : decode cX7_insert 10 = .ok (.getfield 18, 3) := by decide +kernel
theorem dX7_insert_13 : decode cX7_insert 13 = .ok (.iload_n 1, 1) := by decide +kernel
theorem dX7_insert_14 : decode cX7_insert 14 = .ok (.lload 4, 2) := by decide +kernel
theorem dX7_insert_16 : decode cX7_insert 16 = .ok (.invokevirtual 47, 3) := by decide +kernel
theorem dX7_insert_19 : decode cX7_insert 19 = .ok (.return_, 1) := by decide +kernel
theorem dX7_setAccount_0 : decode cX7_setAccount 0 = .ok (.aload_n 0, 1) := by decide +kernel
theorem dX7_setAccount_1 : decode cX7_setAccount 1 = .ok (.getfield 18, 3) := by decide +kernel
theorem dX7_setAccount_4 : decode cX7_setAccount 4 = .ok (.iload_n 1, 1) := by decide +kernel
theorem dX7_setAccount_5 : decode cX7_setAccount 5 = .ok (.lload_n 2, 1) := by decide +kernel
theorem dX7_setAccount_6 : decode cX7_setAccount 6 = .ok (.invokevirtual 51, 3) := by decide +kernel
theorem dX7_setAccount_9 : decode cX7_setAccount 9 = .ok (.return_, 1) := by decide +kernel
theorem dX7_remove_0 : decode cX7_remove 0 = .ok (.aload_n 0, 1) := by decide +kernel
theorem dX7_remove_1 : decode cX7_remove 1 = .ok (.getfield 12, 3) := by decide +kernel
theorem dX7_remove_4 : decode cX7_remove 4 = .ok (.iload_n 1, 1) := by decide +kernel
theorem dX7_remove_5 : decode cX7_remove 5 = .ok (.iload_n 2, 1) := by decide +kernel
theorem dX7_remove_6 : decode cX7_remove 6 = .ok (.invokevirtual 54, 3) := by decide +kernel
theorem dX7_remove_9 : decode cX7_remove 9 = .ok (.aload_n 0, 1) := by decide +kernel
theorem dX7_remove_10 : decode cX7_remove 10 = .ok (.getfield 18, 3) := by decide +kernel
theorem dX7_remove_13 : decode cX7_remove 13 = .ok (.iload_n 1, 1) := by decide +kernel
theorem dX7_remove_14 : decode cX7_remove 14 = .ok (.iload_n 2, 1) := by decide +kernel
theorem dX7_remove_15 : decode cX7_remove 15 = .ok (.invokevirtual 54, 3) := by decide +kernel
theorem dX7_remove_18 : decode cX7_remove 18 = .ok (.return_, 1) := by decide +kernel
theorem dX7_become_0 : decode cX7_become 0 = .ok (.aload_n 0, 1) := by decide +kernel
theorem dX7_become_1 : decode cX7_become 1 = .ok (.getfield 12, 3) := by decide +kernel
theorem dX7_become_4 : decode cX7_become 4 = .ok (.aload_n 1, 1) := by decide +kernel
theorem dX7_become_5 : decode cX7_become 5 = .ok (.getfield 12, 3) := by decide +kernel
theorem dX7_become_8 : decode cX7_become 8 = .ok (.iconst 0, 1) := by decide +kernel
theorem dX7_become_9 : decode cX7_become 9 = .ok (.invokevirtual 58, 3) := by decide +kernel
theorem dX7_become_12 : decode cX7_become 12 = .ok (.aload_n 0, 1) := by decide +kernel
theorem dX7_become_13 : decode cX7_become 13 = .ok (.getfield 18, 3) := by decide +kernel
theorem dX7_become_16 : decode cX7_become 16 = .ok (.aload_n 1, 1) := by decide +kernel
theorem dX7_become_17 : decode cX7_become 17 = .ok (.getfield 18, 3) := by decide +kernel
theorem dX7_become_20 : decode cX7_become 20 = .ok (.iconst 0, 1) := by decide +kernel
theorem dX7_become_21 : decode cX7_become 21 = .ok (.invokevirtual 58, 3) := by decide +kernel
theorem dX7_become_24 : decode cX7_become 24 = .ok (.return_, 1) := by decide +kernel
theorem dX9_become_0 : decode cX9_become 0 = .ok (.aload_n 0, 1) := by decide +kernel
theorem dX9_become_1 : decode cX9_become 1 = .ok (.aload_n 1, 1) := by decide +kernel
theorem dX9_become_2 : decode cX9_become 2 = .ok (.getfield 7, 3) := by decide +kernel
theorem dX9_become_5 : decode cX9_become 5 = .ok (.putfield 7, 3) := by decide +kernel
theorem dX9_become_8 : decode cX9_become 8 = .ok (.aload_n 0, 1) := by decide +kernel
theorem dX9_become_9 : decode cX9_become 9 = .ok (.aload_n 1, 1) := by decide +kernel
theorem dX9_become_10 : decode cX9_become 10 = .ok (.getfield 13, 3) := by decide +kernel
theorem dX9_become_13 : decode cX9_become 13 = .ok (.putfield 13, 3) := by decide +kernel
theorem dX9_become_16 : decode cX9_become 16 = .ok (.aload_n 0, 1) := by decide +kernel
theorem dX9_become_17 : decode cX9_become 17 = .ok (.aload_n 1, 1) := by decide +kernel
theorem dX9_become_18 : decode cX9_become 18 = .ok (.getfield 16, 3) := by decide +kernel
theorem dX9_become_21 : decode cX9_become 21 = .ok (.putfield 16, 3) := by decide +kernel
theorem dX9_become_24 : decode cX9_become 24 = .ok (.aload_n 0, 1) := by decide +kernel
theorem dX9_become_25 : decode cX9_become 25 = .ok (.aload_n 1, 1) := by decide +kernel
theorem dX9_become_26 : decode cX9_become 26 = .ok (.getfield 19, 3) := by decide +kernel
theorem dX9_become_29 : decode cX9_become 29 = .ok (.putfield 19, 3) := by decide +kernel
theorem dX9_become_32 : decode cX9_become 32 = .ok (.aload_n 0, 1) := by decide +kernel
theorem dX9_become_33 : decode cX9_become 33 = .ok (.aload_n 1, 1) := by decide +kernel
theorem dX9_become_34 : decode cX9_become 34 = .ok (.getfield 45, 3) := by decide +kernel
theorem dX9_become_37 : decode cX9_become 37 = .ok (.putfield 45, 3) := by decide +kernel
theorem dX9_become_40 : decode cX9_become 40 = .ok (.aload_n 0, 1) := by decide +kernel
theorem dX9_become_41 : decode cX9_become 41 = .ok (.aload_n 1, 1) := by decide +kernel
theorem dX9_become_42 : decode cX9_become 42 = .ok (.getfield 48, 3) := by decide +kernel
theorem dX9_become_45 : decode cX9_become 45 = .ok (.putfield 48, 3) := by decide +kernel
theorem dX9_become_48 : decode cX9_become 48 = .ok (.aload_n 0, 1) := by decide +kernel
theorem dX9_become_49 : decode cX9_become 49 = .ok (.aload_n 1, 1) := by decide +kernel
theorem dX9_become_50 : decode cX9_become 50 = .ok (.getfield 51, 3) := by decide +kernel
theorem dX9_become_53 : decode cX9_become 53 = .ok (.putfield 51, 3) := by decide +kernel
theorem dX9_become_56 : decode cX9_become 56 = .ok (.aload_n 0, 1) := by decide +kernel
theorem dX9_become_57 : decode cX9_become 57 = .ok (.aload_n 1, 1) := by decide +kernel
theorem dX9_become_58 : decode cX9_become 58 = .ok (.getfield 54, 3) := by decide +kernel
theorem dX9_become_61 : decode cX9_become 61 = .ok (.putfield 54, 3) := by decide +kernel
theorem dX9_become_64 : decode cX9_become 64 = .ok (.aload_n 0, 1) := by decide +kernel
theorem dX9_become_65 : decode cX9_become 65 = .ok (.getfield 26, 3) := by decide +kernel
theorem dX9_become_68 : decode cX9_become 68 = .ok (.aload_n 1, 1) := by decide +kernel
theorem dX9_become_69 : decode cX9_become 69 = .ok (.getfield 26, 3) := by decide +kernel
theorem dX9_become_72 : decode cX9_become 72 = .ok (.invokevirtual 57, 3) := by decide +kernel
theorem dX9_become_75 : decode cX9_become 75 = .ok (.aload_n 0, 1) := by decide +kernel
theorem dX9_become_76 : decode cX9_become 76 = .ok (.getfield 33, 3) := by decide +kernel
theorem dX9_become_79 : decode cX9_become 79 = .ok (.aload_n 1, 1) := by decide +kernel
theorem dX9_become_80 : decode cX9_become 80 = .ok (.getfield 33, 3) := by decide +kernel
theorem dX9_become_83 : decode cX9_become 83 = .ok (.iconst 0, 1) := by decide +kernel
theorem dX9_become_84 : decode cX9_become 84 = .ok (.invokevirtual 61, 3) := by decide +kernel
theorem dX9_become_87 : decode cX9_become 87 = .ok (.aload_n 0, 1) := by decide +kernel
theorem dX9_become_88 : decode cX9_become 88 = .ok (.getfield 37, 3) := by decide +kernel
theorem dX9_become_91 : decode cX9_become 91 = .ok (.aload_n 1, 1) := by decide +kernel
theorem dX9_become_92 : decode cX9_become 92 = .ok (.getfield 37, 3) := by decide +kernel
theorem dX9_become_95 : decode cX9_become 95 = .ok (.iconst 0, 1) := by decide +kernel
theorem dX9_become_96 : decode cX9_become 96 = .ok (.invokevirtual 61, 3) := by decide +kernel
theorem dX9_become_99 : decode cX9_become 99 = .ok (.return_, 1) := by decide +kernel
end
section
def w_X1_give (S : TS) (w : TW) (kd : Nat) (fl : Nat) (k : Nat) : TW × Int64 := zlet (zset w kd fl k 1 ((w.1 kd fl k 1) + 1)) (fun w1 => (w1, v_X6_at S w.1 w.2.1 w.2.2 (ri fl (zsrc S (kd - 4) k)) (w.1 kd fl k 1)))
theorem m_X1_give (S : TS) (w : TW) (kd : Nat) (fl : Nat) (k : Nat) : zle w ((w_X1_give S w kd fl k).1) := by
  unfold w_X1_give
  exact (zP_let (P := (zle2 (w))) (zle (w)) (zle.to zle.rf rfl) (fun w1 h8_ => h8_))
theorem g_X1_give (S : TS) (w : TW) (kd : Nat) (fl : Nat) (k : Nat) : ((w_X1_give S w kd fl k).1).2.1 = w.2.1 := by
  unfold w_X1_give
  exact (zP_let (P := (fun (b : TW × Int64) => b.1.2.1 = w.2.1)) (fun (b : TW) => b.2.1 = w.2.1) rfl (fun w1 h8_ => h8_))
set_option maxHeartbeats 4000000 in
set_option maxRecDepth 100000 in
theorem k_X1_give (l : Launch) (D : va_G) (yc : Nat → ClassId) (e0 : Nat) (A : Nat → Prop) (S : TS) (Z : Nat × Nat) (Tc Ts : Nat) (w : TW) (cN zN : Nat) (kd : Nat) (fl : Nat) (k : Nat) (hkd : kd = 4 ∨ kd = 5) (hd : dm S kd fl k) (hB : ZB Z Tc Ts ((w_X1_give S w kd fl k).1)) : Met l yX1_give (ws_ yX1_give cX1_give 3 (some .long)) { frames := 1, cells := Tc - cN, slots := Ts - zN, locals := 21 } (PM D yc e0 A S Z w cN zN [.ref (zg S kd fl k)]) (tQl D yc e0 A S Z (w_X1_give S w kd fl k)) (Tc - cN) (Ts - zN) A := by
  have hB0 : ZB Z Tc Ts w := hB.mono (m_X1_give _ _ _ _ _)
  refine tk_W hB0 (by decide) (Nat.le_of_ble_eq_true rfl) ?_
  intro p e s m args below meth c ls H locs hx hb hml hr hlk hown hts hW hS hA hC hl
  have hK := hC.1
  have hN := hC.2.1
  have hn12 := hW.n12
  skip
  obtain ⟨hcf, hck, hcs⟩ := hW.csrc hkd hd
  have hl : lv_has ls 3 [(0, .ref (zg S kd fl k))] := hl
  refine lv_aload_n hx hb dX1_give_0 rfl (lv_at hl 0 rfl) ?_
  refine t_get (D := D) (ci := 1) (v := .ref (zr S (ri fl (zsrc S (kd - 4) k)))) (C := RX1) (T := TX1) (N := 3) hx hb hts iX1 hown hK hW kd fl k hd (cel_ch hkd) rfl 0 (by decide) (hts _ wq937) (fun _ h9 => h9) rfl dX1_give_1 ?_
  refine lv_aload_n hx hb dX1_give_4 rfl (lv_at hl 0 rfl) ?_
  refine t_get (D := D) (ci := 1) (v := .int (w.1 kd fl k 1)) (C := RX1) (T := TX1) (N := 3) hx hb hts iX1 hown hK hW kd fl k hd (cel_ch hkd) rfl 1 (by decide) (hts _ wq938) (fun _ h9 => h9) rfl dX1_give_5 ?_
  refine zr_l (va_runV (As := [.int (w.1 kd fl k 1)]) (rest := []) ⟨hx, hb, hml, hown, hts⟩ (k_X6_at l D yc e0 A S Z w.1 w.2.1 w.2.2 (ri fl (zsrc S (kd - 4) k)) (w.1 kd fl k 1) (dr_i hW.n12 (by assumption) (by assumption))) (cwV 1 hts (lw_V wq474 wq391 wq392 wq15 wq393) rfl rfl rfl (by decide +kernel) ⟨(Nat.le_refl _), (Nat.le_refl _)⟩) (tp_R hC hW hS hA (ri fl (zsrc S (kd - 4) k)) (dr_i hW.n12 (by assumption) (by assumption))) rfl rfl hl.1 rfl (lv_room (Nat.le_of_ble_eq_true rfl)) dX1_give_8 ⟨(Nat.le_refl _), (Nat.le_refl _)⟩) ?_
  refine lv_lstore_n (lv' := [(1, .long (v_X6_at S w.1 w.2.1 w.2.2 (ri fl (zsrc S (kd - 4) k)) (w.1 kd fl k 1))), (0, .ref (zg S kd fl k))]) hx hb dX1_give_11 rfl hl (by decide) rfl (fun ls hl => ?_)
  refine lv_aload_n hx hb dX1_give_12 rfl (lv_at hl 1 rfl) ?_
  refine lv_dup hx hb dX1_give_13 rfl ?_
  refine t_get (D := D) (ci := 1) (v := .int (w.1 kd fl k 1)) (C := RX1) (T := TX1) (N := 3) hx hb hts iX1 hown hK hW kd fl k hd (cel_ch hkd) rfl 1 (by decide) (hts _ wq938) (fun _ h9 => h9) rfl dX1_give_14 ?_
  refine lv_iconst (v := 1) hx hb dX1_give_17 (by decide) ?_
  refine lv_iadd hx hb dX1_give_18 ?_
  refine t_put (D := D) (ci := 1) (v := .int ((w.1 kd fl k 1) + 1)) (ty := .int) (C := RX1) (T := TX1) (N := 3) hx hb hts iX1 tyX1 tyX1_ok nmX1 hown hK hW hS kd fl k hd (cel_ch hkd) rfl 1 (by decide) (hts _ wq938) (fun _ h9 => h9) rfl (by decide +kernel) rfl rfl (Nat.le_of_ble_eq_true rfl) (fun j9 => if j9 = 1 then (w.1 kd fl k 1) + 1 else w.1 kd fl k j9) w.2.1 ((cel_ch hkd).trans rfl) (fun _ _ _ => rfl) (zbit (fun j9 h9 => hW.bit _ _ _ j9 h9) (fun h9 => absurd h9 (zib_c1 hkd))) dX1_give_19 (fun H locs hW hS => ?_)
  obtain ⟨w1, hw1, hW, hB_w1⟩ : ∃ ww : TW, zset w kd fl k 1 ((w.1 kd fl k 1) + 1) = ww ∧ WT D yc e0 A S Z ww.1 ww.2.1 ww.2.2 H ∧ ZB Z Tc Ts ww := ⟨_, rfl, hW, hB0⟩
  refine lv_lload_n hx hb dX1_give_22 rfl (lv_at hl 0 rfl) ?_
  exact tx_l hx hb hr hlk hS hW (zlet_e hw1 rfl) dX1_give_23
def w_X7_insert (S : TS) (w : TW) (fl : Nat) (k : Nat) (j : Nat) (l1 : Int64) (l2 : Int64) : TW := zlet (zrw w (rs 0 fl k) (qins (w.2.2 (rs 0 fl k)) j l1)) (fun w1 => zlet (zrw w1 (rs 1 fl k) (qins (w1.2.2 (rs 1 fl k)) j l2)) (fun w2 => w2))
theorem m_X7_insert (S : TS) (w : TW) (fl : Nat) (k : Nat) (j : Nat) (l1 : Int64) (l2 : Int64) : zle w (w_X7_insert S w fl k j l1 l2) := by
  unfold w_X7_insert
  exact (zP_let (P := (zle (w))) (zle (w)) (zle.tr zle.rf (zle.row (mq_insert _ _ _))) (fun w1 h8_ => (zP_let (P := (zle (w))) (zle (w)) (zle.tr h8_ (zle.row (mq_insert _ _ _))) (fun w2 h8__ => h8__))))
theorem g_X7_insert (S : TS) (w : TW) (fl : Nat) (k : Nat) (j : Nat) (l1 : Int64) (l2 : Int64) : (w_X7_insert S w fl k j l1 l2).2.1 = w.2.1 := by
  unfold w_X7_insert
  exact (zP_let (P := (fun (b : TW) => b.2.1 = w.2.1)) (fun (b : TW) => b.2.1 = w.2.1) rfl (fun w1 h8_ => (zP_let (P := (fun (b : TW) => b.2.1 = w.2.1)) (fun (b : TW) => b.2.1 = w.2.1) h8_ (fun w2 h8__ => h8__))))
set_option maxHeartbeats 4000000 in
set_option maxRecDepth 100000 in
theorem k_X7_insert (l : Launch) (D : va_G) (yc : Nat → ClassId) (e0 : Nat) (A : Nat → Prop) (S : TS) (Z : Nat × Nat) (Tc Ts : Nat) (w : TW) (cN zN : Nat) (fl : Nat) (k : Nat) (j : Nat) (l1 : Int64) (l2 : Int64) (hf : fl < 2) (hk : k < 3 * zn S) (hj2 : j < 2 ^ 31) (hB : ZB Z Tc Ts (w_X7_insert S w fl k j l1 l2)) : Met l yX7_insert (ws_ yX7_insert cX7_insert 6 none) { frames := 3, cells := Tc - cN, slots := Ts - zN, locals := 85 } (PM D yc e0 A S Z w cN zN [.ref (zg S 1 fl k), .int (nI j), .long l1, .long l2]) (tQv D yc e0 A S Z (w_X7_insert S w fl k j l1 l2)) (Tc - cN) (Ts - zN) A := by
  have hB0 : ZB Z Tc Ts w := hB.mono (m_X7_insert _ _ _ _ _ _ _)
  refine tk_W hB0 (by decide) (Nat.le_of_ble_eq_true rfl) ?_
  intro p e s m args below meth c ls H locs hx hb hml hr hlk hown hts hW hS hA hC hl
  have hK := hC.1
  have hN := hC.2.1
  have hn12 := hW.n12
  skip
  have hl : lv_has ls 6 [(0, .ref (zg S 1 fl k)), (1, .int (nI j)), (2, .long l1), (4, .long l2)] := hl
  refine lv_aload_n hx hb dX7_insert_0 rfl (lv_at hl 0 rfl) ?_
  refine t_get (D := D) (ci := 6) (v := .ref (zr S (rs 0 fl k))) (C := RX7) (T := TX7) (N := 2) hx hb hts iX7 hown hK hW 1 fl k (dm1 (by omega) (by omega)) rfl rfl 0 (by decide) (hts _ wq1042) (fun _ h9 => h9) rfl dX7_insert_1 ?_
  refine lv_iload_n hx hb dX7_insert_4 rfl (lv_at hl 1 rfl) ?_
  refine lv_lload_n hx hb dX7_insert_5 rfl (lv_at hl 2 rfl) ?_
  have hB_w1 : ZB Z Tc Ts (zrw w (rs 0 fl k) (qins (w.2.2 (rs 0 fl k)) j l1)) := hB.mono (zP_let (P := (zle (zrw w (rs 0 fl k) (qins (w.2.2 (rs 0 fl k)) j l1)))) (zle (zrw w (rs 0 fl k) (qins (w.2.2 (rs 0 fl k)) j l1))) zle.rf (fun w1 h8 => (zP_let (P := (zle (zrw w (rs 0 fl k) (qins (w.2.2 (rs 0 fl k)) j l1)))) (zle (zrw w (rs 0 fl k) (qins (w.2.2 (rs 0 fl k)) j l1))) (zle.tr h8 (zle.row (mq_insert _ _ _))) (fun w2 h8_ => h8_))))
  refine tw_v hB_w1 ⟨rfl, rfl⟩ (hB0.top hW) (fun hle9 => va_runV (As := [.int (nI j), .long l1]) (rest := []) ⟨hx, hb, hml, hown, hts⟩ (k_X6_insert l D yc e0 A S Z Tc Ts w H.size (zh H) (rs 0 fl k) j l1 (dr_s hW.n12 (by omega) (by omega) (by omega)) (by first | assumption | omega | decide) hB_w1) (cwV 2 hts (lw_V wq543 wq544 wq545 wq15 wq546) rfl rfl rfl (by decide +kernel) ⟨(Nat.le_of_ble_eq_true rfl), (Nat.le_of_ble_eq_true rfl)⟩) (tq_R hC hW hS hA (rs 0 fl k) (dr_s hW.n12 (by omega) (by omega) (by omega))) rfl rfl hl.1 rfl (lv_room (Nat.le_of_ble_eq_true rfl)) dX7_insert_6 hle9) hS (fun H locs hW hS => ?_)
  obtain ⟨w1, hw1, hW, hB_w1⟩ : ∃ ww : TW, zrw w (rs 0 fl k) (qins (w.2.2 (rs 0 fl k)) j l1) = ww ∧ WT D yc e0 A S Z ww.1 ww.2.1 ww.2.2 H ∧ ZB Z Tc Ts ww := ⟨_, rfl, hW, hB_w1⟩
  refine lv_aload_n hx hb dX7_insert_9 rfl (lv_at hl 0 rfl) ?_
  refine t_get (D := D) (ci := 6) (v := .ref (zr S (rs 1 fl k))) (C := RX7) (T := TX7) (N := 2) hx hb hts iX7 hown hK hW 1 fl k (dm1 (by omega) (by omega)) rfl rfl 1 (by decide) (hts _ wq1043) (fun _ h9 => h9) rfl dX7_insert_10 ?_
  refine lv_iload_n hx hb dX7_insert_13 rfl (lv_at hl 1 rfl) ?_
  refine lv_lload hx hb dX7_insert_14 (lv_at hl 3 rfl) ?_
  have hB_w2 : ZB Z Tc Ts (zrw w1 (rs 1 fl k) (qins (w1.2.2 (rs 1 fl k)) j l2)) := hB.mono (zP_l (P := (zle (zrw w1 (rs 1 fl k) (qins (w1.2.2 (rs 1 fl k)) j l2)))) hw1 (zP_let (P := (zle (zrw w1 (rs 1 fl k) (qins (w1.2.2 (rs 1 fl k)) j l2)))) (zle (zrw w1 (rs 1 fl k) (qins (w1.2.2 (rs 1 fl k)) j l2))) zle.rf (fun w2 h8 => h8)))
  refine tw_v hB_w2 ⟨rfl, rfl⟩ (hB_w1.top hW) (fun hle9 => va_runV (As := [.int (nI j), .long l2]) (rest := []) ⟨hx, hb, hml, hown, hts⟩ (k_X6_insert l D yc e0 A S Z Tc Ts w1 H.size (zh H) (rs 1 fl k) j l2 (dr_s hW.n12 (by omega) (by omega) (by omega)) (by first | assumption | omega | decide) hB_w2) (cwV 2 hts (lw_V wq543 wq544 wq545 wq15 wq546) rfl rfl rfl (by decide +kernel) ⟨(Nat.le_of_ble_eq_true rfl), (Nat.le_of_ble_eq_true rfl)⟩) (tq_R hC hW hS hA (rs 1 fl k) (dr_s hW.n12 (by omega) (by omega) (by omega))) rfl rfl hl.1 rfl (lv_room (Nat.le_of_ble_eq_true rfl)) dX7_insert_16 hle9) hS (fun H locs hW hS => ?_)
  obtain ⟨w2, hw2, hW, hB_w2⟩ : ∃ ww : TW, zrw w1 (rs 1 fl k) (qins (w1.2.2 (rs 1 fl k)) j l2) = ww ∧ WT D yc e0 A S Z ww.1 ww.2.1 ww.2.2 H ∧ ZB Z Tc Ts ww := ⟨_, rfl, hW, hB_w2⟩
  exact tx_v hx hb hr hlk hS hW (zlet_e hw1 (zlet_e hw2 rfl)) dX7_insert_19
def w_X7_setAccount (S : TS) (w : TW) (fl : Nat) (k : Nat) (j : Nat) (l1 : Int64) : TW := zlet (zrw w (rs 1 fl k) (qput (w.2.2 (rs 1 fl k)) j l1)) (fun w1 => w1)
theorem m_X7_setAccount (S : TS) (w : TW) (fl : Nat) (k : Nat) (j : Nat) (l1 : Int64) : zle w (w_X7_setAccount S w fl k j l1) := by
  unfold w_X7_setAccount
  exact (zP_let (P := (zle (w))) (zle (w)) (zle.tr zle.rf (zle.row (mq_put _ _ _))) (fun w1 h8_ => h8_))
theorem g_X7_setAccount (S : TS) (w : TW) (fl : Nat) (k : Nat) (j : Nat) (l1 : Int64) : (w_X7_setAccount S w fl k j l1).2.1 = w.2.1 := by
  unfold w_X7_setAccount
  exact (zP_let (P := (fun (b : TW) => b.2.1 = w.2.1)) (fun (b : TW) => b.2.1 = w.2.1) rfl (fun w1 h8_ => h8_))
set_option maxHeartbeats 4000000 in
set_option maxRecDepth 100000 in
theorem k_X7_setAccount (l : Launch) (D : va_G) (yc : Nat → ClassId) (e0 : Nat) (A : Nat → Prop) (S : TS) (Z : Nat × Nat) (Tc Ts : Nat) (w : TW) (cN zN : Nat) (fl : Nat) (k : Nat) (j : Nat) (l1 : Int64) (hf : fl < 2) (hk : k < 3 * zn S) (hj2 : j < 2 ^ 31) (hB : ZB Z Tc Ts (w_X7_setAccount S w fl k j l1)) : Met l yX7_setAccount (ws_ yX7_setAccount cX7_setAccount 4 none) { frames := 1, cells := Tc - cN, slots := Ts - zN, locals := 23 } (PM D yc e0 A S Z w cN zN [.ref (zg S 1 fl k), .int (nI j), .long l1]) (tQv D yc e0 A S Z (w_X7_setAccount S w fl k j l1)) (Tc - cN) (Ts - zN) A := by
  have hB0 : ZB Z Tc Ts w := hB.mono (m_X7_setAccount _ _ _ _ _ _)
  refine tk_W hB0 (by decide) (Nat.le_of_ble_eq_true rfl) ?_
  intro p e s m args below meth c ls H locs hx hb hml hr hlk hown hts hW hS hA hC hl
  have hK := hC.1
  have hN := hC.2.1
  have hn12 := hW.n12
  skip
  have hl : lv_has ls 4 [(0, .ref (zg S 1 fl k)), (1, .int (nI j)), (2, .long l1)] := hl
  refine lv_aload_n hx hb dX7_setAccount_0 rfl (lv_at hl 0 rfl) ?_
  refine t_get (D := D) (ci := 6) (v := .ref (zr S (rs 1 fl k))) (C := RX7) (T := TX7) (N := 2) hx hb hts iX7 hown hK hW 1 fl k (dm1 (by omega) (by omega)) rfl rfl 1 (by decide) (hts _ wq1043) (fun _ h9 => h9) rfl dX7_setAccount_1 ?_
  refine lv_iload_n hx hb dX7_setAccount_4 rfl (lv_at hl 1 rfl) ?_
  refine lv_lload_n hx hb dX7_setAccount_5 rfl (lv_at hl 2 rfl) ?_
  have hB_w1 : ZB Z Tc Ts (zrw w (rs 1 fl k) (qput (w.2.2 (rs 1 fl k)) j l1)) := hB.mono (zP_let (P := (zle (zrw w (rs 1 fl k) (qput (w.2.2 (rs 1 fl k)) j l1)))) (zle (zrw w (rs 1 fl k) (qput (w.2.2 (rs 1 fl k)) j l1))) zle.rf (fun w1 h8 => h8))
  refine tw_v hB_w1 ⟨rfl, rfl⟩ (hB0.top hW) (fun hle9 => va_runV (As := [.int (nI j), .long l1]) (rest := []) ⟨hx, hb, hml, hown, hts⟩ (k_X6_put l D yc e0 A S Z Tc Ts w H.size (zh H) (rs 1 fl k) j l1 (dr_s hW.n12 (by omega) (by omega) (by omega)) (by first | assumption | omega | decide) hB_w1) (cwV 2 hts (lw_V wq535 wq536 wq537 wq15 wq538) rfl rfl rfl (by decide +kernel) ⟨(Nat.le_of_ble_eq_true rfl), (Nat.le_of_ble_eq_true rfl)⟩) (tq_R hC hW hS hA (rs 1 fl k) (dr_s hW.n12 (by omega) (by omega) (by omega))) rfl rfl hl.1 rfl (lv_room (Nat.le_of_ble_eq_true rfl)) dX7_setAccount_6 hle9) hS (fun H locs hW hS => ?_)
  obtain ⟨w1, hw1, hW, hB_w1⟩ : ∃ ww : TW, zrw w (rs 1 fl k) (qput (w.2.2 (rs 1 fl k)) j l1) = ww ∧ WT D yc e0 A S Z ww.1 ww.2.1 ww.2.2 H ∧ ZB Z Tc Ts ww := ⟨_, rfl, hW, hB_w1⟩
  exact tx_v hx hb hr hlk hS hW (zlet_e hw1 rfl) dX7_setAccount_9
def w_X7_remove (S : TS) (w : TW) (fl : Nat) (k : Nat) (a : Nat) (b : Nat) : TW := zlet (zrw w (rs 0 fl k) (qrem (w.2.2 (rs 0 fl k)) a b)) (fun w1 => zlet (zrw w1 (rs 1 fl k) (qrem (w1.2.2 (rs 1 fl k)) a b)) (fun w2 => w2))
theorem m_X7_remove (S : TS) (w : TW) (fl : Nat) (k : Nat) (a : Nat) (b : Nat) : zle w (w_X7_remove S w fl k a b) := by
  unfold w_X7_remove
  exact (zP_let (P := (zle (w))) (zle (w)) (zle.tr zle.rf (zle.row (mq_remove _ _ _))) (fun w1 h8_ => (zP_let (P := (zle (w))) (zle (w)) (zle.tr h8_ (zle.row (mq_remove _ _ _))) (fun w2 h8__ => h8__))))
theorem g_X7_remove (S : TS) (w : TW) (fl : Nat) (k : Nat) (a : Nat) (b : Nat) : (w_X7_remove S w fl k a b).2.1 = w.2.1 := by
  unfold w_X7_remove
  exact (zP_let (P := (fun (b : TW) => b.2.1 = w.2.1)) (fun (b : TW) => b.2.1 = w.2.1) rfl (fun w1 h8_ => (zP_let (P := (fun (b : TW) => b.2.1 = w.2.1)) (fun (b : TW) => b.2.1 = w.2.1) h8_ (fun w2 h8__ => h8__))))
set_option maxHeartbeats 4000000 in
set_option maxRecDepth 100000 in
theorem k_X7_remove (l : Launch) (D : va_G) (yc : Nat → ClassId) (e0 : Nat) (A : Nat → Prop) (S : TS) (Z : Nat × Nat) (Tc Ts : Nat) (w : TW) (cN zN : Nat) (fl : Nat) (k : Nat) (a : Nat) (b : Nat) (hf : fl < 2) (hk : k < 3 * zn S) (ha : a < 2 ^ 31) (hb9 : b < 2 ^ 31) (hB : ZB Z Tc Ts (w_X7_remove S w fl k a b)) : Met l yX7_remove (ws_ yX7_remove cX7_remove 3 none) { frames := 2, cells := Tc - cN, slots := Ts - zN, locals := 62 } (PM D yc e0 A S Z w cN zN [.ref (zg S 1 fl k), .int (nI a), .int (nI b)]) (tQv D yc e0 A S Z (w_X7_remove S w fl k a b)) (Tc - cN) (Ts - zN) A := by
  have hB0 : ZB Z Tc Ts w := hB.mono (m_X7_remove _ _ _ _ _ _)
  refine tk_W hB0 (by decide) (Nat.le_of_ble_eq_true rfl) ?_
  intro p e s m args below meth c ls H locs hx hb hml hr hlk hown hts hW hS hA hC hl
  have hK := hC.1
  have hN := hC.2.1
  have hn12 := hW.n12
  skip
  have hl : lv_has ls 3 [(0, .ref (zg S 1 fl k)), (1, .int (nI a)), (2, .int (nI b))] := hl
  refine lv_aload_n hx hb dX7_remove_0 rfl (lv_at hl 0 rfl) ?_
  refine t_get (D := D) (ci := 6) (v := .ref (zr S (rs 0 fl k))) (C := RX7) (T := TX7) (N := 2) hx hb hts iX7 hown hK hW 1 fl k (dm1 (by omega) (by omega)) rfl rfl 0 (by decide) (hts _ wq1042) (fun _ h9 => h9) rfl dX7_remove_1 ?_
  refine lv_iload_n hx hb dX7_remove_4 rfl (lv_at hl 1 rfl) ?_
  refine lv_iload_n hx hb dX7_remove_5 rfl (lv_at hl 2 rfl) ?_
  have hB_w1 : ZB Z Tc Ts (zrw w (rs 0 fl k) (qrem (w.2.2 (rs 0 fl k)) a b)) := hB.mono (zP_let (P := (zle (zrw w (rs 0 fl k) (qrem (w.2.2 (rs 0 fl k)) a b)))) (zle (zrw w (rs 0 fl k) (qrem (w.2.2 (rs 0 fl k)) a b))) zle.rf (fun w1 h8 => (zP_let (P := (zle (zrw w (rs 0 fl k) (qrem (w.2.2 (rs 0 fl k)) a b)))) (zle (zrw w (rs 0 fl k) (qrem (w.2.2 (rs 0 fl k)) a b))) (zle.tr h8 (zle.row (mq_remove _ _ _))) (fun w2 h8_ => h8_))))
  refine tw_v hB_w1 ⟨rfl, rfl⟩ (hB0.top hW) (fun hle9 => va_runV (As := [.int (nI a), .int (nI b)]) (rest := []) ⟨hx, hb, hml, hown, hts⟩ (k_X6_remove l D yc e0 A S Z Tc Ts w H.size (zh H) (rs 0 fl k) a b (dr_s hW.n12 (by omega) (by omega) (by omega)) (by first | assumption | omega | decide) (by first | assumption | omega | decide) hB_w1) (cwV 2 hts (lw_V wq452 wq322 wq323 wq15 wq324) rfl rfl rfl (by decide +kernel) ⟨(Nat.le_of_ble_eq_true rfl), (Nat.le_of_ble_eq_true rfl)⟩) (tq_R hC hW hS hA (rs 0 fl k) (dr_s hW.n12 (by omega) (by omega) (by omega))) rfl rfl hl.1 rfl (lv_room (Nat.le_of_ble_eq_true rfl)) dX7_remove_6 hle9) hS (fun H locs hW hS => ?_)
  obtain ⟨w1, hw1, hW, hB_w1⟩ : ∃ ww : TW, zrw w (rs 0 fl k) (qrem (w.2.2 (rs 0 fl k)) a b) = ww ∧ WT D yc e0 A S Z ww.1 ww.2.1 ww.2.2 H ∧ ZB Z Tc Ts ww := ⟨_, rfl, hW, hB_w1⟩
  refine lv_aload_n hx hb dX7_remove_9 rfl (lv_at hl 0 rfl) ?_
  refine t_get (D := D) (ci := 6) (v := .ref (zr S (rs 1 fl k))) (C := RX7) (T := TX7) (N := 2) hx hb hts iX7 hown hK hW 1 fl k (dm1 (by omega) (by omega)) rfl rfl 1 (by decide) (hts _ wq1043) (fun _ h9 => h9) rfl dX7_remove_10 ?_
  refine lv_iload_n hx hb dX7_remove_13 rfl (lv_at hl 1 rfl) ?_
  refine lv_iload_n hx hb dX7_remove_14 rfl (lv_at hl 2 rfl) ?_
  have hB_w2 : ZB Z Tc Ts (zrw w1 (rs 1 fl k) (qrem (w1.2.2 (rs 1 fl k)) a b)) := hB.mono (zP_l (P := (zle (zrw w1 (rs 1 fl k) (qrem (w1.2.2 (rs 1 fl k)) a b)))) hw1 (zP_let (P := (zle (zrw w1 (rs 1 fl k) (qrem (w1.2.2 (rs 1 fl k)) a b)))) (zle (zrw w1 (rs 1 fl k) (qrem (w1.2.2 (rs 1 fl k)) a b))) zle.rf (fun w2 h8 => h8)))
  refine tw_v hB_w2 ⟨rfl, rfl⟩ (hB_w1.top hW) (fun hle9 => va_runV (As := [.int (nI a), .int (nI b)]) (rest := []) ⟨hx, hb, hml, hown, hts⟩ (k_X6_remove l D yc e0 A S Z Tc Ts w1 H.size (zh H) (rs 1 fl k) a b (dr_s hW.n12 (by omega) (by omega) (by omega)) (by first | assumption | omega | decide) (by first | assumption | omega | decide) hB_w2) (cwV 2 hts (lw_V wq452 wq322 wq323 wq15 wq324) rfl rfl rfl (by decide +kernel) ⟨(Nat.le_of_ble_eq_true rfl), (Nat.le_of_ble_eq_true rfl)⟩) (tq_R hC hW hS hA (rs 1 fl k) (dr_s hW.n12 (by omega) (by omega) (by omega))) rfl rfl hl.1 rfl (lv_room (Nat.le_of_ble_eq_true rfl)) dX7_remove_15 hle9) hS (fun H locs hW hS => ?_)
  obtain ⟨w2, hw2, hW, hB_w2⟩ : ∃ ww : TW, zrw w1 (rs 1 fl k) (qrem (w1.2.2 (rs 1 fl k)) a b) = ww ∧ WT D yc e0 A S Z ww.1 ww.2.1 ww.2.2 H ∧ ZB Z Tc Ts ww := ⟨_, rfl, hW, hB_w2⟩
  exact tx_v hx hb hr hlk hS hW (zlet_e hw1 (zlet_e hw2 rfl)) dX7_remove_18
def w_X7_become (S : TS) (w : TW) (fl : Nat) (k : Nat) (fl2 : Nat) (k2 : Nat) : TW := zlet (zrw w (rs 0 fl k) (qbec (w.2.2 (rs 0 fl k)) (w.2.2 (rs 0 fl2 k2)) (zfrom 0 (w.2.2 (rs 0 fl2 k2)).2.length))) (fun w1 => zlet (zrw w1 (rs 1 fl k) (qbec (w1.2.2 (rs 1 fl k)) (w1.2.2 (rs 1 fl2 k2)) (zfrom 0 (w1.2.2 (rs 1 fl2 k2)).2.length))) (fun w2 => w2))
theorem m_X7_become (S : TS) (w : TW) (fl : Nat) (k : Nat) (fl2 : Nat) (k2 : Nat) : zle w (w_X7_become S w fl k fl2 k2) := by
  unfold w_X7_become
  exact (zP_let (P := (zle (w))) (zle (w)) (zle.tr zle.rf (zle.row (mq_become _ _ _))) (fun w1 h8_ => (zP_let (P := (zle (w))) (zle (w)) (zle.tr h8_ (zle.row (mq_become _ _ _))) (fun w2 h8__ => h8__))))
theorem g_X7_become (S : TS) (w : TW) (fl : Nat) (k : Nat) (fl2 : Nat) (k2 : Nat) : (w_X7_become S w fl k fl2 k2).2.1 = w.2.1 := by
  unfold w_X7_become
  exact (zP_let (P := (fun (b : TW) => b.2.1 = w.2.1)) (fun (b : TW) => b.2.1 = w.2.1) rfl (fun w1 h8_ => (zP_let (P := (fun (b : TW) => b.2.1 = w.2.1)) (fun (b : TW) => b.2.1 = w.2.1) h8_ (fun w2 h8__ => h8__))))
set_option maxHeartbeats 4000000 in
set_option maxRecDepth 100000 in
theorem k_X7_become (l : Launch) (D : va_G) (yc : Nat → ClassId) (e0 : Nat) (A : Nat → Prop) (S : TS) (Z : Nat × Nat) (Tc Ts : Nat) (w : TW) (cN zN : Nat) (fl : Nat) (k : Nat) (fl2 : Nat) (k2 : Nat) (hf : fl < 2) (hk : k < 3 * zn S) (hf2 : fl2 < 2) (hk2 : k2 < 3 * zn S) (hne2 : ¬ (fl2 = fl ∧ k2 = k)) (hB : ZB Z Tc Ts (w_X7_become S w fl k fl2 k2)) : Met l yX7_become (ws_ yX7_become cX7_become 2 none) { frames := 2, cells := Tc - cN, slots := Ts - zN, locals := 66 } (PM D yc e0 A S Z w cN zN [.ref (zg S 1 fl k), .ref (zg S 1 fl2 k2)]) (tQv D yc e0 A S Z (w_X7_become S w fl k fl2 k2)) (Tc - cN) (Ts - zN) A := by
  have hB0 : ZB Z Tc Ts w := hB.mono (m_X7_become _ _ _ _ _ _)
  refine tk_W hB0 (by decide) (Nat.le_of_ble_eq_true rfl) ?_
  intro p e s m args below meth c ls H locs hx hb hml hr hlk hown hts hW hS hA hC hl
  have hK := hC.1
  have hN := hC.2.1
  have hn12 := hW.n12
  skip
  have hl : lv_has ls 2 [(0, .ref (zg S 1 fl k)), (1, .ref (zg S 1 fl2 k2))] := hl
  refine lv_aload_n hx hb dX7_become_0 rfl (lv_at hl 0 rfl) ?_
  refine t_get (D := D) (ci := 6) (v := .ref (zr S (rs 0 fl k))) (C := RX7) (T := TX7) (N := 2) hx hb hts iX7 hown hK hW 1 fl k (dm1 (by omega) (by omega)) rfl rfl 0 (by decide) (hts _ wq1042) (fun _ h9 => h9) rfl dX7_become_1 ?_
  refine lv_aload_n hx hb dX7_become_4 rfl (lv_at hl 1 rfl) ?_
  refine t_get (D := D) (ci := 6) (v := .ref (zr S (rs 0 fl2 k2))) (C := RX7) (T := TX7) (N := 2) hx hb hts iX7 hown hK hW 1 fl2 k2 (dm1 (by omega) (by omega)) rfl rfl 0 (by decide) (hts _ wq1042) (fun _ h9 => h9) rfl dX7_become_5 ?_
  refine lv_iconst (v := 0) hx hb dX7_become_8 (by decide) ?_
  have hB_w1 : ZB Z Tc Ts (zrw w (rs 0 fl k) (qbec (w.2.2 (rs 0 fl k)) (w.2.2 (rs 0 fl2 k2)) (zfrom 0 (w.2.2 (rs 0 fl2 k2)).2.length))) := hB.mono (zP_let (P := (zle (zrw w (rs 0 fl k) (qbec (w.2.2 (rs 0 fl k)) (w.2.2 (rs 0 fl2 k2)) (zfrom 0 (w.2.2 (rs 0 fl2 k2)).2.length))))) (zle (zrw w (rs 0 fl k) (qbec (w.2.2 (rs 0 fl k)) (w.2.2 (rs 0 fl2 k2)) (zfrom 0 (w.2.2 (rs 0 fl2 k2)).2.length)))) zle.rf (fun w1 h8 => (zP_let (P := (zle (zrw w (rs 0 fl k) (qbec (w.2.2 (rs 0 fl k)) (w.2.2 (rs 0 fl2 k2)) (zfrom 0 (w.2.2 (rs 0 fl2 k2)).2.length))))) (zle (zrw w (rs 0 fl k) (qbec (w.2.2 (rs 0 fl k)) (w.2.2 (rs 0 fl2 k2)) (zfrom 0 (w.2.2 (rs 0 fl2 k2)).2.length)))) (zle.tr h8 (zle.row (mq_become _ _ _))) (fun w2 h8_ => h8_))))
  refine tw_v hB_w1 ⟨rfl, rfl⟩ (hB0.top hW) (fun hle9 => va_runV (As := [.ref (zr S (rs 0 fl2 k2)), .int 0]) (rest := []) ⟨hx, hb, hml, hown, hts⟩ (k_X6_become l D yc e0 A S Z Tc Ts w H.size (zh H) (rs 0 fl k) (rs 0 fl2 k2) 0 (dr_s hW.n12 (by omega) (by omega) (by omega)) (dr_s hW.n12 (by omega) (by omega) (by omega)) (by first | (unfold rs; omega) | (unfold ri; omega)) hB_w1) (cwV 2 hts (lw_V wq369 wq370 wq371 wq15 wq372) rfl rfl rfl (by decide +kernel) ⟨(Nat.le_of_ble_eq_true rfl), (Nat.le_of_ble_eq_true rfl)⟩) (tq_R hC hW hS hA (rs 0 fl k) (dr_s hW.n12 (by omega) (by omega) (by omega))) rfl rfl hl.1 rfl (lv_room (Nat.le_of_ble_eq_true rfl)) dX7_become_9 hle9) hS (fun H locs hW hS => ?_)
  obtain ⟨w1, hw1, hW, hB_w1⟩ : ∃ ww : TW, zrw w (rs 0 fl k) (qbec (w.2.2 (rs 0 fl k)) (w.2.2 (rs 0 fl2 k2)) (zfrom 0 (w.2.2 (rs 0 fl2 k2)).2.length)) = ww ∧ WT D yc e0 A S Z ww.1 ww.2.1 ww.2.2 H ∧ ZB Z Tc Ts ww := ⟨_, rfl, hW, hB_w1⟩
  refine lv_aload_n hx hb dX7_become_12 rfl (lv_at hl 0 rfl) ?_
  refine t_get (D := D) (ci := 6) (v := .ref (zr S (rs 1 fl k))) (C := RX7) (T := TX7) (N := 2) hx hb hts iX7 hown hK hW 1 fl k (dm1 (by omega) (by omega)) rfl rfl 1 (by decide) (hts _ wq1043) (fun _ h9 => h9) rfl dX7_become_13 ?_
  refine lv_aload_n hx hb dX7_become_16 rfl (lv_at hl 1 rfl) ?_
  refine t_get (D := D) (ci := 6) (v := .ref (zr S (rs 1 fl2 k2))) (C := RX7) (T := TX7) (N := 2) hx hb hts iX7 hown hK hW 1 fl2 k2 (dm1 (by omega) (by omega)) rfl rfl 1 (by decide) (hts _ wq1043) (fun _ h9 => h9) rfl dX7_become_17 ?_
  refine lv_iconst (v := 0) hx hb dX7_become_20 (by decide) ?_
  have hB_w2 : ZB Z Tc Ts (zrw w1 (rs 1 fl k) (qbec (w1.2.2 (rs 1 fl k)) (w1.2.2 (rs 1 fl2 k2)) (zfrom 0 (w1.2.2 (rs 1 fl2 k2)).2.length))) := hB.mono (zP_l (P := (zle (zrw w1 (rs 1 fl k) (qbec (w1.2.2 (rs 1 fl k)) (w1.2.2 (rs 1 fl2 k2)) (zfrom 0 (w1.2.2 (rs 1 fl2 k2)).2.length))))) hw1 (zP_let (P := (zle (zrw w1 (rs 1 fl k) (qbec (w1.2.2 (rs 1 fl k)) (w1.2.2 (rs 1 fl2 k2)) (zfrom 0 (w1.2.2 (rs 1 fl2 k2)).2.length))))) (zle (zrw w1 (rs 1 fl k) (qbec (w1.2.2 (rs 1 fl k)) (w1.2.2 (rs 1 fl2 k2)) (zfrom 0 (w1.2.2 (rs 1 fl2 k2)).2.length)))) zle.rf (fun w2 h8 => h8)))
  refine tw_v hB_w2 ⟨rfl, rfl⟩ (hB_w1.top hW) (fun hle9 => va_runV (As := [.ref (zr S (rs 1 fl2 k2)), .int 0]) (rest := []) ⟨hx, hb, hml, hown, hts⟩ (k_X6_become l D yc e0 A S Z Tc Ts w1 H.size (zh H) (rs 1 fl k) (rs 1 fl2 k2) 0 (dr_s hW.n12 (by omega) (by omega) (by omega)) (dr_s hW.n12 (by omega) (by omega) (by omega)) (by first | (unfold rs; omega) | (unfold ri; omega)) hB_w2) (cwV 2 hts (lw_V wq369 wq370 wq371 wq15 wq372) rfl rfl rfl (by decide +kernel) ⟨(Nat.le_of_ble_eq_true rfl), (Nat.le_of_ble_eq_true rfl)⟩) (tq_R hC hW hS hA (rs 1 fl k) (dr_s hW.n12 (by omega) (by omega) (by omega))) rfl rfl hl.1 rfl (lv_room (Nat.le_of_ble_eq_true rfl)) dX7_become_21 hle9) hS (fun H locs hW hS => ?_)
  obtain ⟨w2, hw2, hW, hB_w2⟩ : ∃ ww : TW, zrw w1 (rs 1 fl k) (qbec (w1.2.2 (rs 1 fl k)) (w1.2.2 (rs 1 fl2 k2)) (zfrom 0 (w1.2.2 (rs 1 fl2 k2)).2.length)) = ww ∧ WT D yc e0 A S Z ww.1 ww.2.1 ww.2.2 H ∧ ZB Z Tc Ts ww := ⟨_, rfl, hW, hB_w2⟩
  exact tx_v hx hb hr hlk hS hW (zlet_e hw1 (zlet_e hw2 rfl)) dX7_become_24
def w_X9_become (S : TS) (w : TW) (fl : Nat) (k : Nat) (fl2 : Nat) (k2 : Nat) : TW := zlet (zset w 0 fl k 0 (w.1 0 fl2 k2 0)) (fun w1 => zlet (zset w1 0 fl k 1 (w1.1 0 fl2 k2 1)) (fun w2 => zlet (zset w2 0 fl k 2 (w2.1 0 fl2 k2 2)) (fun w3 => zlet (zset w3 0 fl k 3 (w3.1 0 fl2 k2 3)) (fun w4 => zlet (zset w4 0 fl k 4 (w4.1 0 fl2 k2 4)) (fun w5 => zlet (zset w5 0 fl k 5 (w5.1 0 fl2 k2 5)) (fun w6 => zlet (zset w6 0 fl k 6 (w6.1 0 fl2 k2 6)) (fun w7 => zlet (zset w7 0 fl k 7 (w7.1 0 fl2 k2 7)) (fun w8 => zlet (w_X7_become S w8 fl k fl2 k2) (fun w9 => zlet (zrw w9 (rs 2 fl k) (qbec (w9.2.2 (rs 2 fl k)) (w9.2.2 (rs 2 fl2 k2)) (zfrom 0 (w9.2.2 (rs 2 fl2 k2)).2.length))) (fun w10 => zlet (zrw w10 (rs 3 fl k) (qbec (w10.2.2 (rs 3 fl k)) (w10.2.2 (rs 3 fl2 k2)) (zfrom 0 (w10.2.2 (rs 3 fl2 k2)).2.length))) (fun w11 => w11)))))))))))
theorem m_X9_become (S : TS) (w : TW) (fl : Nat) (k : Nat) (fl2 : Nat) (k2 : Nat) : zle w (w_X9_become S w fl k fl2 k2) := by
  unfold w_X9_become
  exact (zP_let (P := (zle (w))) (zle (w)) (zle.to zle.rf rfl) (fun w1 h8_ => (zP_let (P := (zle (w))) (zle (w)) (zle.to h8_ rfl) (fun w2 h8__ => (zP_let (P := (zle (w))) (zle (w)) (zle.to h8__ rfl) (fun w3 h8___ => (zP_let (P := (zle (w))) (zle (w)) (zle.to h8___ rfl) (fun w4 h8____ => (zP_let (P := (zle (w))) (zle (w)) (zle.to h8____ rfl) (fun w5 h8_____ => (zP_let (P := (zle (w))) (zle (w)) (zle.to h8_____ rfl) (fun w6 h8______ => (zP_let (P := (zle (w))) (zle (w)) (zle.to h8______ rfl) (fun w7 h8_______ => (zP_let (P := (zle (w))) (zle (w)) (zle.to h8_______ rfl) (fun w8 h8________ => (zP_let (P := (zle (w))) (zle (w)) (zle.tr h8________ (m_X7_become _ _ _ _ _ _)) (fun w9 h8_________ => (zP_let (P := (zle (w))) (zle (w)) (zle.tr h8_________ (zle.row (mq_become _ _ _))) (fun w10 h8__________ => (zP_let (P := (zle (w))) (zle (w)) (zle.tr h8__________ (zle.row (mq_become _ _ _))) (fun w11 h8___________ => h8___________))))))))))))))))))))))
theorem g_X9_become (S : TS) (w : TW) (fl : Nat) (k : Nat) (fl2 : Nat) (k2 : Nat) : (w_X9_become S w fl k fl2 k2).2.1 = w.2.1 := by
  unfold w_X9_become
  exact (zP_let (P := (fun (b : TW) => b.2.1 = w.2.1)) (fun (b : TW) => b.2.1 = w.2.1) rfl (fun w1 h8_ => (zP_let (P := (fun (b : TW) => b.2.1 = w.2.1)) (fun (b : TW) => b.2.1 = w.2.1) h8_ (fun w2 h8__ => (zP_let (P := (fun (b : TW) => b.2.1 = w.2.1)) (fun (b : TW) => b.2.1 = w.2.1) h8__ (fun w3 h8___ => (zP_let (P := (fun (b : TW) => b.2.1 = w.2.1)) (fun (b : TW) => b.2.1 = w.2.1) h8___ (fun w4 h8____ => (zP_let (P := (fun (b : TW) => b.2.1 = w.2.1)) (fun (b : TW) => b.2.1 = w.2.1) h8____ (fun w5 h8_____ => (zP_let (P := (fun (b : TW) => b.2.1 = w.2.1)) (fun (b : TW) => b.2.1 = w.2.1) h8_____ (fun w6 h8______ => (zP_let (P := (fun (b : TW) => b.2.1 = w.2.1)) (fun (b : TW) => b.2.1 = w.2.1) h8______ (fun w7 h8_______ => (zP_let (P := (fun (b : TW) => b.2.1 = w.2.1)) (fun (b : TW) => b.2.1 = w.2.1) h8_______ (fun w8 h8________ => (zP_let (P := (fun (b : TW) => b.2.1 = w.2.1)) (fun (b : TW) => b.2.1 = w.2.1) ((g_X7_become _ _ _ _ _ _).trans h8________) (fun w9 h8_________ => (zP_let (P := (fun (b : TW) => b.2.1 = w.2.1)) (fun (b : TW) => b.2.1 = w.2.1) h8_________ (fun w10 h8__________ => (zP_let (P := (fun (b : TW) => b.2.1 = w.2.1)) (fun (b : TW) => b.2.1 = w.2.1) h8__________ (fun w11 h8___________ => h8___________))))))))))))))))))))))
set_option maxHeartbeats 4000000 in
set_option maxRecDepth 100000 in
theorem k_X9_become (l : Launch) (D : va_G) (yc : Nat → ClassId) (e0 : Nat) (A : Nat → Prop) (S : TS) (Z : Nat × Nat) (Tc Ts : Nat) (w : TW) (cN zN : Nat) (fl : Nat) (k : Nat) (fl2 : Nat) (k2 : Nat) (hf : fl < 2) (hk : k < 3 * zn S) (hf2 : fl2 < 2) (hk2 : k2 < 3 * zn S) (hne2 : ¬ (fl2 = fl ∧ k2 = k)) (hB : ZB Z Tc Ts (w_X9_become S w fl k fl2 k2)) : Met l yX9_become (ws_ yX9_become cX9_become 2 none) { frames := 3, cells := Tc - cN, slots := Ts - zN, locals := 87 } (PM D yc e0 A S Z w cN zN [.ref (zg S 0 fl k), .ref (zg S 0 fl2 k2)]) (tQv D yc e0 A S Z (w_X9_become S w fl k fl2 k2)) (Tc - cN) (Ts - zN) A := by
  have hB0 : ZB Z Tc Ts w := hB.mono (m_X9_become _ _ _ _ _ _)
  refine tk_W hB0 (by decide) (Nat.le_of_ble_eq_true rfl) ?_
  intro p e s m args below meth c ls H locs hx hb hml hr hlk hown hts hW hS hA hC hl
  have hK := hC.1
  have hN := hC.2.1
  have hn12 := hW.n12
  skip
  have hl : lv_has ls 2 [(0, .ref (zg S 0 fl k)), (1, .ref (zg S 0 fl2 k2))] := hl
  refine lv_aload_n hx hb dX9_become_0 rfl (lv_at hl 0 rfl) ?_
  refine lv_aload_n hx hb dX9_become_1 rfl (lv_at hl 1 rfl) ?_
  refine t_get (D := D) (ci := 8) (v := .int (w.1 0 fl2 k2 0)) (C := RX9) (T := TX9) (N := 11) hx hb hts iX9 hown hK hW 0 fl2 k2 (dm0 (by omega) (by omega)) rfl rfl 0 (by decide) (hts _ wq1051) (fun _ h9 => h9) rfl dX9_become_2 ?_
  refine t_put (D := D) (ci := 8) (v := .int (w.1 0 fl2 k2 0)) (ty := .int) (C := RX9) (T := TX9) (N := 11) hx hb hts iX9 tyX9 tyX9_ok nmX9 hown hK hW hS 0 fl k (dm0 (by omega) (by omega)) rfl rfl 0 (by decide) (hts _ wq1051) (fun _ h9 => h9) rfl (by decide +kernel) rfl rfl (Nat.le_of_ble_eq_true rfl) (fun j9 => if j9 = 0 then w.1 0 fl2 k2 0 else w.1 0 fl k j9) w.2.1 rfl (fun _ _ _ => rfl) (zbit (fun j9 h9 => hW.bit _ _ _ j9 h9) (fun h9 => absurd h9 (by decide))) dX9_become_5 (fun H locs hW hS => ?_)
  obtain ⟨w1, hw1, hW, hB_w1⟩ : ∃ ww : TW, zset w 0 fl k 0 (w.1 0 fl2 k2 0) = ww ∧ WT D yc e0 A S Z ww.1 ww.2.1 ww.2.2 H ∧ ZB Z Tc Ts ww := ⟨_, rfl, hW, hB0⟩
  refine lv_aload_n hx hb dX9_become_8 rfl (lv_at hl 0 rfl) ?_
  refine lv_aload_n hx hb dX9_become_9 rfl (lv_at hl 1 rfl) ?_
  refine t_get (D := D) (ci := 8) (v := .int (w1.1 0 fl2 k2 1)) (C := RX9) (T := TX9) (N := 11) hx hb hts iX9 hown hK hW 0 fl2 k2 (dm0 (by omega) (by omega)) rfl rfl 1 (by decide) (hts _ wq1054) (fun _ h9 => h9) rfl dX9_become_10 ?_
  refine t_put (D := D) (ci := 8) (v := .int (w1.1 0 fl2 k2 1)) (ty := .int) (C := RX9) (T := TX9) (N := 11) hx hb hts iX9 tyX9 tyX9_ok nmX9 hown hK hW hS 0 fl k (dm0 (by omega) (by omega)) rfl rfl 1 (by decide) (hts _ wq1054) (fun _ h9 => h9) rfl (by decide +kernel) rfl rfl (Nat.le_of_ble_eq_true rfl) (fun j9 => if j9 = 1 then w1.1 0 fl2 k2 1 else w1.1 0 fl k j9) w1.2.1 rfl (fun _ _ _ => rfl) (zbit (fun j9 h9 => hW.bit _ _ _ j9 h9) (fun h9 => absurd h9 (by decide))) dX9_become_13 (fun H locs hW hS => ?_)
  obtain ⟨w2, hw2, hW, hB_w2⟩ : ∃ ww : TW, zset w1 0 fl k 1 (w1.1 0 fl2 k2 1) = ww ∧ WT D yc e0 A S Z ww.1 ww.2.1 ww.2.2 H ∧ ZB Z Tc Ts ww := ⟨_, rfl, hW, hB_w1⟩
  refine lv_aload_n hx hb dX9_become_16 rfl (lv_at hl 0 rfl) ?_
  refine lv_aload_n hx hb dX9_become_17 rfl (lv_at hl 1 rfl) ?_
  refine t_get (D := D) (ci := 8) (v := .int (w2.1 0 fl2 k2 2)) (C := RX9) (T := TX9) (N := 11) hx hb hts iX9 hown hK hW 0 fl2 k2 (dm0 (by omega) (by omega)) rfl rfl 2 (by decide) (hts _ wq1056) (fun _ h9 => h9) rfl dX9_become_18 ?_
  refine t_put (D := D) (ci := 8) (v := .int (w2.1 0 fl2 k2 2)) (ty := .int) (C := RX9) (T := TX9) (N := 11) hx hb hts iX9 tyX9 tyX9_ok nmX9 hown hK hW hS 0 fl k (dm0 (by omega) (by omega)) rfl rfl 2 (by decide) (hts _ wq1056) (fun _ h9 => h9) rfl (by decide +kernel) rfl rfl (Nat.le_of_ble_eq_true rfl) (fun j9 => if j9 = 2 then w2.1 0 fl2 k2 2 else w2.1 0 fl k j9) w2.2.1 rfl (fun _ _ _ => rfl) (zbit (fun j9 h9 => hW.bit _ _ _ j9 h9) (fun h9 => absurd h9 (by decide))) dX9_become_21 (fun H locs hW hS => ?_)
  obtain ⟨w3, hw3, hW, hB_w3⟩ : ∃ ww : TW, zset w2 0 fl k 2 (w2.1 0 fl2 k2 2) = ww ∧ WT D yc e0 A S Z ww.1 ww.2.1 ww.2.2 H ∧ ZB Z Tc Ts ww := ⟨_, rfl, hW, hB_w2⟩
  refine lv_aload_n hx hb dX9_become_24 rfl (lv_at hl 0 rfl) ?_
  refine lv_aload_n hx hb dX9_become_25 rfl (lv_at hl 1 rfl) ?_
  refine t_get (D := D) (ci := 8) (v := .int (w3.1 0 fl2 k2 3)) (C := RX9) (T := TX9) (N := 11) hx hb hts iX9 hown hK hW 0 fl2 k2 (dm0 (by omega) (by omega)) rfl rfl 3 (by decide) (hts _ wq1058) (fun _ h9 => h9) rfl dX9_become_26 ?_
  refine t_put (D := D) (ci := 8) (v := .int (w3.1 0 fl2 k2 3)) (ty := .boolean) (C := RX9) (T := TX9) (N := 11) hx hb hts iX9 tyX9 tyX9_ok nmX9 hown hK hW hS 0 fl k (dm0 (by omega) (by omega)) rfl rfl 3 (by decide) (hts _ wq1058) (fun _ h9 => h9) rfl (by decide +kernel) (zk_nb (hW.bit _ _ _ _ rfl)) (zk_fb (hW.bit _ _ _ _ rfl)) (Nat.le_of_ble_eq_true rfl) (fun j9 => if j9 = 3 then w3.1 0 fl2 k2 3 else w3.1 0 fl k j9) w3.2.1 rfl (fun _ _ _ => rfl) (zbit (fun j9 h9 => hW.bit _ _ _ j9 h9) (fun _ => (hW.bit _ _ _ _ rfl))) dX9_become_29 (fun H locs hW hS => ?_)
  obtain ⟨w4, hw4, hW, hB_w4⟩ : ∃ ww : TW, zset w3 0 fl k 3 (w3.1 0 fl2 k2 3) = ww ∧ WT D yc e0 A S Z ww.1 ww.2.1 ww.2.2 H ∧ ZB Z Tc Ts ww := ⟨_, rfl, hW, hB_w3⟩
  refine lv_aload_n hx hb dX9_become_32 rfl (lv_at hl 0 rfl) ?_
  refine lv_aload_n hx hb dX9_become_33 rfl (lv_at hl 1 rfl) ?_
  refine t_get (D := D) (ci := 8) (v := .int (w4.1 0 fl2 k2 4)) (C := RX9) (T := TX9) (N := 11) hx hb hts iX9 hown hK hW 0 fl2 k2 (dm0 (by omega) (by omega)) rfl rfl 4 (by decide) (hts _ wq1062) (fun _ h9 => h9) rfl dX9_become_34 ?_
  refine t_put (D := D) (ci := 8) (v := .int (w4.1 0 fl2 k2 4)) (ty := .int) (C := RX9) (T := TX9) (N := 11) hx hb hts iX9 tyX9 tyX9_ok nmX9 hown hK hW hS 0 fl k (dm0 (by omega) (by omega)) rfl rfl 4 (by decide) (hts _ wq1062) (fun _ h9 => h9) rfl (by decide +kernel) rfl rfl (Nat.le_of_ble_eq_true rfl) (fun j9 => if j9 = 4 then w4.1 0 fl2 k2 4 else w4.1 0 fl k j9) w4.2.1 rfl (fun _ _ _ => rfl) (zbit (fun j9 h9 => hW.bit _ _ _ j9 h9) (fun h9 => absurd h9 (by decide))) dX9_become_37 (fun H locs hW hS => ?_)
  obtain ⟨w5, hw5, hW, hB_w5⟩ : ∃ ww : TW, zset w4 0 fl k 4 (w4.1 0 fl2 k2 4) = ww ∧ WT D yc e0 A S Z ww.1 ww.2.1 ww.2.2 H ∧ ZB Z Tc Ts ww := ⟨_, rfl, hW, hB_w4⟩
  refine lv_aload_n hx hb dX9_become_40 rfl (lv_at hl 0 rfl) ?_
  refine lv_aload_n hx hb dX9_become_41 rfl (lv_at hl 1 rfl) ?_
  refine t_get (D := D) (ci := 8) (v := .int (w5.1 0 fl2 k2 5)) (C := RX9) (T := TX9) (N := 11) hx hb hts iX9 hown hK hW 0 fl2 k2 (dm0 (by omega) (by omega)) rfl rfl 5 (by decide) (hts _ wq1064) (fun _ h9 => h9) rfl dX9_become_42 ?_
  refine t_put (D := D) (ci := 8) (v := .int (w5.1 0 fl2 k2 5)) (ty := .int) (C := RX9) (T := TX9) (N := 11) hx hb hts iX9 tyX9 tyX9_ok nmX9 hown hK hW hS 0 fl k (dm0 (by omega) (by omega)) rfl rfl 5 (by decide) (hts _ wq1064) (fun _ h9 => h9) rfl (by decide +kernel) rfl rfl (Nat.le_of_ble_eq_true rfl) (fun j9 => if j9 = 5 then w5.1 0 fl2 k2 5 else w5.1 0 fl k j9) w5.2.1 rfl (fun _ _ _ => rfl) (zbit (fun j9 h9 => hW.bit _ _ _ j9 h9) (fun h9 => absurd h9 (by decide))) dX9_become_45 (fun H locs hW hS => ?_)
  obtain ⟨w6, hw6, hW, hB_w6⟩ : ∃ ww : TW, zset w5 0 fl k 5 (w5.1 0 fl2 k2 5) = ww ∧ WT D yc e0 A S Z ww.1 ww.2.1 ww.2.2 H ∧ ZB Z Tc Ts ww := ⟨_, rfl, hW, hB_w5⟩
  refine lv_aload_n hx hb dX9_become_48 rfl (lv_at hl 0 rfl) ?_
  refine lv_aload_n hx hb dX9_become_49 rfl (lv_at hl 1 rfl) ?_
  refine t_get (D := D) (ci := 8) (v := .int (w6.1 0 fl2 k2 6)) (C := RX9) (T := TX9) (N := 11) hx hb hts iX9 hown hK hW 0 fl2 k2 (dm0 (by omega) (by omega)) rfl rfl 6 (by decide) (hts _ wq1067) (fun _ h9 => h9) rfl dX9_become_50 ?_
  refine t_put (D := D) (ci := 8) (v := .int (w6.1 0 fl2 k2 6)) (ty := .int) (C := RX9) (T := TX9) (N := 11) hx hb hts iX9 tyX9 tyX9_ok nmX9 hown hK hW hS 0 fl k (dm0 (by omega) (by omega)) rfl rfl 6 (by decide) (hts _ wq1067) (fun _ h9 => h9) rfl (by decide +kernel) rfl rfl (Nat.le_of_ble_eq_true rfl) (fun j9 => if j9 = 6 then w6.1 0 fl2 k2 6 else w6.1 0 fl k j9) w6.2.1 rfl (fun _ _ _ => rfl) (zbit (fun j9 h9 => hW.bit _ _ _ j9 h9) (fun h9 => absurd h9 (by decide))) dX9_become_53 (fun H locs hW hS => ?_)
  obtain ⟨w7, hw7, hW, hB_w7⟩ : ∃ ww : TW, zset w6 0 fl k 6 (w6.1 0 fl2 k2 6) = ww ∧ WT D yc e0 A S Z ww.1 ww.2.1 ww.2.2 H ∧ ZB Z Tc Ts ww := ⟨_, rfl, hW, hB_w6⟩
  refine lv_aload_n hx hb dX9_become_56 rfl (lv_at hl 0 rfl) ?_
  refine lv_aload_n hx hb dX9_become_57 rfl (lv_at hl 1 rfl) ?_
  refine t_get (D := D) (ci := 8) (v := .int (w7.1 0 fl2 k2 7)) (C := RX9) (T := TX9) (N := 11) hx hb hts iX9 hown hK hW 0 fl2 k2 (dm0 (by omega) (by omega)) rfl rfl 7 (by decide) (hts _ wq1070) (fun _ h9 => h9) rfl dX9_become_58 ?_
  refine t_put (D := D) (ci := 8) (v := .int (w7.1 0 fl2 k2 7)) (ty := .int) (C := RX9) (T := TX9) (N := 11) hx hb hts iX9 tyX9 tyX9_ok nmX9 hown hK hW hS 0 fl k (dm0 (by omega) (by omega)) rfl rfl 7 (by decide) (hts _ wq1070) (fun _ h9 => h9) rfl (by decide +kernel) rfl rfl (Nat.le_of_ble_eq_true rfl) (fun j9 => if j9 = 7 then w7.1 0 fl2 k2 7 else w7.1 0 fl k j9) w7.2.1 rfl (fun _ _ _ => rfl) (zbit (fun j9 h9 => hW.bit _ _ _ j9 h9) (fun h9 => absurd h9 (by decide))) dX9_become_61 (fun H locs hW hS => ?_)
  obtain ⟨w8, hw8, hW, hB_w8⟩ : ∃ ww : TW, zset w7 0 fl k 7 (w7.1 0 fl2 k2 7) = ww ∧ WT D yc e0 A S Z ww.1 ww.2.1 ww.2.2 H ∧ ZB Z Tc Ts ww := ⟨_, rfl, hW, hB_w7⟩
  refine lv_aload_n hx hb dX9_become_64 rfl (lv_at hl 0 rfl) ?_
  refine t_get (D := D) (ci := 8) (v := .ref (zg S 1 fl k)) (C := RX9) (T := TX9) (N := 11) hx hb hts iX9 hown hK hW 0 fl k (dm0 (by omega) (by omega)) rfl rfl 8 (by decide) (hts _ wq1073) (fun _ h9 => h9) rfl dX9_become_65 ?_
  refine lv_aload_n hx hb dX9_become_68 rfl (lv_at hl 1 rfl) ?_
  refine t_get (D := D) (ci := 8) (v := .ref (zg S 1 fl2 k2)) (C := RX9) (T := TX9) (N := 11) hx hb hts iX9 hown hK hW 0 fl2 k2 (dm0 (by omega) (by omega)) rfl rfl 8 (by decide) (hts _ wq1073) (fun _ h9 => h9) rfl dX9_become_69 ?_
  have hB_w9 : ZB Z Tc Ts (w_X7_become S w8 fl k fl2 k2) := hB.mono (zP_l (P := (zle (w_X7_become S w8 fl k fl2 k2))) hw1 (zP_l (P := (zle (w_X7_become S w8 fl k fl2 k2))) hw2 (zP_l (P := (zle (w_X7_become S w8 fl k fl2 k2))) hw3 (zP_l (P := (zle (w_X7_become S w8 fl k fl2 k2))) hw4 (zP_l (P := (zle (w_X7_become S w8 fl k fl2 k2))) hw5 (zP_l (P := (zle (w_X7_become S w8 fl k fl2 k2))) hw6 (zP_l (P := (zle (w_X7_become S w8 fl k fl2 k2))) hw7 (zP_l (P := (zle (w_X7_become S w8 fl k fl2 k2))) hw8 (zP_let (P := (zle (w_X7_become S w8 fl k fl2 k2))) (zle (w_X7_become S w8 fl k fl2 k2)) zle.rf (fun w9 h8 => (zP_let (P := (zle (w_X7_become S w8 fl k fl2 k2))) (zle (w_X7_become S w8 fl k fl2 k2)) (zle.tr h8 (zle.row (mq_become _ _ _))) (fun w10 h8_ => (zP_let (P := (zle (w_X7_become S w8 fl k fl2 k2))) (zle (w_X7_become S w8 fl k fl2 k2)) (zle.tr h8_ (zle.row (mq_become _ _ _))) (fun w11 h8__ => h8__))))))))))))))
  refine tw_v hB_w9 ⟨rfl, rfl⟩ (hB_w8.top hW) (fun hle9 => va_runV (As := [.ref (zg S 1 fl2 k2)]) (rest := []) ⟨hx, hb, hml, hown, hts⟩ (k_X7_become l D yc e0 A S Z Tc Ts w8 H.size (zh H) fl k fl2 k2 (by first | assumption | omega | decide) (by first | assumption | omega | decide) (by first | assumption | omega | decide) (by first | assumption | omega | decide) (by first | assumption | omega | decide) hB_w9) (cwV 1 hts (lw_V wq365 wq366 wq367 wq23 wq368) rfl rfl rfl (by decide +kernel) ⟨(Nat.le_of_ble_eq_true rfl), (Nat.le_of_ble_eq_true rfl)⟩) (tq_V hC hW hS hA 1 fl k (dm1 (by omega) (by omega)) rfl rfl) rfl rfl hl.1 rfl (lv_room (Nat.le_of_ble_eq_true rfl)) dX9_become_72 hle9) hS (fun H locs hW hS => ?_)
  obtain ⟨w9, hw9, hW, hB_w9⟩ : ∃ ww : TW, w_X7_become S w8 fl k fl2 k2 = ww ∧ WT D yc e0 A S Z ww.1 ww.2.1 ww.2.2 H ∧ ZB Z Tc Ts ww := ⟨_, rfl, hW, hB_w9⟩
  refine lv_aload_n hx hb dX9_become_75 rfl (lv_at hl 0 rfl) ?_
  refine t_get (D := D) (ci := 8) (v := .ref (zr S (rs 2 fl k))) (C := RX9) (T := TX9) (N := 11) hx hb hts iX9 hown hK hW 0 fl k (dm0 (by omega) (by omega)) rfl rfl 9 (by decide) (hts _ wq1076) (fun _ h9 => h9) rfl dX9_become_76 ?_
  refine lv_aload_n hx hb dX9_become_79 rfl (lv_at hl 1 rfl) ?_
  refine t_get (D := D) (ci := 8) (v := .ref (zr S (rs 2 fl2 k2))) (C := RX9) (T := TX9) (N := 11) hx hb hts iX9 hown hK hW 0 fl2 k2 (dm0 (by omega) (by omega)) rfl rfl 9 (by decide) (hts _ wq1076) (fun _ h9 => h9) rfl dX9_become_80 ?_
  refine lv_iconst (v := 0) hx hb dX9_become_83 (by decide) ?_
  have hB_w10 : ZB Z Tc Ts (zrw w9 (rs 2 fl k) (qbec (w9.2.2 (rs 2 fl k)) (w9.2.2 (rs 2 fl2 k2)) (zfrom 0 (w9.2.2 (rs 2 fl2 k2)).2.length))) := hB.mono (zP_l (P := (zle (zrw w9 (rs 2 fl k) (qbec (w9.2.2 (rs 2 fl k)) (w9.2.2 (rs 2 fl2 k2)) (zfrom 0 (w9.2.2 (rs 2 fl2 k2)).2.length))))) hw1 (zP_l (P := (zle (zrw w9 (rs 2 fl k) (qbec (w9.2.2 (rs 2 fl k)) (w9.2.2 (rs 2 fl2 k2)) (zfrom 0 (w9.2.2 (rs 2 fl2 k2)).2.length))))) hw2 (zP_l (P := (zle (zrw w9 (rs 2 fl k) (qbec (w9.2.2 (rs 2 fl k)) (w9.2.2 (rs 2 fl2 k2)) (zfrom 0 (w9.2.2 (rs 2 fl2 k2)).2.length))))) hw3 (zP_l (P := (zle (zrw w9 (rs 2 fl k) (qbec (w9.2.2 (rs 2 fl k)) (w9.2.2 (rs 2 fl2 k2)) (zfrom 0 (w9.2.2 (rs 2 fl2 k2)).2.length))))) hw4 (zP_l (P := (zle (zrw w9 (rs 2 fl k) (qbec (w9.2.2 (rs 2 fl k)) (w9.2.2 (rs 2 fl2 k2)) (zfrom 0 (w9.2.2 (rs 2 fl2 k2)).2.length))))) hw5 (zP_l (P := (zle (zrw w9 (rs 2 fl k) (qbec (w9.2.2 (rs 2 fl k)) (w9.2.2 (rs 2 fl2 k2)) (zfrom 0 (w9.2.2 (rs 2 fl2 k2)).2.length))))) hw6 (zP_l (P := (zle (zrw w9 (rs 2 fl k) (qbec (w9.2.2 (rs 2 fl k)) (w9.2.2 (rs 2 fl2 k2)) (zfrom 0 (w9.2.2 (rs 2 fl2 k2)).2.length))))) hw7 (zP_l (P := (zle (zrw w9 (rs 2 fl k) (qbec (w9.2.2 (rs 2 fl k)) (w9.2.2 (rs 2 fl2 k2)) (zfrom 0 (w9.2.2 (rs 2 fl2 k2)).2.length))))) hw8 (zP_l (P := (zle (zrw w9 (rs 2 fl k) (qbec (w9.2.2 (rs 2 fl k)) (w9.2.2 (rs 2 fl2 k2)) (zfrom 0 (w9.2.2 (rs 2 fl2 k2)).2.length))))) hw9 (zP_let (P := (zle (zrw w9 (rs 2 fl k) (qbec (w9.2.2 (rs 2 fl k)) (w9.2.2 (rs 2 fl2 k2)) (zfrom 0 (w9.2.2 (rs 2 fl2 k2)).2.length))))) (zle (zrw w9 (rs 2 fl k) (qbec (w9.2.2 (rs 2 fl k)) (w9.2.2 (rs 2 fl2 k2)) (zfrom 0 (w9.2.2 (rs 2 fl2 k2)).2.length)))) zle.rf (fun w10 h8 => (zP_let (P := (zle (zrw w9 (rs 2 fl k) (qbec (w9.2.2 (rs 2 fl k)) (w9.2.2 (rs 2 fl2 k2)) (zfrom 0 (w9.2.2 (rs 2 fl2 k2)).2.length))))) (zle (zrw w9 (rs 2 fl k) (qbec (w9.2.2 (rs 2 fl k)) (w9.2.2 (rs 2 fl2 k2)) (zfrom 0 (w9.2.2 (rs 2 fl2 k2)).2.length)))) (zle.tr h8 (zle.row (mq_become _ _ _))) (fun w11 h8_ => h8_)))))))))))))
  refine tw_v hB_w10 ⟨rfl, rfl⟩ (hB_w9.top hW) (fun hle9 => va_runV (As := [.ref (zr S (rs 2 fl2 k2)), .int 0]) (rest := []) ⟨hx, hb, hml, hown, hts⟩ (k_X6_become l D yc e0 A S Z Tc Ts w9 H.size (zh H) (rs 2 fl k) (rs 2 fl2 k2) 0 (dr_s hW.n12 (by omega) (by omega) (by omega)) (dr_s hW.n12 (by omega) (by omega) (by omega)) (by first | (unfold rs; omega) | (unfold ri; omega)) hB_w10) (cwV 2 hts (lw_V wq377 wq370 wq371 wq15 wq372) rfl rfl rfl (by decide +kernel) ⟨(Nat.le_of_ble_eq_true rfl), (Nat.le_of_ble_eq_true rfl)⟩) (tq_R hC hW hS hA (rs 2 fl k) (dr_s hW.n12 (by omega) (by omega) (by omega))) rfl rfl hl.1 rfl (lv_room (Nat.le_of_ble_eq_true rfl)) dX9_become_84 hle9) hS (fun H locs hW hS => ?_)
  obtain ⟨w10, hw10, hW, hB_w10⟩ : ∃ ww : TW, zrw w9 (rs 2 fl k) (qbec (w9.2.2 (rs 2 fl k)) (w9.2.2 (rs 2 fl2 k2)) (zfrom 0 (w9.2.2 (rs 2 fl2 k2)).2.length)) = ww ∧ WT D yc e0 A S Z ww.1 ww.2.1 ww.2.2 H ∧ ZB Z Tc Ts ww := ⟨_, rfl, hW, hB_w10⟩
  refine lv_aload_n hx hb dX9_become_87 rfl (lv_at hl 0 rfl) ?_
  refine t_get (D := D) (ci := 8) (v := .ref (zr S (rs 3 fl k))) (C := RX9) (T := TX9) (N := 11) hx hb hts iX9 hown hK hW 0 fl k (dm0 (by omega) (by omega)) rfl rfl 10 (by decide) (hts _ wq1078) (fun _ h9 => h9) rfl dX9_become_88 ?_
  refine lv_aload_n hx hb dX9_become_91 rfl (lv_at hl 1 rfl) ?_
  refine t_get (D := D) (ci := 8) (v := .ref (zr S (rs 3 fl2 k2))) (C := RX9) (T := TX9) (N := 11) hx hb hts iX9 hown hK hW 0 fl2 k2 (dm0 (by omega) (by omega)) rfl rfl 10 (by decide) (hts _ wq1078) (fun _ h9 => h9) rfl dX9_become_92 ?_
  refine lv_iconst (v := 0) hx hb dX9_become_95 (by decide) ?_
  have hB_w11 : ZB Z Tc Ts (zrw w10 (rs 3 fl k) (qbec (w10.2.2 (rs 3 fl k)) (w10.2.2 (rs 3 fl2 k2)) (zfrom 0 (w10.2.2 (rs 3 fl2 k2)).2.length))) := hB.mono (zP_l (P := (zle (zrw w10 (rs 3 fl k) (qbec (w10.2.2 (rs 3 fl k)) (w10.2.2 (rs 3 fl2 k2)) (zfrom 0 (w10.2.2 (rs 3 fl2 k2)).2.length))))) hw1 (zP_l (P := (zle (zrw w10 (rs 3 fl k) (qbec (w10.2.2 (rs 3 fl k)) (w10.2.2 (rs 3 fl2 k2)) (zfrom 0 (w10.2.2 (rs 3 fl2 k2)).2.length))))) hw2 (zP_l (P := (zle (zrw w10 (rs 3 fl k) (qbec (w10.2.2 (rs 3 fl k)) (w10.2.2 (rs 3 fl2 k2)) (zfrom 0 (w10.2.2 (rs 3 fl2 k2)).2.length))))) hw3 (zP_l (P := (zle (zrw w10 (rs 3 fl k) (qbec (w10.2.2 (rs 3 fl k)) (w10.2.2 (rs 3 fl2 k2)) (zfrom 0 (w10.2.2 (rs 3 fl2 k2)).2.length))))) hw4 (zP_l (P := (zle (zrw w10 (rs 3 fl k) (qbec (w10.2.2 (rs 3 fl k)) (w10.2.2 (rs 3 fl2 k2)) (zfrom 0 (w10.2.2 (rs 3 fl2 k2)).2.length))))) hw5 (zP_l (P := (zle (zrw w10 (rs 3 fl k) (qbec (w10.2.2 (rs 3 fl k)) (w10.2.2 (rs 3 fl2 k2)) (zfrom 0 (w10.2.2 (rs 3 fl2 k2)).2.length))))) hw6 (zP_l (P := (zle (zrw w10 (rs 3 fl k) (qbec (w10.2.2 (rs 3 fl k)) (w10.2.2 (rs 3 fl2 k2)) (zfrom 0 (w10.2.2 (rs 3 fl2 k2)).2.length))))) hw7 (zP_l (P := (zle (zrw w10 (rs 3 fl k) (qbec (w10.2.2 (rs 3 fl k)) (w10.2.2 (rs 3 fl2 k2)) (zfrom 0 (w10.2.2 (rs 3 fl2 k2)).2.length))))) hw8 (zP_l (P := (zle (zrw w10 (rs 3 fl k) (qbec (w10.2.2 (rs 3 fl k)) (w10.2.2 (rs 3 fl2 k2)) (zfrom 0 (w10.2.2 (rs 3 fl2 k2)).2.length))))) hw9 (zP_l (P := (zle (zrw w10 (rs 3 fl k) (qbec (w10.2.2 (rs 3 fl k)) (w10.2.2 (rs 3 fl2 k2)) (zfrom 0 (w10.2.2 (rs 3 fl2 k2)).2.length))))) hw10 (zP_let (P := (zle (zrw w10 (rs 3 fl k) (qbec (w10.2.2 (rs 3 fl k)) (w10.2.2 (rs 3 fl2 k2)) (zfrom 0 (w10.2.2 (rs 3 fl2 k2)).2.length))))) (zle (zrw w10 (rs 3 fl k) (qbec (w10.2.2 (rs 3 fl k)) (w10.2.2 (rs 3 fl2 k2)) (zfrom 0 (w10.2.2 (rs 3 fl2 k2)).2.length)))) zle.rf (fun w11 h8 => h8))))))))))))
  refine tw_v hB_w11 ⟨rfl, rfl⟩ (hB_w10.top hW) (fun hle9 => va_runV (As := [.ref (zr S (rs 3 fl2 k2)), .int 0]) (rest := []) ⟨hx, hb, hml, hown, hts⟩ (k_X6_become l D yc e0 A S Z Tc Ts w10 H.size (zh H) (rs 3 fl k) (rs 3 fl2 k2) 0 (dr_s hW.n12 (by omega) (by omega) (by omega)) (dr_s hW.n12 (by omega) (by omega) (by omega)) (by first | (unfold rs; omega) | (unfold ri; omega)) hB_w11) (cwV 2 hts (lw_V wq377 wq370 wq371 wq15 wq372) rfl rfl rfl (by decide +kernel) ⟨(Nat.le_of_ble_eq_true rfl), (Nat.le_of_ble_eq_true rfl)⟩) (tq_R hC hW hS hA (rs 3 fl k) (dr_s hW.n12 (by omega) (by omega) (by omega))) rfl rfl hl.1 rfl (lv_room (Nat.le_of_ble_eq_true rfl)) dX9_become_96 hle9) hS (fun H locs hW hS => ?_)
  obtain ⟨w11, hw11, hW, hB_w11⟩ : ∃ ww : TW, zrw w10 (rs 3 fl k) (qbec (w10.2.2 (rs 3 fl k)) (w10.2.2 (rs 3 fl2 k2)) (zfrom 0 (w10.2.2 (rs 3 fl2 k2)).2.length)) = ww ∧ WT D yc e0 A S Z ww.1 ww.2.1 ww.2.2 H ∧ ZB Z Tc Ts ww := ⟨_, rfl, hW, hB_w11⟩
  exact tx_v hx hb hr hlk hS hW (zlet_e hw1 (zlet_e hw2 (zlet_e hw3 (zlet_e hw4 (zlet_e hw5 (zlet_e hw6 (zlet_e hw7 (zlet_e hw8 (zlet_e hw9 (zlet_e hw10 (zlet_e hw11 rfl))))))))))) dX9_become_99
end
