def RX0 : String := "WeirStream$Account"
def TX0 : u_T := fun k => match k with
  | _ => ("", "", "", false)
def tyX0 : Nat → FieldType := fun k => match k with
  | _ => .int
abbrev wsX00 : List Cond := u_ws RX0 TX0 0
theorem nmX0 : ∀ a, a < 0 → ∀ b, b < 0 → a ≠ b → (TX0 a).2.1 ≠ (TX0 b).2.1 := by decide +kernel
theorem tyX0_ok : ∀ k, k < 0 → parseFieldDescriptor (TX0 k).2.2.1 = some (tyX0 k) := by decide +kernel
abbrev cX0_cell : ByteArray := prog_2_method_2_code
def yX0_cell : MethodName := ⟨RX0, "cell", "(II)J"⟩
abbrev cX0_value : ByteArray := prog_2_method_3_code
def yX0_value : MethodName := ⟨RX0, "value", "(J)I"⟩
abbrev cX0_beside : ByteArray := prog_2_method_4_code
def yX0_beside : MethodName := ⟨RX0, "beside", "(J)I"⟩
abbrev cX0_ofOne : ByteArray := prog_2_method_5_code
def yX0_ofOne : MethodName := ⟨RX0, "ofOne", "(IJ)J"⟩
abbrev cX0_ofBoth : ByteArray := prog_2_method_6_code
def yX0_ofBoth : MethodName := ⟨RX0, "ofBoth", "(IJJ)J"⟩
abbrev cX0_answer : ByteArray := prog_2_method_7_code
def yX0_answer : MethodName := ⟨RX0, "answer", "(IJ)I"⟩
def RX1 : String := "WeirStream$Channel"
def TX1 : u_T := fun k => match k with
  | 0 => ("WeirStream$Channel", "items", "LWeirStream$Row;", true)
  | 1 => ("WeirStream$Channel", "given", "I", false)
  | _ => ("WeirStream$Channel", "isShut", "Z", false)
def tyX1 : Nat → FieldType := fun k => match k with
  | 0 => .object "WeirStream$Row"
  | 1 => .int
  | _ => .boolean
abbrev wsX10 : List Cond := u_ws RX1 TX1 3
theorem nmX1 : ∀ a, a < 3 → ∀ b, b < 3 → a ≠ b → (TX1 a).2.1 ≠ (TX1 b).2.1 := by decide +kernel
theorem tyX1_ok : ∀ k, k < 3 → parseFieldDescriptor (TX1 k).2.2.1 = some (tyX1 k) := by decide +kernel
abbrev cX1_init : ByteArray := prog_3_method_1_code
def yX1_init : MethodName := ⟨RX1, "<init>", "(LWeirStream$Row;)V"⟩
abbrev cX1_length : ByteArray := prog_3_method_2_code
def yX1_length : MethodName := ⟨RX1, "length", "()I"⟩
abbrev cX1_canGive : ByteArray := prog_3_method_3_code
def yX1_canGive : MethodName := ⟨RX1, "canGive", "()Z"⟩
abbrev cX1_give : ByteArray := prog_3_method_4_code
def yX1_give : MethodName := ⟨RX1, "give", "()J"⟩
def RX2 : String := "WeirStream$Flow"
def TX2 : u_T := fun k => match k with
  | 0 => ("WeirStream$Flow", "isTrial", "Z", true)
  | 1 => ("WeirStream$Flow", "stages", "Ljava/util/ArrayList;", true)
  | 2 => ("WeirStream$Flow", "capacity", "I", false)
  | 3 => ("WeirStream$Flow", "lastWorked", "I", false)
  | 4 => ("WeirStream$Flow", "begunCount", "I", false)
  | 5 => ("WeirStream$Flow", "begunNumber", "I", false)
  | 6 => ("WeirStream$Flow", "completeNumber", "I", false)
  | _ => ("WeirStream$Flow", "unsaved", "I", false)
def tyX2 : Nat → FieldType := fun k => match k with
  | 0 => .boolean
  | 1 => .object "java/util/ArrayList"
  | 2 => .int
  | 3 => .int
  | 4 => .int
  | 5 => .int
  | 6 => .int
  | _ => .int
abbrev wsX20 : List Cond := u_ws RX2 TX2 8
theorem nmX2 : ∀ a, a < 8 → ∀ b, b < 8 → a ≠ b → (TX2 a).2.1 ≠ (TX2 b).2.1 := by decide +kernel
theorem tyX2_ok : ∀ k, k < 8 → parseFieldDescriptor (TX2 k).2.2.1 = some (tyX2 k) := by decide +kernel
abbrev cX2_init : ByteArray := prog_4_method_1_code
def yX2_init : MethodName := ⟨RX2, "<init>", "(Z)V"⟩
abbrev cX2_size : ByteArray := prog_4_method_2_code
def yX2_size : MethodName := ⟨RX2, "size", "()I"⟩
abbrev cX2_at : ByteArray := prog_4_method_3_code
def yX2_at : MethodName := ⟨RX2, "at", "(I)LWeirStream$Stage;"⟩
abbrev cX2_add : ByteArray := prog_4_method_4_code
def yX2_add : MethodName := ⟨RX2, "add", "(LWeirStream$Plan;LWeirStream$Row;)V"⟩
abbrev cX2_channelFrom : ByteArray := prog_4_method_5_code
def yX2_channelFrom : MethodName := ⟨RX2, "channelFrom", "(I)LWeirStream$Channel;"⟩
abbrev cX2_channels : ByteArray := prog_4_method_6_code
def yX2_channels : MethodName := ⟨RX2, "channels", "()I"⟩
abbrev cX2_waiting : ByteArray := prog_4_method_7_code
def yX2_waiting : MethodName := ⟨RX2, "waiting", "()I"⟩
abbrev cX2_nextToWork : ByteArray := prog_4_method_8_code
def yX2_nextToWork : MethodName := ⟨RX2, "nextToWork", "()I"⟩
abbrev cX2_step : ByteArray := prog_4_method_9_code
def yX2_step : MethodName := ⟨RX2, "step", "(I)Z"⟩
abbrev cX2_takeBarrier : ByteArray := prog_4_method_10_code
def yX2_takeBarrier : MethodName := ⟨RX2, "takeBarrier", "(LWeirStream$Stage;LWeirStream$Channel;LWeirStream$Channel;)V"⟩
abbrev cX2_passBarrier : ByteArray := prog_4_method_11_code
def yX2_passBarrier : MethodName := ⟨RX2, "passBarrier", "(LWeirStream$Stage;)V"⟩
abbrev cX2_completeCheckpoint : ByteArray := prog_4_method_12_code
def yX2_completeCheckpoint : MethodName := ⟨RX2, "completeCheckpoint", "()V"⟩
abbrev cX2_beginCheckpoint : ByteArray := prog_4_method_13_code
def yX2_beginCheckpoint : MethodName := ⟨RX2, "beginCheckpoint", "()I"⟩
abbrev cX2_goBack : ByteArray := prog_4_method_14_code
def yX2_goBack : MethodName := ⟨RX2, "goBack", "()I"⟩
abbrev cX2_become : ByteArray := prog_4_method_15_code
def yX2_become : MethodName := ⟨RX2, "become", "(LWeirStream$Flow;)V"⟩
def RX3 : String := "WeirStream$Item"
def TX3 : u_T := fun k => match k with
  | _ => ("", "", "", false)
def tyX3 : Nat → FieldType := fun k => match k with
  | _ => .int
abbrev wsX30 : List Cond := u_ws RX3 TX3 0
theorem nmX3 : ∀ a, a < 0 → ∀ b, b < 0 → a ≠ b → (TX3 a).2.1 ≠ (TX3 b).2.1 := by decide +kernel
theorem tyX3_ok : ∀ k, k < 0 → parseFieldDescriptor (TX3 k).2.2.1 = some (tyX3 k) := by decide +kernel
abbrev cX3_event : ByteArray := prog_5_method_2_code
def yX3_event : MethodName := ⟨RX3, "event", "(III)J"⟩
abbrev cX3_mark : ByteArray := prog_5_method_3_code
def yX3_mark : MethodName := ⟨RX3, "mark", "(I)J"⟩
abbrev cX3_barrier : ByteArray := prog_5_method_4_code
def yX3_barrier : MethodName := ⟨RX3, "barrier", "()J"⟩
abbrev cX3_kind : ByteArray := prog_5_method_5_code
def yX3_kind : MethodName := ⟨RX3, "kind", "(J)I"⟩
abbrev cX3_time : ByteArray := prog_5_method_6_code
def yX3_time : MethodName := ⟨RX3, "time", "(J)I"⟩
abbrev cX3_key : ByteArray := prog_5_method_7_code
def yX3_key : MethodName := ⟨RX3, "key", "(J)I"⟩
abbrev cX3_value : ByteArray := prog_5_method_8_code
def yX3_value : MethodName := ⟨RX3, "value", "(J)I"⟩
def RX4 : String := "WeirStream$Outlet"
def TX4 : u_T := fun k => match k with
  | 0 => ("WeirStream$Outlet", "items", "LWeirStream$Row;", true)
  | _ => ("WeirStream$Outlet", "channels", "Ljava/util/ArrayList;", true)
def tyX4 : Nat → FieldType := fun k => match k with
  | 0 => .object "WeirStream$Row"
  | _ => .object "java/util/ArrayList"
abbrev wsX40 : List Cond := u_ws RX4 TX4 2
theorem nmX4 : ∀ a, a < 2 → ∀ b, b < 2 → a ≠ b → (TX4 a).2.1 ≠ (TX4 b).2.1 := by decide +kernel
theorem tyX4_ok : ∀ k, k < 2 → parseFieldDescriptor (TX4 k).2.2.1 = some (tyX4 k) := by decide +kernel
abbrev cX4_init : ByteArray := prog_6_method_1_code
def yX4_init : MethodName := ⟨RX4, "<init>", "()V"⟩
abbrev cX4_open : ByteArray := prog_6_method_2_code
def yX4_open : MethodName := ⟨RX4, "open", "()LWeirStream$Channel;"⟩
abbrev cX4_isBelow : ByteArray := prog_6_method_3_code
def yX4_isBelow : MethodName := ⟨RX4, "isBelow", "(I)Z"⟩
abbrev cX4_leastGiven : ByteArray := prog_6_method_4_code
def yX4_leastGiven : MethodName := ⟨RX4, "leastGiven", "()I"⟩
abbrev cX4_forgetGiven : ByteArray := prog_6_method_5_code
def yX4_forgetGiven : MethodName := ⟨RX4, "forgetGiven", "()V"⟩
abbrev cX4_empty : ByteArray := prog_6_method_6_code
def yX4_empty : MethodName := ⟨RX4, "empty", "()V"⟩
abbrev cX4_become : ByteArray := prog_6_method_7_code
def yX4_become : MethodName := ⟨RX4, "become", "(LWeirStream$Outlet;)V"⟩
def RX5 : String := "WeirStream$Plan"
def TX5 : u_T := fun k => match k with
  | 0 => ("WeirStream$Plan", "sort", "I", true)
  | 1 => ("WeirStream$Plan", "first", "I", true)
  | 2 => ("WeirStream$Plan", "second", "I", true)
  | 3 => ("WeirStream$Plan", "slack", "I", false)
  | 4 => ("WeirStream$Plan", "rule", "I", false)
  | 5 => ("WeirStream$Plan", "n", "I", false)
  | 6 => ("WeirStream$Plan", "size", "I", false)
  | 7 => ("WeirStream$Plan", "step", "I", false)
  | 8 => ("WeirStream$Plan", "lateness", "I", false)
  | 9 => ("WeirStream$Plan", "gap", "I", false)
  | 10 => ("WeirStream$Plan", "before", "I", false)
  | 11 => ("WeirStream$Plan", "after", "I", false)
  | 12 => ("WeirStream$Plan", "account", "I", false)
  | 13 => ("WeirStream$Plan", "depth", "I", false)
  | _ => ("WeirStream$Plan", "upstream", "I", false)
def tyX5 : Nat → FieldType := fun k => match k with
  | 0 => .int
  | 1 => .int
  | 2 => .int
  | 3 => .int
  | 4 => .int
  | 5 => .int
  | 6 => .int
  | 7 => .int
  | 8 => .int
  | 9 => .int
  | 10 => .int
  | 11 => .int
  | 12 => .int
  | 13 => .int
  | _ => .int
abbrev wsX50 : List Cond := u_ws RX5 TX5 15
theorem nmX5 : ∀ a, a < 15 → ∀ b, b < 15 → a ≠ b → (TX5 a).2.1 ≠ (TX5 b).2.1 := by decide +kernel
theorem tyX5_ok : ∀ k, k < 15 → parseFieldDescriptor (TX5 k).2.2.1 = some (tyX5 k) := by decide +kernel
abbrev cX5_init : ByteArray := prog_7_method_1_code
def yX5_init : MethodName := ⟨RX5, "<init>", "(III)V"⟩
abbrev cX5_standBehind : ByteArray := prog_7_method_2_code
def yX5_standBehind : MethodName := ⟨RX5, "standBehind", "(LWeirStream$Plan;I)V"⟩
def RX6 : String := "WeirStream$Row"
def TX6 : u_T := fun k => match k with
  | 0 => ("WeirStream$Row", "cells", "[J", false)
  | _ => ("WeirStream$Row", "length", "I", false)
def tyX6 : Nat → FieldType := fun k => match k with
  | 0 => .array .long
  | _ => .int
abbrev wsX60 : List Cond := u_ws RX6 TX6 2
theorem nmX6 : ∀ a, a < 2 → ∀ b, b < 2 → a ≠ b → (TX6 a).2.1 ≠ (TX6 b).2.1 := by decide +kernel
theorem tyX6_ok : ∀ k, k < 2 → parseFieldDescriptor (TX6 k).2.2.1 = some (tyX6 k) := by decide +kernel
abbrev cX6_init : ByteArray := prog_8_method_1_code
def yX6_init : MethodName := ⟨RX6, "<init>", "()V"⟩
abbrev cX6_length : ByteArray := prog_8_method_2_code
def yX6_length : MethodName := ⟨RX6, "length", "()I"⟩
abbrev cX6_at : ByteArray := prog_8_method_3_code
def yX6_at : MethodName := ⟨RX6, "at", "(I)J"⟩
abbrev cX6_put : ByteArray := prog_8_method_4_code
def yX6_put : MethodName := ⟨RX6, "put", "(IJ)V"⟩
abbrev cX6_add : ByteArray := prog_8_method_5_code
def yX6_add : MethodName := ⟨RX6, "add", "(J)V"⟩
abbrev cX6_insert : ByteArray := prog_8_method_6_code
def yX6_insert : MethodName := ⟨RX6, "insert", "(IJ)V"⟩
abbrev cX6_remove : ByteArray := prog_8_method_7_code
def yX6_remove : MethodName := ⟨RX6, "remove", "(II)V"⟩
abbrev cX6_shorten : ByteArray := prog_8_method_8_code
def yX6_shorten : MethodName := ⟨RX6, "shorten", "(I)V"⟩
abbrev cX6_become : ByteArray := prog_8_method_9_code
def yX6_become : MethodName := ⟨RX6, "become", "(LWeirStream$Row;I)V"⟩
def RX7 : String := "WeirStream$Spans"
def TX7 : u_T := fun k => match k with
  | 0 => ("WeirStream$Spans", "names", "LWeirStream$Row;", true)
  | _ => ("WeirStream$Spans", "accounts", "LWeirStream$Row;", true)
def tyX7 : Nat → FieldType := fun k => match k with
  | 0 => .object "WeirStream$Row"
  | _ => .object "WeirStream$Row"
abbrev wsX70 : List Cond := u_ws RX7 TX7 2
theorem nmX7 : ∀ a, a < 2 → ∀ b, b < 2 → a ≠ b → (TX7 a).2.1 ≠ (TX7 b).2.1 := by decide +kernel
theorem tyX7_ok : ∀ k, k < 2 → parseFieldDescriptor (TX7 k).2.2.1 = some (tyX7 k) := by decide +kernel
abbrev cX7_init : ByteArray := prog_9_method_1_code
def yX7_init : MethodName := ⟨RX7, "<init>", "()V"⟩
abbrev cX7_name : ByteArray := prog_9_method_2_code
def yX7_name : MethodName := ⟨RX7, "name", "(III)J"⟩
abbrev cX7_length : ByteArray := prog_9_method_3_code
def yX7_length : MethodName := ⟨RX7, "length", "()I"⟩
abbrev cX7_endAt : ByteArray := prog_9_method_4_code
def yX7_endAt : MethodName := ⟨RX7, "endAt", "(I)I"⟩
abbrev cX7_keyAtPlace : ByteArray := prog_9_method_5_code
def yX7_keyAtPlace : MethodName := ⟨RX7, "keyAtPlace", "(I)I"⟩
abbrev cX7_beginAt : ByteArray := prog_9_method_6_code
def yX7_beginAt : MethodName := ⟨RX7, "beginAt", "(I)I"⟩
abbrev cX7_accountAtPlace : ByteArray := prog_9_method_7_code
def yX7_accountAtPlace : MethodName := ⟨RX7, "accountAtPlace", "(I)J"⟩
abbrev cX7_placeFor : ByteArray := prog_9_method_8_code
def yX7_placeFor : MethodName := ⟨RX7, "placeFor", "(J)I"⟩
abbrev cX7_firstEndingAbove : ByteArray := prog_9_method_9_code
def yX7_firstEndingAbove : MethodName := ⟨RX7, "firstEndingAbove", "(I)I"⟩
abbrev cX7_isAt : ByteArray := prog_9_method_11_code
def yX7_isAt : MethodName := ⟨RX7, "isAt", "(IJ)Z"⟩
abbrev cX7_insert : ByteArray := prog_9_method_12_code
def yX7_insert : MethodName := ⟨RX7, "insert", "(IJJ)V"⟩
abbrev cX7_setAccount : ByteArray := prog_9_method_13_code
def yX7_setAccount : MethodName := ⟨RX7, "setAccount", "(IJ)V"⟩
abbrev cX7_remove : ByteArray := prog_9_method_14_code
def yX7_remove : MethodName := ⟨RX7, "remove", "(II)V"⟩
abbrev cX7_become : ByteArray := prog_9_method_15_code
def yX7_become : MethodName := ⟨RX7, "become", "(LWeirStream$Spans;)V"⟩
def RX8 : String := "WeirStream$Stage"
def TX8 : u_T := fun k => match k with
  | 0 => ("WeirStream$Stage", "plan", "LWeirStream$Plan;", true)
  | 1 => ("WeirStream$Stage", "log", "LWeirStream$Row;", true)
  | 2 => ("WeirStream$Stage", "first", "LWeirStream$Channel;", true)
  | 3 => ("WeirStream$Stage", "second", "LWeirStream$Channel;", true)
  | 4 => ("WeirStream$Stage", "isTrial", "Z", true)
  | 5 => ("WeirStream$Stage", "outlet", "LWeirStream$Outlet;", true)
  | 6 => ("WeirStream$Stage", "output", "LWeirStream$Row;", true)
  | 7 => ("WeirStream$Stage", "now", "LWeirStream$State;", true)
  | 8 => ("WeirStream$Stage", "latest", "LWeirStream$State;", false)
  | 9 => ("WeirStream$Stage", "coming", "LWeirStream$State;", false)
  | 10 => ("WeirStream$Stage", "isClosed", "Z", false)
  | _ => ("WeirStream$Stage", "owesBarrier", "Z", false)
def tyX8 : Nat → FieldType := fun k => match k with
  | 0 => .object "WeirStream$Plan"
  | 1 => .object "WeirStream$Row"
  | 2 => .object "WeirStream$Channel"
  | 3 => .object "WeirStream$Channel"
  | 4 => .boolean
  | 5 => .object "WeirStream$Outlet"
  | 6 => .object "WeirStream$Row"
  | 7 => .object "WeirStream$State"
  | 8 => .object "WeirStream$State"
  | 9 => .object "WeirStream$State"
  | 10 => .boolean
  | _ => .boolean
abbrev wsX80 : List Cond := u_ws RX8 TX8 12
theorem nmX8 : ∀ a, a < 12 → ∀ b, b < 12 → a ≠ b → (TX8 a).2.1 ≠ (TX8 b).2.1 := by decide +kernel
theorem tyX8_ok : ∀ k, k < 12 → parseFieldDescriptor (TX8 k).2.2.1 = some (tyX8 k) := by decide +kernel
abbrev cX8_init : ByteArray := prog_10_method_1_code
def yX8_init : MethodName := ⟨RX8, "<init>", "(LWeirStream$Plan;LWeirStream$Row;LWeirStream$Channel;LWeirStream$Channel;Z)V"⟩
abbrev cX8_channel : ByteArray := prog_10_method_2_code
def yX8_channel : MethodName := ⟨RX8, "channel", "(Z)LWeirStream$Channel;"⟩
abbrev cX8_unread : ByteArray := prog_10_method_3_code
def yX8_unread : MethodName := ⟨RX8, "unread", "()I"⟩
abbrev cX8_canWork : ByteArray := prog_10_method_4_code
def yX8_canWork : MethodName := ⟨RX8, "canWork", "(I)Z"⟩
abbrev cX8_turnsToSecond : ByteArray := prog_10_method_5_code
def yX8_turnsToSecond : MethodName := ⟨RX8, "turnsToSecond", "()Z"⟩
abbrev cX8_emit : ByteArray := prog_10_method_6_code
def yX8_emit : MethodName := ⟨RX8, "emit", "(J)V"⟩
abbrev cX8_read : ByteArray := prog_10_method_7_code
def yX8_read : MethodName := ⟨RX8, "read", "()I"⟩
abbrev cX8_takeEvent : ByteArray := prog_10_method_8_code
def yX8_takeEvent : MethodName := ⟨RX8, "takeEvent", "(JZ)V"⟩
abbrev cX8_passes : ByteArray := prog_10_method_9_code
def yX8_passes : MethodName := ⟨RX8, "passes", "(J)Z"⟩
abbrev cX8_mapped : ByteArray := prog_10_method_10_code
def yX8_mapped : MethodName := ⟨RX8, "mapped", "(J)J"⟩
abbrev cX8_putOut : ByteArray := prog_10_method_11_code
def yX8_putOut : MethodName := ⟨RX8, "putOut", "(J)V"⟩
abbrev cX8_takeIntoWindows : ByteArray := prog_10_method_12_code
def yX8_takeIntoWindows : MethodName := ⟨RX8, "takeIntoWindows", "(J)V"⟩
abbrev cX8_takeIntoWindow : ByteArray := prog_10_method_13_code
def yX8_takeIntoWindow : MethodName := ⟨RX8, "takeIntoWindow", "(JII)I"⟩
abbrev cX8_takeIntoSession : ByteArray := prog_10_method_14_code
def yX8_takeIntoSession : MethodName := ⟨RX8, "takeIntoSession", "(J)V"⟩
abbrev cX8_fire : ByteArray := prog_10_method_15_code
def yX8_fire : MethodName := ⟨RX8, "fire", "(I)V"⟩
abbrev cX8_takeIntoJoin : ByteArray := prog_10_method_16_code
def yX8_takeIntoJoin : MethodName := ⟨RX8, "takeIntoJoin", "(JZ)V"⟩
abbrev cX8_meets : ByteArray := prog_10_method_17_code
def yX8_meets : MethodName := ⟨RX8, "meets", "(JJ)Z"⟩
abbrev cX8_joined : ByteArray := prog_10_method_18_code
def yX8_joined : MethodName := ⟨RX8, "joined", "(II)I"⟩
abbrev cX8_leastMark : ByteArray := prog_10_method_19_code
def yX8_leastMark : MethodName := ⟨RX8, "leastMark", "(IZ)I"⟩
abbrev cX8_raiseMark : ByteArray := prog_10_method_20_code
def yX8_raiseMark : MethodName := ⟨RX8, "raiseMark", "(I)V"⟩
abbrev cX8_fireFrom : ByteArray := prog_10_method_21_code
def yX8_fireFrom : MethodName := ⟨RX8, "fireFrom", "(I)V"⟩
abbrev cX8_forgetBelow : ByteArray := prog_10_method_22_code
def yX8_forgetBelow : MethodName := ⟨RX8, "forgetBelow", "(LWeirStream$Row;I)V"⟩
abbrev cX8_adoptSaved : ByteArray := prog_10_method_23_code
def yX8_adoptSaved : MethodName := ⟨RX8, "adoptSaved", "()V"⟩
abbrev cX8_goBack : ByteArray := prog_10_method_24_code
def yX8_goBack : MethodName := ⟨RX8, "goBack", "()V"⟩
abbrev cX8_become : ByteArray := prog_10_method_25_code
def yX8_become : MethodName := ⟨RX8, "become", "(LWeirStream$Stage;)V"⟩
def RX9 : String := "WeirStream$State"
def TX9 : u_T := fun k => match k with
  | 0 => ("WeirStream$State", "mark", "I", false)
  | 1 => ("WeirStream$State", "firstMark", "I", false)
  | 2 => ("WeirStream$State", "secondMark", "I", false)
  | 3 => ("WeirStream$State", "tookSecond", "Z", false)
  | 4 => ("WeirStream$State", "taken", "I", false)
  | 5 => ("WeirStream$State", "emitted", "I", false)
  | 6 => ("WeirStream$State", "late", "I", false)
  | 7 => ("WeirStream$State", "outputCount", "I", false)
  | 8 => ("WeirStream$State", "spans", "LWeirStream$Spans;", true)
  | 9 => ("WeirStream$State", "left", "LWeirStream$Row;", true)
  | _ => ("WeirStream$State", "right", "LWeirStream$Row;", true)
def tyX9 : Nat → FieldType := fun k => match k with
  | 0 => .int
  | 1 => .int
  | 2 => .int
  | 3 => .boolean
  | 4 => .int
  | 5 => .int
  | 6 => .int
  | 7 => .int
  | 8 => .object "WeirStream$Spans"
  | 9 => .object "WeirStream$Row"
  | _ => .object "WeirStream$Row"
abbrev wsX90 : List Cond := u_ws RX9 TX9 11
theorem nmX9 : ∀ a, a < 11 → ∀ b, b < 11 → a ≠ b → (TX9 a).2.1 ≠ (TX9 b).2.1 := by decide +kernel
theorem tyX9_ok : ∀ k, k < 11 → parseFieldDescriptor (TX9 k).2.2.1 = some (tyX9 k) := by decide +kernel
abbrev cX9_init : ByteArray := prog_11_method_1_code
def yX9_init : MethodName := ⟨RX9, "<init>", "()V"⟩
abbrev cX9_keptCount : ByteArray := prog_11_method_2_code
def yX9_keptCount : MethodName := ⟨RX9, "keptCount", "()I"⟩
abbrev cX9_become : ByteArray := prog_11_method_3_code
def yX9_become : MethodName := ⟨RX9, "become", "(LWeirStream$State;)V"⟩
def RX10 : String := "WeirStream"
def TX10 : u_T := fun k => match k with
  | 0 => ("WeirStream", "live", "LWeirStream$Flow;", true)
  | 1 => ("WeirStream", "trial", "LWeirStream$Flow;", true)
  | 2 => ("WeirStream", "hasStarted", "Z", false)
  | 3 => ("WeirStream", "crashCount", "I", false)
  | _ => ("WeirStream", "workedCount", "I", false)
def tyX10 : Nat → FieldType := fun k => match k with
  | 0 => .object "WeirStream$Flow"
  | 1 => .object "WeirStream$Flow"
  | 2 => .boolean
  | 3 => .int
  | _ => .int
abbrev wsX100 : List Cond := u_ws RX10 TX10 5
theorem nmX10 : ∀ a, a < 5 → ∀ b, b < 5 → a ≠ b → (TX10 a).2.1 ≠ (TX10 b).2.1 := by decide +kernel
theorem tyX10_ok : ∀ k, k < 5 → parseFieldDescriptor (TX10 k).2.2.1 = some (tyX10 k) := by decide +kernel
abbrev cX10_init : ByteArray := prog_1_method_1_code
def yX10_init : MethodName := ⟨RX10, "<init>", "()V"⟩
abbrev cX10_addSource : ByteArray := prog_1_method_2_code
def yX10_addSource : MethodName := ⟨RX10, "addSource", "(I)I"⟩
abbrev cX10_addFilter : ByteArray := prog_1_method_3_code
def yX10_addFilter : MethodName := ⟨RX10, "addFilter", "(III)I"⟩
abbrev cX10_addMap : ByteArray := prog_1_method_4_code
def yX10_addMap : MethodName := ⟨RX10, "addMap", "(III)I"⟩
abbrev cX10_addWindow : ByteArray := prog_1_method_5_code
def yX10_addWindow : MethodName := ⟨RX10, "addWindow", "(IIIII)I"⟩
abbrev cX10_addSession : ByteArray := prog_1_method_6_code
def yX10_addSession : MethodName := ⟨RX10, "addSession", "(III)I"⟩
abbrev cX10_addJoin : ByteArray := prog_1_method_7_code
def yX10_addJoin : MethodName := ⟨RX10, "addJoin", "(IIIII)I"⟩
abbrev cX10_addMerge : ByteArray := prog_1_method_8_code
def yX10_addMerge : MethodName := ⟨RX10, "addMerge", "(II)I"⟩
abbrev cX10_addSink : ByteArray := prog_1_method_9_code
def yX10_addSink : MethodName := ⟨RX10, "addSink", "(I)I"⟩
abbrev cX10_start : ByteArray := prog_1_method_10_code
def yX10_start : MethodName := ⟨RX10, "start", "()I"⟩
abbrev cX10_setCapacity : ByteArray := prog_1_method_11_code
def yX10_setCapacity : MethodName := ⟨RX10, "setCapacity", "(I)I"⟩
abbrev cX10_offer : ByteArray := prog_1_method_12_code
def yX10_offer : MethodName := ⟨RX10, "offer", "(IIII)I"⟩
abbrev cX10_close : ByteArray := prog_1_method_13_code
def yX10_close : MethodName := ⟨RX10, "close", "(I)I"⟩
abbrev cX10_work : ByteArray := prog_1_method_14_code
def yX10_work : MethodName := ⟨RX10, "work", "(I)I"⟩
abbrev cX10_workAt : ByteArray := prog_1_method_15_code
def yX10_workAt : MethodName := ⟨RX10, "workAt", "(I)Z"⟩
abbrev cX10_checkpoint : ByteArray := prog_1_method_16_code
def yX10_checkpoint : MethodName := ⟨RX10, "checkpoint", "()I"⟩
abbrev cX10_crash : ByteArray := prog_1_method_17_code
def yX10_crash : MethodName := ⟨RX10, "crash", "()I"⟩
abbrev cX10_stages : ByteArray := prog_1_method_18_code
def yX10_stages : MethodName := ⟨RX10, "stages", "()I"⟩
abbrev cX10_isStarted : ByteArray := prog_1_method_19_code
def yX10_isStarted : MethodName := ⟨RX10, "isStarted", "()Z"⟩
abbrev cX10_sortOf : ByteArray := prog_1_method_20_code
def yX10_sortOf : MethodName := ⟨RX10, "sortOf", "(I)I"⟩
abbrev cX10_markOf : ByteArray := prog_1_method_21_code
def yX10_markOf : MethodName := ⟨RX10, "markOf", "(I)I"⟩
abbrev cX10_taken : ByteArray := prog_1_method_22_code
def yX10_taken : MethodName := ⟨RX10, "taken", "(I)I"⟩
abbrev cX10_emitted : ByteArray := prog_1_method_23_code
def yX10_emitted : MethodName := ⟨RX10, "emitted", "(I)I"⟩
abbrev cX10_late : ByteArray := prog_1_method_24_code
def yX10_late : MethodName := ⟨RX10, "late", "(I)I"⟩
abbrev cX10_kept : ByteArray := prog_1_method_25_code
def yX10_kept : MethodName := ⟨RX10, "kept", "(I)I"⟩
abbrev cX10_isReady : ByteArray := prog_1_method_26_code
def yX10_isReady : MethodName := ⟨RX10, "isReady", "(I)Z"⟩
abbrev cX10_hasRoom : ByteArray := prog_1_method_27_code
def yX10_hasRoom : MethodName := ⟨RX10, "hasRoom", "(I)Z"⟩
abbrev cX10_queued : ByteArray := prog_1_method_28_code
def yX10_queued : MethodName := ⟨RX10, "queued", "(IZ)I"⟩
abbrev cX10_isBlocked : ByteArray := prog_1_method_29_code
def yX10_isBlocked : MethodName := ⟨RX10, "isBlocked", "(IZ)Z"⟩
abbrev cX10_depthOf : ByteArray := prog_1_method_31_code
def yX10_depthOf : MethodName := ⟨RX10, "depthOf", "(I)I"⟩
abbrev cX10_nextEnd : ByteArray := prog_1_method_33_code
def yX10_nextEnd : MethodName := ⟨RX10, "nextEnd", "(I)I"⟩
abbrev cX10_outputs : ByteArray := prog_1_method_34_code
def yX10_outputs : MethodName := ⟨RX10, "outputs", "(I)I"⟩
abbrev cX10_committed : ByteArray := prog_1_method_35_code
def yX10_committed : MethodName := ⟨RX10, "committed", "(I)I"⟩
abbrev cX10_complete : ByteArray := prog_1_method_39_code
def yX10_complete : MethodName := ⟨RX10, "complete", "()I"⟩
abbrev cX10_begun : ByteArray := prog_1_method_40_code
def yX10_begun : MethodName := ⟨RX10, "begun", "()I"⟩
abbrev cX10_crashes : ByteArray := prog_1_method_41_code
def yX10_crashes : MethodName := ⟨RX10, "crashes", "()I"⟩
abbrev cX10_worked : ByteArray := prog_1_method_42_code
def yX10_worked : MethodName := ⟨RX10, "worked", "()I"⟩
abbrev cX10_inFlight : ByteArray := prog_1_method_43_code
def yX10_inFlight : MethodName := ⟨RX10, "inFlight", "()I"⟩
abbrev cX10_next : ByteArray := prog_1_method_44_code
def yX10_next : MethodName := ⟨RX10, "next", "()I"⟩
abbrev cX10_meanQueue : ByteArray := prog_1_method_45_code
def yX10_meanQueue : MethodName := ⟨RX10, "meanQueue", "()D"⟩
abbrev cX10_itemsToRest : ByteArray := prog_1_method_46_code
def yX10_itemsToRest : MethodName := ⟨RX10, "itemsToRest", "(I)I"⟩
abbrev cX10_wouldLose : ByteArray := prog_1_method_48_code
def yX10_wouldLose : MethodName := ⟨RX10, "wouldLose", "(I)I"⟩
abbrev cX10_wouldReplay : ByteArray := prog_1_method_49_code
def yX10_wouldReplay : MethodName := ⟨RX10, "wouldReplay", "(I)I"⟩
abbrev cX10_digest : ByteArray := prog_1_method_50_code
def yX10_digest : MethodName := ⟨RX10, "digest", "()J"⟩
abbrev cX10_digestOfStage : ByteArray := prog_1_method_51_code
def yX10_digestOfStage : MethodName := ⟨RX10, "digestOfStage", "(JI)J"⟩
abbrev cX10_digestOfOutput : ByteArray := prog_1_method_52_code
def yX10_digestOfOutput : MethodName := ⟨RX10, "digestOfOutput", "(JI)J"⟩
abbrev cX10_bit : ByteArray := prog_1_method_53_code
def yX10_bit : MethodName := ⟨RX10, "bit", "(Z)I"⟩
abbrev cX10_isWithin : ByteArray := prog_1_method_54_code
def yX10_isWithin : MethodName := ⟨RX10, "isWithin", "(III)Z"⟩
abbrev cX10_refuseUnless : ByteArray := prog_1_method_55_code
def yX10_refuseUnless : MethodName := ⟨RX10, "refuseUnless", "(Z)V"⟩
abbrev cX10_refuseMoreStages : ByteArray := prog_1_method_56_code
def yX10_refuseMoreStages : MethodName := ⟨RX10, "refuseMoreStages", "()V"⟩
abbrev cX10_refuseUnlessStarted : ByteArray := prog_1_method_57_code
def yX10_refuseUnlessStarted : MethodName := ⟨RX10, "refuseUnlessStarted", "()V"⟩
abbrev cX10_refuseUnlessOpen : ByteArray := prog_1_method_58_code
def yX10_refuseUnlessOpen : MethodName := ⟨RX10, "refuseUnlessOpen", "(LWeirStream$Stage;)V"⟩
abbrev cX10_stageOf : ByteArray := prog_1_method_59_code
def yX10_stageOf : MethodName := ⟨RX10, "stageOf", "(I)LWeirStream$Stage;"⟩
abbrev cX10_sourceOf : ByteArray := prog_1_method_60_code
def yX10_sourceOf : MethodName := ⟨RX10, "sourceOf", "(I)LWeirStream$Stage;"⟩
abbrev cX10_spanStageOf : ByteArray := prog_1_method_61_code
def yX10_spanStageOf : MethodName := ⟨RX10, "spanStageOf", "(I)LWeirStream$Stage;"⟩
abbrev cX10_sinkOf : ByteArray := prog_1_method_62_code
def yX10_sinkOf : MethodName := ⟨RX10, "sinkOf", "(I)LWeirStream$Stage;"⟩
abbrev cX10_outputAt : ByteArray := prog_1_method_63_code
def yX10_outputAt : MethodName := ⟨RX10, "outputAt", "(II)J"⟩
abbrev cX10_wire : ByteArray := prog_1_method_64_code
def yX10_wire : MethodName := ⟨RX10, "wire", "(LWeirStream$Plan;)I"⟩
abbrev cX10_planOf : ByteArray := prog_1_method_65_code
def yX10_planOf : MethodName := ⟨RX10, "planOf", "(I)LWeirStream$Plan;"⟩
def RX11 : String := "WeirStreamModel$Kept"
def TX11 : u_T := fun k => match k with
  | _ => ("", "", "", false)
def tyX11 : Nat → FieldType := fun k => match k with
  | _ => .int
abbrev wsX110 : List Cond := u_ws RX11 TX11 0
theorem nmX11 : ∀ a, a < 0 → ∀ b, b < 0 → a ≠ b → (TX11 a).2.1 ≠ (TX11 b).2.1 := by decide +kernel
theorem tyX11_ok : ∀ k, k < 0 → parseFieldDescriptor (TX11 k).2.2.1 = some (tyX11 k) := by decide +kernel
def RX12 : String := "WeirStreamModel$Rows"
def TX12 : u_T := fun k => match k with
  | _ => ("", "", "", false)
def tyX12 : Nat → FieldType := fun k => match k with
  | _ => .int
abbrev wsX120 : List Cond := u_ws RX12 TX12 0
theorem nmX12 : ∀ a, a < 0 → ∀ b, b < 0 → a ≠ b → (TX12 a).2.1 ≠ (TX12 b).2.1 := by decide +kernel
theorem tyX12_ok : ∀ k, k < 0 → parseFieldDescriptor (TX12 k).2.2.1 = some (tyX12 k) := by decide +kernel
def RX13 : String := "WeirStreamModel$State"
def TX13 : u_T := fun k => match k with
  | _ => ("", "", "", false)
def tyX13 : Nat → FieldType := fun k => match k with
  | _ => .int
abbrev wsX130 : List Cond := u_ws RX13 TX13 0
theorem nmX13 : ∀ a, a < 0 → ∀ b, b < 0 → a ≠ b → (TX13 a).2.1 ≠ (TX13 b).2.1 := by decide +kernel
theorem tyX13_ok : ∀ k, k < 0 → parseFieldDescriptor (TX13 k).2.2.1 = some (tyX13 k) := by decide +kernel
def RX14 : String := "WeirStreamModel"
def TX14 : u_T := fun k => match k with
  | _ => ("", "", "", false)
def tyX14 : Nat → FieldType := fun k => match k with
  | _ => .int
abbrev wsX140 : List Cond := u_ws RX14 TX14 0
theorem nmX14 : ∀ a, a < 0 → ∀ b, b < 0 → a ≠ b → (TX14 a).2.1 ≠ (TX14 b).2.1 := by decide +kernel
theorem tyX14_ok : ∀ k, k < 0 → parseFieldDescriptor (TX14 k).2.2.1 = some (tyX14 k) := by decide +kernel
def RJx145de : String := "java/io/Serializable"
def TJx145de : u_T := fun k => match k with
  | _ => ("", "", "", false)
def tyJx145de : Nat → FieldType := fun k => match k with
  | _ => .int
abbrev wsJx145de0 : List Cond := u_ws RJx145de TJx145de 0
theorem nmJx145de : ∀ a, a < 0 → ∀ b, b < 0 → a ≠ b → (TJx145de a).2.1 ≠ (TJx145de b).2.1 := by decide +kernel
theorem tyJx145de_ok : ∀ k, k < 0 → parseFieldDescriptor (TJx145de k).2.2.1 = some (tyJx145de k) := by decide +kernel
def RJx8e188 : String := "java/lang/Cloneable"
def TJx8e188 : u_T := fun k => match k with
  | _ => ("", "", "", false)
def tyJx8e188 : Nat → FieldType := fun k => match k with
  | _ => .int
abbrev wsJx8e1880 : List Cond := u_ws RJx8e188 TJx8e188 0
theorem nmJx8e188 : ∀ a, a < 0 → ∀ b, b < 0 → a ≠ b → (TJx8e188 a).2.1 ≠ (TJx8e188 b).2.1 := by decide +kernel
theorem tyJx8e188_ok : ∀ k, k < 0 → parseFieldDescriptor (TJx8e188 k).2.2.1 = some (tyJx8e188 k) := by decide +kernel
def RJxab1ab : String := "java/lang/Iterable"
def TJxab1ab : u_T := fun k => match k with
  | _ => ("", "", "", false)
def tyJxab1ab : Nat → FieldType := fun k => match k with
  | _ => .int
abbrev wsJxab1ab0 : List Cond := u_ws RJxab1ab TJxab1ab 0
theorem nmJxab1ab : ∀ a, a < 0 → ∀ b, b < 0 → a ≠ b → (TJxab1ab a).2.1 ≠ (TJxab1ab b).2.1 := by decide +kernel
theorem tyJxab1ab_ok : ∀ k, k < 0 → parseFieldDescriptor (TJxab1ab k).2.2.1 = some (tyJxab1ab k) := by decide +kernel
def RJ9 : String := "java/lang/Math"
def TJ9 : u_T := fun k => match k with
  | _ => ("", "", "", false)
def tyJ9 : Nat → FieldType := fun k => match k with
  | _ => .int
abbrev wsJ90 : List Cond := u_ws RJ9 TJ9 0
theorem nmJ9 : ∀ a, a < 0 → ∀ b, b < 0 → a ≠ b → (TJ9 a).2.1 ≠ (TJ9 b).2.1 := by decide +kernel
theorem tyJ9_ok : ∀ k, k < 0 → parseFieldDescriptor (TJ9 k).2.2.1 = some (tyJ9 k) := by decide +kernel
abbrev cJ9_floorDiv_7cf53 : ByteArray := prog_24_method_47_code
def yJ9_floorDiv_7cf53 : MethodName := ⟨RJ9, "floorDiv", "(II)I"⟩
abbrev cJ9_floorMod_7cf53 : ByteArray := prog_24_method_50_code
def yJ9_floorMod_7cf53 : MethodName := ⟨RJ9, "floorMod", "(II)I"⟩
abbrev cJ9_max_7cf53 : ByteArray := prog_24_method_65_code
def yJ9_max_7cf53 : MethodName := ⟨RJ9, "max", "(II)I"⟩
abbrev cJ9_min_7cf53 : ByteArray := prog_24_method_69_code
def yJ9_min_7cf53 : MethodName := ⟨RJ9, "min", "(II)I"⟩
def RJ10 : String := "java/lang/System"
def TJ10 : u_T := fun k => match k with
  | _ => ("", "", "", false)
def tyJ10 : Nat → FieldType := fun k => match k with
  | _ => .int
abbrev wsJ100 : List Cond := u_ws RJ10 TJ10 0
theorem nmJ10 : ∀ a, a < 0 → ∀ b, b < 0 → a ≠ b → (TJ10 a).2.1 ≠ (TJ10 b).2.1 := by decide +kernel
theorem tyJ10_ok : ∀ k, k < 0 → parseFieldDescriptor (TJ10 k).2.2.1 = some (tyJ10 k) := by decide +kernel
def RJxa1e45 : String := "java/util/AbstractCollection"
def TJxa1e45 : u_T := fun k => match k with
  | _ => ("", "", "", false)
def tyJxa1e45 : Nat → FieldType := fun k => match k with
  | _ => .int
abbrev wsJxa1e450 : List Cond := u_ws RJxa1e45 TJxa1e45 0
theorem nmJxa1e45 : ∀ a, a < 0 → ∀ b, b < 0 → a ≠ b → (TJxa1e45 a).2.1 ≠ (TJxa1e45 b).2.1 := by decide +kernel
theorem tyJxa1e45_ok : ∀ k, k < 0 → parseFieldDescriptor (TJxa1e45 k).2.2.1 = some (tyJxa1e45 k) := by decide +kernel
abbrev cJxa1e45_init_da8c8 : ByteArray := prog_28_method_1_code
def yJxa1e45_init_da8c8 : MethodName := ⟨RJxa1e45, "<init>", "()V"⟩
def RJxc12de : String := "java/util/AbstractList"
def TJxc12de : u_T := fun k => match k with
  | _ => ("", "", "", false)
def tyJxc12de : Nat → FieldType := fun k => match k with
  | _ => .int
abbrev wsJxc12de0 : List Cond := u_ws RJxc12de TJxc12de 0
theorem nmJxc12de : ∀ a, a < 0 → ∀ b, b < 0 → a ≠ b → (TJxc12de a).2.1 ≠ (TJxc12de b).2.1 := by decide +kernel
theorem tyJxc12de_ok : ∀ k, k < 0 → parseFieldDescriptor (TJxc12de k).2.2.1 = some (tyJxc12de k) := by decide +kernel
abbrev cJxc12de_init_da8c8 : ByteArray := prog_29_method_1_code
def yJxc12de_init_da8c8 : MethodName := ⟨RJxc12de, "<init>", "()V"⟩
def RJx4a65c : String := "java/util/ArrayList"
def TJx4a65c : u_T := fun k => match k with
  | 0 => ("java/util/AbstractList", "modCount", "I", false)
  | 1 => ("java/util/ArrayList", "elementData", "[Ljava/lang/Object;", false)
  | _ => ("java/util/ArrayList", "size", "I", false)
def tyJx4a65c : Nat → FieldType := fun k => match k with
  | 0 => .int
  | 1 => .array (.object "java/lang/Object")
  | _ => .int
abbrev wsJx4a65c0 : List Cond := u_ws RJx4a65c TJx4a65c 3
theorem nmJx4a65c : ∀ a, a < 3 → ∀ b, b < 3 → a ≠ b → (TJx4a65c a).2.1 ≠ (TJx4a65c b).2.1 := by decide +kernel
theorem tyJx4a65c_ok : ∀ k, k < 3 → parseFieldDescriptor (TJx4a65c k).2.2.1 = some (tyJx4a65c k) := by decide +kernel
abbrev cJx4a65c_init_da8c8 : ByteArray := prog_30_method_2_code
def yJx4a65c_init_da8c8 : MethodName := ⟨RJx4a65c, "<init>", "()V"⟩
abbrev cJx4a65c_grow_92f84 : ByteArray := prog_30_method_6_code
def yJx4a65c_grow_92f84 : MethodName := ⟨RJx4a65c, "grow", "(I)[Ljava/lang/Object;"⟩
abbrev cJx4a65c_grow_d5877 : ByteArray := prog_30_method_7_code
def yJx4a65c_grow_d5877 : MethodName := ⟨RJx4a65c, "grow", "()[Ljava/lang/Object;"⟩
abbrev cJx4a65c_size_8abf5 : ByteArray := prog_30_method_8_code
def yJx4a65c_size_8abf5 : MethodName := ⟨RJx4a65c, "size", "()I"⟩
abbrev cJx4a65c_elementData_915e3 : ByteArray := prog_30_method_18_code
def yJx4a65c_elementData_915e3 : MethodName := ⟨RJx4a65c, "elementData", "(I)Ljava/lang/Object;"⟩
abbrev cJx4a65c_get_915e3 : ByteArray := prog_30_method_20_code
def yJx4a65c_get_915e3 : MethodName := ⟨RJx4a65c, "get", "(I)Ljava/lang/Object;"⟩
abbrev cJx4a65c_add_72be8 : ByteArray := prog_30_method_24_code
def yJx4a65c_add_72be8 : MethodName := ⟨RJx4a65c, "add", "(Ljava/lang/Object;[Ljava/lang/Object;I)V"⟩
abbrev cJx4a65c_add_9ea2d : ByteArray := prog_30_method_25_code
def yJx4a65c_add_9ea2d : MethodName := ⟨RJx4a65c, "add", "(Ljava/lang/Object;)Z"⟩
def RJ7 : String := "java/util/Arrays"
def TJ7 : u_T := fun k => match k with
  | _ => ("", "", "", false)
def tyJ7 : Nat → FieldType := fun k => match k with
  | _ => .int
abbrev wsJ70 : List Cond := u_ws RJ7 TJ7 0
theorem nmJ7 : ∀ a, a < 0 → ∀ b, b < 0 → a ≠ b → (TJ7 a).2.1 ≠ (TJ7 b).2.1 := by decide +kernel
theorem tyJ7_ok : ∀ k, k < 0 → parseFieldDescriptor (TJ7 k).2.2.1 = some (tyJ7 k) := by decide +kernel
abbrev cJ7_copyOf_1904c : ByteArray := prog_31_method_119_code
def yJ7_copyOf_1904c : MethodName := ⟨RJ7, "copyOf", "([Ljava/lang/Object;I)[Ljava/lang/Object;"⟩
abbrev cJ7_copyOf_6403c : ByteArray := prog_31_method_120_code
def yJ7_copyOf_6403c : MethodName := ⟨RJ7, "copyOf", "([Ljava/lang/Object;ILjava/lang/Class;)[Ljava/lang/Object;"⟩
abbrev cJ7_copyOf_c38d5 : ByteArray := prog_31_method_124_code
def yJ7_copyOf_c38d5 : MethodName := ⟨RJ7, "copyOf", "([JI)[J"⟩
def RJx5ef63 : String := "java/util/Collection"
def TJx5ef63 : u_T := fun k => match k with
  | _ => ("", "", "", false)
def tyJx5ef63 : Nat → FieldType := fun k => match k with
  | _ => .int
abbrev wsJx5ef630 : List Cond := u_ws RJx5ef63 TJx5ef63 0
theorem nmJx5ef63 : ∀ a, a < 0 → ∀ b, b < 0 → a ≠ b → (TJx5ef63 a).2.1 ≠ (TJx5ef63 b).2.1 := by decide +kernel
theorem tyJx5ef63_ok : ∀ k, k < 0 → parseFieldDescriptor (TJx5ef63 k).2.2.1 = some (tyJx5ef63 k) := by decide +kernel
def RJxbd725 : String := "java/util/List"
def TJxbd725 : u_T := fun k => match k with
  | _ => ("", "", "", false)
def tyJxbd725 : Nat → FieldType := fun k => match k with
  | _ => .int
abbrev wsJxbd7250 : List Cond := u_ws RJxbd725 TJxbd725 0
theorem nmJxbd725 : ∀ a, a < 0 → ∀ b, b < 0 → a ≠ b → (TJxbd725 a).2.1 ≠ (TJxbd725 b).2.1 := by decide +kernel
theorem tyJxbd725_ok : ∀ k, k < 0 → parseFieldDescriptor (TJxbd725 k).2.2.1 = some (tyJxbd725 k) := by decide +kernel
def RJ15 : String := "java/util/Objects"
def TJ15 : u_T := fun k => match k with
  | _ => ("", "", "", false)
def tyJ15 : Nat → FieldType := fun k => match k with
  | _ => .int
abbrev wsJ150 : List Cond := u_ws RJ15 TJ15 0
theorem nmJ15 : ∀ a, a < 0 → ∀ b, b < 0 → a ≠ b → (TJ15 a).2.1 ≠ (TJ15 b).2.1 := by decide +kernel
theorem tyJ15_ok : ∀ k, k < 0 → parseFieldDescriptor (TJ15 k).2.2.1 = some (tyJ15 k) := by decide +kernel
abbrev cJ15_checkIndex_7cf53 : ByteArray := prog_34_method_17_code
def yJ15_checkIndex_7cf53 : MethodName := ⟨RJ15, "checkIndex", "(II)I"⟩
def RJxf0a74 : String := "java/util/RandomAccess"
def TJxf0a74 : u_T := fun k => match k with
  | _ => ("", "", "", false)
def tyJxf0a74 : Nat → FieldType := fun k => match k with
  | _ => .int
abbrev wsJxf0a740 : List Cond := u_ws RJxf0a74 TJxf0a74 0
theorem nmJxf0a74 : ∀ a, a < 0 → ∀ b, b < 0 → a ≠ b → (TJxf0a74 a).2.1 ≠ (TJxf0a74 b).2.1 := by decide +kernel
theorem tyJxf0a74_ok : ∀ k, k < 0 → parseFieldDescriptor (TJxf0a74 k).2.2.1 = some (tyJxf0a74 k) := by decide +kernel
def RJxa66e6 : String := "java/util/SequencedCollection"
def TJxa66e6 : u_T := fun k => match k with
  | _ => ("", "", "", false)
def tyJxa66e6 : Nat → FieldType := fun k => match k with
  | _ => .int
abbrev wsJxa66e60 : List Cond := u_ws RJxa66e6 TJxa66e6 0
theorem nmJxa66e6 : ∀ a, a < 0 → ∀ b, b < 0 → a ≠ b → (TJxa66e6 a).2.1 ≠ (TJxa66e6 b).2.1 := by decide +kernel
theorem tyJxa66e6_ok : ∀ k, k < 0 → parseFieldDescriptor (TJxa66e6 k).2.2.1 = some (tyJxa66e6 k) := by decide +kernel
def RJ8 : String := "jdk/internal/util/ArraysSupport"
def TJ8 : u_T := fun k => match k with
  | _ => ("", "", "", false)
def tyJ8 : Nat → FieldType := fun k => match k with
  | _ => .int
abbrev wsJ80 : List Cond := u_ws RJ8 TJ8 0
theorem nmJ8 : ∀ a, a < 0 → ∀ b, b < 0 → a ≠ b → (TJ8 a).2.1 ≠ (TJ8 b).2.1 := by decide +kernel
theorem tyJ8_ok : ∀ k, k < 0 → parseFieldDescriptor (TJ8 k).2.2.1 = some (tyJ8 k) := by decide +kernel
abbrev cJ8_newLength_cabcc : ByteArray := prog_37_method_27_code
def yJ8_newLength_cabcc : MethodName := ⟨RJ8, "newLength", "(III)I"⟩
abbrev cJ8_hugeLength_7cf53 : ByteArray := prog_37_method_28_code
def yJ8_hugeLength_7cf53 : MethodName := ⟨RJ8, "hugeLength", "(II)I"⟩
def RJ3 : String := "jdk/internal/util/Preconditions"
def TJ3 : u_T := fun k => match k with
  | _ => ("", "", "", false)
def tyJ3 : Nat → FieldType := fun k => match k with
  | _ => .int
abbrev wsJ30 : List Cond := u_ws RJ3 TJ3 0
theorem nmJ3 : ∀ a, a < 0 → ∀ b, b < 0 → a ≠ b → (TJ3 a).2.1 ≠ (TJ3 b).2.1 := by decide +kernel
theorem tyJ3_ok : ∀ k, k < 0 → parseFieldDescriptor (TJ3 k).2.2.1 = some (tyJ3 k) := by decide +kernel
abbrev cJ3_checkIndex_8e157 : ByteArray := prog_38_method_11_code
def yJ3_checkIndex_8e157 : MethodName := ⟨RJ3, "checkIndex", "(IILjava/util/function/BiFunction;)I"⟩
def RL : String := "WeirStreamLaw"
abbrev cL_below : ByteArray := method_2_code
def yL_below : MethodName := ⟨RL, "below", "(II)I"⟩
abbrev cL_cell : ByteArray := method_3_code
def yL_cell : MethodName := ⟨RL, "cell", "([II)I"⟩
abbrev cL_law : ByteArray := code
def yL_law : MethodName := ⟨RL, "law", "([I)Z"⟩
abbrev cL_offer : ByteArray := method_5_code
def yL_offer : MethodName := ⟨RL, "offer", "(LWeirStream;IIII)I"⟩
abbrev cL_add : ByteArray := method_6_code
def yL_add : MethodName := ⟨RL, "add", "(LWeirStream;II)V"⟩
abbrev cL_isSound : ByteArray := method_7_code
def yL_isSound : MethodName := ⟨RL, "isSound", "(LWeirStream;II)Z"⟩
abbrev vwCl : List vw_C := [(RJx4a65c, TJx4a65c, 3), (RX1, TX1, 3), (RX2, TX2, 8), (RX4, TX4, 2), (RX5, TX5, 15), (RX6, TX6, 2), (RX7, TX7, 2), (RX8, TX8, 12), (RX9, TX9, 11), (RX10, TX10, 5)]
