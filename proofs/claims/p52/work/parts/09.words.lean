theorem wq16 : (Jvm.Cond.initialized "WeirStream$Stage") ∈ lw_all := lw_in (lw_tb (List.mem_of_getElem? (i := 16) (by decide +kernel))) rfl
theorem wq68 : (Jvm.Cond.fieldLink "WeirStream$Flow" (12 : Nat) "WeirStream$Flow" "stages" "Ljava/util/ArrayList;") ∈ lw_all := lw_in (lw_tb (List.mem_of_getElem? (i := 68) (by decide +kernel))) rfl
theorem wq78 : (Jvm.Cond.laysFinal "WeirStream$Flow" "WeirStream$Flow" "isTrial" "Z") ∈ lw_all := lw_in (lw_tb (List.mem_of_getElem? (i := 78) (by decide +kernel))) rfl
theorem wq80 : (Jvm.Cond.laysFinal "WeirStream$Flow" "WeirStream$Flow" "stages" "Ljava/util/ArrayList;") ∈ lw_all := lw_in (lw_tb (List.mem_of_getElem? (i := 80) (by decide +kernel))) rfl
theorem wq82 : (Jvm.Cond.lays "WeirStream$Flow" "WeirStream$Flow" "capacity" "I") ∈ lw_all := lw_in (lw_tb (List.mem_of_getElem? (i := 82) (by decide +kernel))) rfl
theorem wq84 : (Jvm.Cond.lays "WeirStream$Flow" "WeirStream$Flow" "lastWorked" "I") ∈ lw_all := lw_in (lw_tb (List.mem_of_getElem? (i := 84) (by decide +kernel))) rfl
theorem wq86 : (Jvm.Cond.lays "WeirStream$Flow" "WeirStream$Flow" "begunCount" "I") ∈ lw_all := lw_in (lw_tb (List.mem_of_getElem? (i := 86) (by decide +kernel))) rfl
theorem wq88 : (Jvm.Cond.lays "WeirStream$Flow" "WeirStream$Flow" "begunNumber" "I") ∈ lw_all := lw_in (lw_tb (List.mem_of_getElem? (i := 88) (by decide +kernel))) rfl
theorem wq90 : (Jvm.Cond.lays "WeirStream$Flow" "WeirStream$Flow" "completeNumber" "I") ∈ lw_all := lw_in (lw_tb (List.mem_of_getElem? (i := 90) (by decide +kernel))) rfl
theorem wq92 : (Jvm.Cond.lays "WeirStream$Flow" "WeirStream$Flow" "unsaved" "I") ∈ lw_all := lw_in (lw_tb (List.mem_of_getElem? (i := 92) (by decide +kernel))) rfl
theorem wq119 : (Jvm.Cond.methodLink "WeirStream$Flow" (29 : Nat) ({ cls := "java/util/ArrayList", name := "size", desc := "()I" } : Jvm.MethodName)) ∈ lw_all := lw_in (lw_tb (List.mem_of_getElem? (i := 119) (by decide +kernel))) rfl
theorem wq227 : (Jvm.Cond.methodLink "WeirStream$Flow" (33 : Nat) ({ cls := "java/util/ArrayList", name := "get", desc := "(I)Ljava/lang/Object;" } : Jvm.MethodName)) ∈ lw_all := lw_in (lw_tb (List.mem_of_getElem? (i := 227) (by decide +kernel))) rfl
theorem wq241 : (Jvm.Cond.classLink "WeirStream$Flow" (37 : Nat) "WeirStream$Stage") ∈ lw_all := lw_in (lw_tb (List.mem_of_getElem? (i := 241) (by decide +kernel))) rfl
theorem wq262 : (Jvm.Cond.instanceMethod ({ cls := "WeirStream$Stage", name := "unread", desc := "()I" } : Jvm.MethodName)) ∈ lw_all := lw_in (lw_tb (List.mem_of_getElem? (i := 262) (by decide +kernel))) rfl
theorem wq263 : (Jvm.Cond.selects "WeirStream$Stage" ({ cls := "WeirStream$Stage", name := "unread", desc := "()I" } : Jvm.MethodName) ({ cls := "WeirStream$Stage", name := "unread", desc := "()I" } : Jvm.MethodName)) ∈ lw_all := lw_in (lw_tb (List.mem_of_getElem? (i := 263) (by decide +kernel))) rfl
theorem wq264 : (Jvm.Cond.code ({ cls := "WeirStream$Stage", name := "unread", desc := "()I" } : Jvm.MethodName) prog_10_method_3_code (1 : Nat) (Option.some Jvm.ClassFile.FieldType.int)) ∈ lw_all := lw_in (lw_tb (List.mem_of_getElem? (i := 264) (by decide +kernel))) rfl
theorem wq265 : (Jvm.Cond.methodLink "WeirStream$Stage" (56 : Nat) ({ cls := "WeirStream$Row", name := "length", desc := "()I" } : Jvm.MethodName)) ∈ lw_all := lw_in (lw_tb (List.mem_of_getElem? (i := 265) (by decide +kernel))) rfl
theorem wq286 : (Jvm.Cond.methodLink "WeirStream$Stage" (64 : Nat) ({ cls := "WeirStream$Outlet", name := "isBelow", desc := "(I)Z" } : Jvm.MethodName)) ∈ lw_all := lw_in (lw_tb (List.mem_of_getElem? (i := 286) (by decide +kernel))) rfl
theorem wq287 : (Jvm.Cond.instanceMethod ({ cls := "WeirStream$Outlet", name := "isBelow", desc := "(I)Z" } : Jvm.MethodName)) ∈ lw_all := lw_in (lw_tb (List.mem_of_getElem? (i := 287) (by decide +kernel))) rfl
theorem wq288 : (Jvm.Cond.selects "WeirStream$Outlet" ({ cls := "WeirStream$Outlet", name := "isBelow", desc := "(I)Z" } : Jvm.MethodName) ({ cls := "WeirStream$Outlet", name := "isBelow", desc := "(I)Z" } : Jvm.MethodName)) ∈ lw_all := lw_in (lw_tb (List.mem_of_getElem? (i := 288) (by decide +kernel))) rfl
theorem wq289 : (Jvm.Cond.code ({ cls := "WeirStream$Outlet", name := "isBelow", desc := "(I)Z" } : Jvm.MethodName) prog_6_method_3_code (2 : Nat) (Option.some Jvm.ClassFile.FieldType.boolean)) ∈ lw_all := lw_in (lw_tb (List.mem_of_getElem? (i := 289) (by decide +kernel))) rfl
theorem wq302 : (Jvm.Cond.methodLink "WeirStream$Stage" (76 : Nat) ({ cls := "WeirStream$Stage", name := "unread", desc := "()I" } : Jvm.MethodName)) ∈ lw_all := lw_in (lw_tb (List.mem_of_getElem? (i := 302) (by decide +kernel))) rfl
theorem wq303 : (Jvm.Cond.constant "WeirStream$Stage" (85 : Nat) (1000000 : Int32)) ∈ lw_all := lw_in (lw_tb (List.mem_of_getElem? (i := 303) (by decide +kernel))) rfl
theorem wq304 : (Jvm.Cond.methodLink "WeirStream$Stage" (86 : Nat) ({ cls := "WeirStream$Channel", name := "canGive", desc := "()Z" } : Jvm.MethodName)) ∈ lw_all := lw_in (lw_tb (List.mem_of_getElem? (i := 304) (by decide +kernel))) rfl
theorem wq305 : (Jvm.Cond.instanceMethod ({ cls := "WeirStream$Channel", name := "canGive", desc := "()Z" } : Jvm.MethodName)) ∈ lw_all := lw_in (lw_tb (List.mem_of_getElem? (i := 305) (by decide +kernel))) rfl
theorem wq306 : (Jvm.Cond.selects "WeirStream$Channel" ({ cls := "WeirStream$Channel", name := "canGive", desc := "()Z" } : Jvm.MethodName) ({ cls := "WeirStream$Channel", name := "canGive", desc := "()Z" } : Jvm.MethodName)) ∈ lw_all := lw_in (lw_tb (List.mem_of_getElem? (i := 306) (by decide +kernel))) rfl
theorem wq307 : (Jvm.Cond.code ({ cls := "WeirStream$Channel", name := "canGive", desc := "()Z" } : Jvm.MethodName) prog_3_method_3_code (1 : Nat) (Option.some Jvm.ClassFile.FieldType.boolean)) ∈ lw_all := lw_in (lw_tb (List.mem_of_getElem? (i := 307) (by decide +kernel))) rfl
theorem wq395 : (Jvm.Cond.methodLink "WeirStream$Stage" (127 : Nat) ({ cls := "WeirStream$Item", name := "time", desc := "(J)I" } : Jvm.MethodName)) ∈ lw_all := lw_in (lw_tb (List.mem_of_getElem? (i := 395) (by decide +kernel))) rfl
theorem wq412 : (Jvm.Cond.methodLink "WeirStream$Spans" (33 : Nat) ({ cls := "WeirStream$Spans", name := "placeFor", desc := "(J)I" } : Jvm.MethodName)) ∈ lw_all := lw_in (lw_tb (List.mem_of_getElem? (i := 412) (by decide +kernel))) rfl
theorem wq413 : (Jvm.Cond.instanceMethod ({ cls := "WeirStream$Spans", name := "placeFor", desc := "(J)I" } : Jvm.MethodName)) ∈ lw_all := lw_in (lw_tb (List.mem_of_getElem? (i := 413) (by decide +kernel))) rfl
theorem wq414 : (Jvm.Cond.selects "WeirStream$Spans" ({ cls := "WeirStream$Spans", name := "placeFor", desc := "(J)I" } : Jvm.MethodName) ({ cls := "WeirStream$Spans", name := "placeFor", desc := "(J)I" } : Jvm.MethodName)) ∈ lw_all := lw_in (lw_tb (List.mem_of_getElem? (i := 414) (by decide +kernel))) rfl
theorem wq415 : (Jvm.Cond.code ({ cls := "WeirStream$Spans", name := "placeFor", desc := "(J)I" } : Jvm.MethodName) prog_9_method_8_code (7 : Nat) (Option.some Jvm.ClassFile.FieldType.int)) ∈ lw_all := lw_in (lw_tb (List.mem_of_getElem? (i := 415) (by decide +kernel))) rfl
theorem wq444 : (Jvm.Cond.methodLink "WeirStream$Stage" (172 : Nat) ({ cls := "WeirStream$Item", name := "event", desc := "(III)J" } : Jvm.MethodName)) ∈ lw_all := lw_in (lw_tb (List.mem_of_getElem? (i := 444) (by decide +kernel))) rfl
theorem wq445 : (Jvm.Cond.static ({ cls := "WeirStream$Item", name := "event", desc := "(III)J" } : Jvm.MethodName)) ∈ lw_all := lw_in (lw_tb (List.mem_of_getElem? (i := 445) (by decide +kernel))) rfl
theorem wq446 : (Jvm.Cond.code ({ cls := "WeirStream$Item", name := "event", desc := "(III)J" } : Jvm.MethodName) prog_5_method_2_code (3 : Nat) (Option.some Jvm.ClassFile.FieldType.long)) ∈ lw_all := lw_in (lw_tb (List.mem_of_getElem? (i := 446) (by decide +kernel))) rfl
theorem wq484 : (Jvm.Cond.methodLink "WeirStream$Stage" (154 : Nat) ({ cls := "WeirStream$Item", name := "value", desc := "(J)I" } : Jvm.MethodName)) ∈ lw_all := lw_in (lw_tb (List.mem_of_getElem? (i := 484) (by decide +kernel))) rfl
theorem wq487 : (Jvm.Cond.methodLink "WeirStream$Stage" (163 : Nat) ({ cls := "WeirStream$Item", name := "key", desc := "(J)I" } : Jvm.MethodName)) ∈ lw_all := lw_in (lw_tb (List.mem_of_getElem? (i := 487) (by decide +kernel))) rfl
theorem wq488 : (Jvm.Cond.static ({ cls := "WeirStream$Item", name := "key", desc := "(J)I" } : Jvm.MethodName)) ∈ lw_all := lw_in (lw_tb (List.mem_of_getElem? (i := 488) (by decide +kernel))) rfl
theorem wq489 : (Jvm.Cond.code ({ cls := "WeirStream$Item", name := "key", desc := "(J)I" } : Jvm.MethodName) prog_5_method_7_code (2 : Nat) (Option.some Jvm.ClassFile.FieldType.int)) ∈ lw_all := lw_in (lw_tb (List.mem_of_getElem? (i := 489) (by decide +kernel))) rfl
theorem wq491 : (Jvm.Cond.methodLink "WeirStream$Stage" (166 : Nat) ({ cls := "java/lang/Math", name := "floorMod", desc := "(II)I" } : Jvm.MethodName)) ∈ lw_all := lw_in (lw_tb (List.mem_of_getElem? (i := 491) (by decide +kernel))) rfl
theorem wq492 : (Jvm.Cond.static ({ cls := "java/lang/Math", name := "floorMod", desc := "(II)I" } : Jvm.MethodName)) ∈ lw_all := lw_in (lw_tb (List.mem_of_getElem? (i := 492) (by decide +kernel))) rfl
theorem wq493 : (Jvm.Cond.code ({ cls := "java/lang/Math", name := "floorMod", desc := "(II)I" } : Jvm.MethodName) prog_24_method_50_code (3 : Nat) (Option.some Jvm.ClassFile.FieldType.int)) ∈ lw_all := lw_in (lw_tb (List.mem_of_getElem? (i := 493) (by decide +kernel))) rfl
theorem wq863 : (Jvm.Cond.laysFinal "WeirStream$Plan" "WeirStream$Plan" "sort" "I") ∈ lw_all := lw_in (lw_tb (List.mem_of_getElem? (i := 863) (by decide +kernel))) rfl
theorem wq865 : (Jvm.Cond.laysFinal "WeirStream$Plan" "WeirStream$Plan" "first" "I") ∈ lw_all := lw_in (lw_tb (List.mem_of_getElem? (i := 865) (by decide +kernel))) rfl
theorem wq867 : (Jvm.Cond.laysFinal "WeirStream$Plan" "WeirStream$Plan" "second" "I") ∈ lw_all := lw_in (lw_tb (List.mem_of_getElem? (i := 867) (by decide +kernel))) rfl
theorem wq869 : (Jvm.Cond.lays "WeirStream$Plan" "WeirStream$Plan" "slack" "I") ∈ lw_all := lw_in (lw_tb (List.mem_of_getElem? (i := 869) (by decide +kernel))) rfl
theorem wq871 : (Jvm.Cond.lays "WeirStream$Plan" "WeirStream$Plan" "rule" "I") ∈ lw_all := lw_in (lw_tb (List.mem_of_getElem? (i := 871) (by decide +kernel))) rfl
theorem wq873 : (Jvm.Cond.lays "WeirStream$Plan" "WeirStream$Plan" "n" "I") ∈ lw_all := lw_in (lw_tb (List.mem_of_getElem? (i := 873) (by decide +kernel))) rfl
theorem wq875 : (Jvm.Cond.lays "WeirStream$Plan" "WeirStream$Plan" "size" "I") ∈ lw_all := lw_in (lw_tb (List.mem_of_getElem? (i := 875) (by decide +kernel))) rfl
theorem wq877 : (Jvm.Cond.lays "WeirStream$Plan" "WeirStream$Plan" "step" "I") ∈ lw_all := lw_in (lw_tb (List.mem_of_getElem? (i := 877) (by decide +kernel))) rfl
theorem wq879 : (Jvm.Cond.lays "WeirStream$Plan" "WeirStream$Plan" "lateness" "I") ∈ lw_all := lw_in (lw_tb (List.mem_of_getElem? (i := 879) (by decide +kernel))) rfl
theorem wq881 : (Jvm.Cond.lays "WeirStream$Plan" "WeirStream$Plan" "gap" "I") ∈ lw_all := lw_in (lw_tb (List.mem_of_getElem? (i := 881) (by decide +kernel))) rfl
theorem wq883 : (Jvm.Cond.lays "WeirStream$Plan" "WeirStream$Plan" "before" "I") ∈ lw_all := lw_in (lw_tb (List.mem_of_getElem? (i := 883) (by decide +kernel))) rfl
theorem wq885 : (Jvm.Cond.lays "WeirStream$Plan" "WeirStream$Plan" "after" "I") ∈ lw_all := lw_in (lw_tb (List.mem_of_getElem? (i := 885) (by decide +kernel))) rfl
theorem wq887 : (Jvm.Cond.lays "WeirStream$Plan" "WeirStream$Plan" "account" "I") ∈ lw_all := lw_in (lw_tb (List.mem_of_getElem? (i := 887) (by decide +kernel))) rfl
theorem wq889 : (Jvm.Cond.lays "WeirStream$Plan" "WeirStream$Plan" "depth" "I") ∈ lw_all := lw_in (lw_tb (List.mem_of_getElem? (i := 889) (by decide +kernel))) rfl
theorem wq891 : (Jvm.Cond.lays "WeirStream$Plan" "WeirStream$Plan" "upstream" "I") ∈ lw_all := lw_in (lw_tb (List.mem_of_getElem? (i := 891) (by decide +kernel))) rfl
theorem wq1103 : (Jvm.Cond.fieldLink "WeirStream$Stage" (38 : Nat) "WeirStream$Stage" "plan" "LWeirStream$Plan;") ∈ lw_all := lw_in (lw_tb (List.mem_of_getElem? (i := 1103) (by decide +kernel))) rfl
theorem wq1106 : (Jvm.Cond.fieldLink "WeirStream$Stage" (42 : Nat) "WeirStream$Stage" "log" "LWeirStream$Row;") ∈ lw_all := lw_in (lw_tb (List.mem_of_getElem? (i := 1106) (by decide +kernel))) rfl
theorem wq1108 : (Jvm.Cond.fieldLink "WeirStream$Stage" (45 : Nat) "WeirStream$Stage" "first" "LWeirStream$Channel;") ∈ lw_all := lw_in (lw_tb (List.mem_of_getElem? (i := 1108) (by decide +kernel))) rfl
theorem wq1110 : (Jvm.Cond.fieldLink "WeirStream$Stage" (49 : Nat) "WeirStream$Stage" "second" "LWeirStream$Channel;") ∈ lw_all := lw_in (lw_tb (List.mem_of_getElem? (i := 1110) (by decide +kernel))) rfl
theorem wq1113 : (Jvm.Cond.fieldLink "WeirStream$Stage" (12 : Nat) "WeirStream$Stage" "outlet" "LWeirStream$Outlet;") ∈ lw_all := lw_in (lw_tb (List.mem_of_getElem? (i := 1113) (by decide +kernel))) rfl
theorem wq1118 : (Jvm.Cond.fieldLink "WeirStream$Stage" (28 : Nat) "WeirStream$Stage" "now" "LWeirStream$State;") ∈ lw_all := lw_in (lw_tb (List.mem_of_getElem? (i := 1118) (by decide +kernel))) rfl
theorem wq1125 : (Jvm.Cond.fieldLink "WeirStream$Stage" (79 : Nat) "WeirStream$Stage" "isClosed" "Z") ∈ lw_all := lw_in (lw_tb (List.mem_of_getElem? (i := 1125) (by decide +kernel))) rfl
theorem wq1127 : (Jvm.Cond.fieldLink "WeirStream$Stage" (73 : Nat) "WeirStream$Stage" "owesBarrier" "Z") ∈ lw_all := lw_in (lw_tb (List.mem_of_getElem? (i := 1127) (by decide +kernel))) rfl
theorem wq1129 : (Jvm.Cond.laysFinal "WeirStream$Stage" "WeirStream$Stage" "plan" "LWeirStream$Plan;") ∈ lw_all := lw_in (lw_tb (List.mem_of_getElem? (i := 1129) (by decide +kernel))) rfl
theorem wq1131 : (Jvm.Cond.laysFinal "WeirStream$Stage" "WeirStream$Stage" "log" "LWeirStream$Row;") ∈ lw_all := lw_in (lw_tb (List.mem_of_getElem? (i := 1131) (by decide +kernel))) rfl
theorem wq1133 : (Jvm.Cond.laysFinal "WeirStream$Stage" "WeirStream$Stage" "first" "LWeirStream$Channel;") ∈ lw_all := lw_in (lw_tb (List.mem_of_getElem? (i := 1133) (by decide +kernel))) rfl
theorem wq1135 : (Jvm.Cond.laysFinal "WeirStream$Stage" "WeirStream$Stage" "second" "LWeirStream$Channel;") ∈ lw_all := lw_in (lw_tb (List.mem_of_getElem? (i := 1135) (by decide +kernel))) rfl
theorem wq1137 : (Jvm.Cond.laysFinal "WeirStream$Stage" "WeirStream$Stage" "isTrial" "Z") ∈ lw_all := lw_in (lw_tb (List.mem_of_getElem? (i := 1137) (by decide +kernel))) rfl
theorem wq1139 : (Jvm.Cond.laysFinal "WeirStream$Stage" "WeirStream$Stage" "outlet" "LWeirStream$Outlet;") ∈ lw_all := lw_in (lw_tb (List.mem_of_getElem? (i := 1139) (by decide +kernel))) rfl
theorem wq1141 : (Jvm.Cond.laysFinal "WeirStream$Stage" "WeirStream$Stage" "output" "LWeirStream$Row;") ∈ lw_all := lw_in (lw_tb (List.mem_of_getElem? (i := 1141) (by decide +kernel))) rfl
theorem wq1143 : (Jvm.Cond.laysFinal "WeirStream$Stage" "WeirStream$Stage" "now" "LWeirStream$State;") ∈ lw_all := lw_in (lw_tb (List.mem_of_getElem? (i := 1143) (by decide +kernel))) rfl
theorem wq1145 : (Jvm.Cond.lays "WeirStream$Stage" "WeirStream$Stage" "latest" "LWeirStream$State;") ∈ lw_all := lw_in (lw_tb (List.mem_of_getElem? (i := 1145) (by decide +kernel))) rfl
theorem wq1147 : (Jvm.Cond.lays "WeirStream$Stage" "WeirStream$Stage" "coming" "LWeirStream$State;") ∈ lw_all := lw_in (lw_tb (List.mem_of_getElem? (i := 1147) (by decide +kernel))) rfl
theorem wq1149 : (Jvm.Cond.lays "WeirStream$Stage" "WeirStream$Stage" "isClosed" "Z") ∈ lw_all := lw_in (lw_tb (List.mem_of_getElem? (i := 1149) (by decide +kernel))) rfl
theorem wq1151 : (Jvm.Cond.lays "WeirStream$Stage" "WeirStream$Stage" "owesBarrier" "Z") ∈ lw_all := lw_in (lw_tb (List.mem_of_getElem? (i := 1151) (by decide +kernel))) rfl
theorem wr832 : (Jvm.Cond.fieldLinkNest "WeirStream$Stage" (68 : Nat) "WeirStream$Plan" "sort" "I" "WeirStream") ∈ lw_tbl := lw_tb (List.mem_of_getElem? (i := 832) (by decide +kernel))
theorem wr843 : (Jvm.Cond.fieldLinkNest "WeirStream$Stage" (160 : Nat) "WeirStream$Plan" "rule" "I" "WeirStream") ∈ lw_tbl := lw_tb (List.mem_of_getElem? (i := 843) (by decide +kernel))
theorem wr845 : (Jvm.Cond.fieldLinkNest "WeirStream$Stage" (157 : Nat) "WeirStream$Plan" "n" "I" "WeirStream") ∈ lw_tbl := lw_tb (List.mem_of_getElem? (i := 845) (by decide +kernel))
theorem wr855 : (Jvm.Cond.fieldLinkNest "WeirStream$Stage" (283 : Nat) "WeirStream$Plan" "before" "I" "WeirStream") ∈ lw_tbl := lw_tb (List.mem_of_getElem? (i := 855) (by decide +kernel))
theorem wr857 : (Jvm.Cond.fieldLinkNest "WeirStream$Stage" (286 : Nat) "WeirStream$Plan" "after" "I" "WeirStream") ∈ lw_tbl := lw_tb (List.mem_of_getElem? (i := 857) (by decide +kernel))
theorem wr1020 : (Jvm.Cond.fieldLinkNest "WeirStream$Flow" (72 : Nat) "WeirStream$Outlet" "channels" "Ljava/util/ArrayList;" "WeirStream") ∈ lw_tbl := lw_tb (List.mem_of_getElem? (i := 1020) (by decide +kernel))
theorem wr1052 : (Jvm.Cond.fieldLinkNest "WeirStream$Stage" (82 : Nat) "WeirStream$State" "mark" "I" "WeirStream") ∈ lw_tbl := lw_tb (List.mem_of_getElem? (i := 1052) (by decide +kernel))
theorem wr1059 : (Jvm.Cond.fieldLinkNest "WeirStream$Stage" (92 : Nat) "WeirStream$State" "tookSecond" "Z" "WeirStream") ∈ lw_tbl := lw_tb (List.mem_of_getElem? (i := 1059) (by decide +kernel))
theorem wr1061 : (Jvm.Cond.fieldLinkNest "WeirStream$Stage" (60 : Nat) "WeirStream$State" "taken" "I" "WeirStream") ∈ lw_tbl := lw_tb (List.mem_of_getElem? (i := 1061) (by decide +kernel))
theorem wr1114 : (Jvm.Cond.fieldLinkNest "WeirStream$Flow" (62 : Nat) "WeirStream$Stage" "outlet" "LWeirStream$Outlet;" "WeirStream") ∈ lw_tbl := lw_tb (List.mem_of_getElem? (i := 1114) (by decide +kernel))
theorem dJ9_floorMod_7cf53_0 : decode cJ9_floorMod_7cf53 0 = .ok (.iload_n 0, 1) := by decide +kernel
theorem dJ9_floorMod_7cf53_1 : decode cJ9_floorMod_7cf53 1 = .ok (.iload_n 1, 1) := by decide +kernel
theorem dJ9_floorMod_7cf53_2 : decode cJ9_floorMod_7cf53 2 = .ok (.irem, 1) := by decide +kernel
theorem dJ9_floorMod_7cf53_3 : decode cJ9_floorMod_7cf53 3 = .ok (.istore_n 2, 1) := by decide +kernel
theorem dJ9_floorMod_7cf53_4 : decode cJ9_floorMod_7cf53 4 = .ok (.iload_n 0, 1) := by decide +kernel
theorem dJ9_floorMod_7cf53_5 : decode cJ9_floorMod_7cf53 5 = .ok (.iload_n 1, 1) := by decide +kernel
theorem dJ9_floorMod_7cf53_6 : decode cJ9_floorMod_7cf53 6 = .ok (.ixor, 1) := by decide +kernel
theorem dJ9_floorMod_7cf53_7 : decode cJ9_floorMod_7cf53 7 = .ok (.ifCond .ge 11, 3) := by decide +kernel
theorem dJ9_floorMod_7cf53_18 : decode cJ9_floorMod_7cf53 18 = .ok (.iload_n 2, 1) := by decide +kernel
theorem dJ9_floorMod_7cf53_19 : decode cJ9_floorMod_7cf53 19 = .ok (.ireturn, 1) := by decide +kernel
theorem dJ9_floorMod_7cf53_10 : decode cJ9_floorMod_7cf53 10 = .ok (.iload_n 2, 1) := by decide +kernel
theorem dJ9_floorMod_7cf53_11 : decode cJ9_floorMod_7cf53 11 = .ok (.ifCond .eq 7, 3) := by decide +kernel
theorem dJ9_floorMod_7cf53_14 : decode cJ9_floorMod_7cf53 14 = .ok (.iload_n 2, 1) := by decide +kernel
theorem dJ9_floorMod_7cf53_15 : decode cJ9_floorMod_7cf53 15 = .ok (.iload_n 1, 1) := by decide +kernel
theorem dJ9_floorMod_7cf53_16 : decode cJ9_floorMod_7cf53 16 = .ok (.iadd, 1) := by decide +kernel
theorem dJ9_floorMod_7cf53_17 : decode cJ9_floorMod_7cf53 17 = .ok (.ireturn, 1) := by decide +kernel
theorem dJ9_floorDiv_7cf53_0 : decode cJ9_floorDiv_7cf53 0 = .ok (.iload_n 0, 1) := by decide +kernel
theorem dJ9_floorDiv_7cf53_1 : decode cJ9_floorDiv_7cf53 1 = .ok (.iload_n 1, 1) := by decide +kernel
theorem dJ9_floorDiv_7cf53_2 : decode cJ9_floorDiv_7cf53 2 = .ok (.idiv, 1) := by decide +kernel
theorem dJ9_floorDiv_7cf53_3 : decode cJ9_floorDiv_7cf53 3 = .ok (.istore_n 2, 1) := by decide +kernel
theorem dJ9_floorDiv_7cf53_4 : decode cJ9_floorDiv_7cf53 4 = .ok (.iload_n 0, 1) := by decide +kernel
theorem dJ9_floorDiv_7cf53_5 : decode cJ9_floorDiv_7cf53 5 = .ok (.iload_n 1, 1) := by decide +kernel
theorem dJ9_floorDiv_7cf53_6 : decode cJ9_floorDiv_7cf53 6 = .ok (.ixor, 1) := by decide +kernel
theorem dJ9_floorDiv_7cf53_7 : decode cJ9_floorDiv_7cf53 7 = .ok (.ifCond .ge 14, 3) := by decide +kernel
theorem dJ9_floorDiv_7cf53_21 : decode cJ9_floorDiv_7cf53 21 = .ok (.iload_n 2, 1) := by decide +kernel
theorem dJ9_floorDiv_7cf53_22 : decode cJ9_floorDiv_7cf53 22 = .ok (.ireturn, 1) := by decide +kernel
theorem dJ9_floorDiv_7cf53_10 : decode cJ9_floorDiv_7cf53 10 = .ok (.iload_n 2, 1) := by decide +kernel
theorem dJ9_floorDiv_7cf53_11 : decode cJ9_floorDiv_7cf53 11 = .ok (.iload_n 1, 1) := by decide +kernel
theorem dJ9_floorDiv_7cf53_12 : decode cJ9_floorDiv_7cf53 12 = .ok (.imul, 1) := by decide +kernel
theorem dJ9_floorDiv_7cf53_13 : decode cJ9_floorDiv_7cf53 13 = .ok (.iload_n 0, 1) := by decide +kernel
theorem dJ9_floorDiv_7cf53_14 : decode cJ9_floorDiv_7cf53 14 = .ok (.if_icmp .eq 7, 3) := by decide +kernel
theorem dJ9_floorDiv_7cf53_17 : decode cJ9_floorDiv_7cf53 17 = .ok (.iload_n 2, 1) := by decide +kernel
theorem dJ9_floorDiv_7cf53_18 : decode cJ9_floorDiv_7cf53 18 = .ok (.iconst 1, 1) := by decide +kernel
theorem dJ9_floorDiv_7cf53_19 : decode cJ9_floorDiv_7cf53 19 = .ok (.isub, 1) := by decide +kernel
theorem dJ9_floorDiv_7cf53_20 : decode cJ9_floorDiv_7cf53 20 = .ok (.ireturn, 1) := by decide +kernel
theorem dX10_isWithin_0 : decode cX10_isWithin 0 = .ok (.iload_n 0, 1) := by decide +kernel
theorem dX10_isWithin_1 : decode cX10_isWithin 1 = .ok (.iload_n 1, 1) := by decide +kernel
theorem dX10_isWithin_2 : decode cX10_isWithin 2 = .ok (.if_icmp .lt 12, 3) := by decide +kernel
theorem dX10_isWithin_14 : decode cX10_isWithin 14 = .ok (.iconst 0, 1) := by decide +kernel
theorem dX10_isWithin_15 : decode cX10_isWithin 15 = .ok (.ireturn, 1) := by decide +kernel
theorem dX10_isWithin_5 : decode cX10_isWithin 5 = .ok (.iload_n 0, 1) := by decide +kernel
theorem dX10_isWithin_6 : decode cX10_isWithin 6 = .ok (.iload_n 2, 1) := by decide +kernel
theorem dX10_isWithin_7 : decode cX10_isWithin 7 = .ok (.if_icmp .gt 7, 3) := by decide +kernel
theorem dX10_isWithin_10 : decode cX10_isWithin 10 = .ok (.iconst 1, 1) := by decide +kernel
theorem dX10_isWithin_11 : decode cX10_isWithin 11 = .ok (.goto 4, 3) := by decide +kernel
theorem dX10_bit_0 : decode cX10_bit 0 = .ok (.iload_n 0, 1) := by decide +kernel
theorem dX10_bit_1 : decode cX10_bit 1 = .ok (.ifCond .eq 7, 3) := by decide +kernel
theorem dX10_bit_8 : decode cX10_bit 8 = .ok (.iconst 0, 1) := by decide +kernel
theorem dX10_bit_9 : decode cX10_bit 9 = .ok (.ireturn, 1) := by decide +kernel
theorem dX10_bit_4 : decode cX10_bit 4 = .ok (.iconst 1, 1) := by decide +kernel
theorem dX10_bit_5 : decode cX10_bit 5 = .ok (.goto 4, 3) := by decide +kernel
theorem dX10_refuseUnless_0 : decode cX10_refuseUnless 0 = .ok (.iload_n 0, 1) := by decide +kernel
theorem dX10_refuseUnless_1 : decode cX10_refuseUnless 1 = .ok (.ifCond .ne 11, 3) := by decide +kernel
theorem dX10_refuseUnless_12 : decode cX10_refuseUnless 12 = .ok (.return_, 1) := by decide +kernel
theorem dX7_placeFor_14 : decode cX7_placeFor 14 = .ok (.iload 5, 2) := by decide +kernel
theorem dX7_placeFor_16 : decode cX7_placeFor 16 = .ok (.bipush 40, 2) := by decide +kernel
theorem dX7_placeFor_18 : decode cX7_placeFor 18 = .ok (.if_icmp .ge 49, 3) := by decide +kernel
theorem dX7_placeFor_67 : decode cX7_placeFor 67 = .ok (.iload_n 3, 1) := by decide +kernel
theorem dX7_placeFor_68 : decode cX7_placeFor 68 = .ok (.ireturn, 1) := by decide +kernel
theorem dX7_placeFor_21 : decode cX7_placeFor 21 = .ok (.iload_n 3, 1) := by decide +kernel
theorem dX7_placeFor_22 : decode cX7_placeFor 22 = .ok (.iload 4, 2) := by decide +kernel
theorem dX7_placeFor_24 : decode cX7_placeFor 24 = .ok (.if_icmp .ge 43, 3) := by decide +kernel
theorem dX7_placeFor_27 : decode cX7_placeFor 27 = .ok (.iload_n 3, 1) := by decide +kernel
theorem dX7_placeFor_28 : decode cX7_placeFor 28 = .ok (.iload 4, 2) := by decide +kernel
theorem dX7_placeFor_30 : decode cX7_placeFor 30 = .ok (.iadd, 1) := by decide +kernel
theorem dX7_placeFor_31 : decode cX7_placeFor 31 = .ok (.iconst 1, 1) := by decide +kernel
theorem dX7_placeFor_32 : decode cX7_placeFor 32 = .ok (.iushr, 1) := by decide +kernel
theorem dX7_placeFor_33 : decode cX7_placeFor 33 = .ok (.istore 6, 2) := by decide +kernel
theorem dX7_placeFor_35 : decode cX7_placeFor 35 = .ok (.aload_n 0, 1) := by decide +kernel
theorem dX7_placeFor_36 : decode cX7_placeFor 36 = .ok (.getfield 12, 3) := by decide +kernel
theorem dX7_placeFor_39 : decode cX7_placeFor 39 = .ok (.iload 6, 2) := by decide +kernel
theorem dX7_placeFor_41 : decode cX7_placeFor 41 = .ok (.invokevirtual 25, 3) := by decide +kernel
theorem dX7_placeFor_44 : decode cX7_placeFor 44 = .ok (.lload_n 1, 1) := by decide +kernel
theorem dX7_placeFor_45 : decode cX7_placeFor 45 = .ok (.lcmp, 1) := by decide +kernel
theorem dX7_placeFor_46 : decode cX7_placeFor 46 = .ok (.ifCond .ge 11, 3) := by decide +kernel
theorem dX7_placeFor_57 : decode cX7_placeFor 57 = .ok (.iload 6, 2) := by decide +kernel
theorem dX7_placeFor_59 : decode cX7_placeFor 59 = .ok (.istore 4, 2) := by decide +kernel
theorem dX7_placeFor_61 : decode cX7_placeFor 61 = .ok (.iinc 5 1, 3) := by decide +kernel
theorem dX7_placeFor_64 : decode cX7_placeFor 64 = .ok (.goto (-50), 3) := by decide +kernel
theorem dX7_placeFor_49 : decode cX7_placeFor 49 = .ok (.iload 6, 2) := by decide +kernel
theorem dX7_placeFor_51 : decode cX7_placeFor 51 = .ok (.iconst 1, 1) := by decide +kernel
theorem dX7_placeFor_52 : decode cX7_placeFor 52 = .ok (.iadd, 1) := by decide +kernel
theorem dX7_placeFor_53 : decode cX7_placeFor 53 = .ok (.istore_n 3, 1) := by decide +kernel
theorem dX7_placeFor_54 : decode cX7_placeFor 54 = .ok (.goto 7, 3) := by decide +kernel
theorem dX7_placeFor_0 : decode cX7_placeFor 0 = .ok (.iconst 0, 1) := by decide +kernel
theorem dX7_placeFor_1 : decode cX7_placeFor 1 = .ok (.istore_n 3, 1) := by decide +kernel
theorem dX7_placeFor_2 : decode cX7_placeFor 2 = .ok (.aload_n 0, 1) := by decide +kernel
theorem dX7_placeFor_3 : decode cX7_placeFor 3 = .ok (.getfield 12, 3) := by decide +kernel
theorem dX7_placeFor_6 : decode cX7_placeFor 6 = .ok (.invokevirtual 21, 3) := by decide +kernel
theorem dX7_placeFor_9 : decode cX7_placeFor 9 = .ok (.istore 4, 2) := by decide +kernel
theorem dX7_placeFor_11 : decode cX7_placeFor 11 = .ok (.iconst 0, 1) := by decide +kernel
theorem dX7_placeFor_12 : decode cX7_placeFor 12 = .ok (.istore 5, 2) := by decide +kernel
theorem dX7_firstEndingAbove_0 : decode cX7_firstEndingAbove 0 = .ok (.aload_n 0, 1) := by decide +kernel
theorem dX7_firstEndingAbove_1 : decode cX7_firstEndingAbove 1 = .ok (.iload_n 1, 1) := by decide +kernel
theorem dX7_firstEndingAbove_2 : decode cX7_firstEndingAbove 2 = .ok (.iconst 1, 1) := by decide +kernel
theorem dX7_firstEndingAbove_3 : decode cX7_firstEndingAbove 3 = .ok (.iadd, 1) := by decide +kernel
theorem dX7_firstEndingAbove_4 : decode cX7_firstEndingAbove 4 = .ok (.i2l, 1) := by decide +kernel
theorem dX7_firstEndingAbove_5 : decode cX7_firstEndingAbove 5 = .ok (.bipush 29, 2) := by decide +kernel
theorem dX7_firstEndingAbove_7 : decode cX7_firstEndingAbove 7 = .ok (.lshl, 1) := by decide +kernel
theorem dX7_firstEndingAbove_8 : decode cX7_firstEndingAbove 8 = .ok (.invokevirtual 33, 3) := by decide +kernel
theorem dX7_firstEndingAbove_11 : decode cX7_firstEndingAbove 11 = .ok (.ireturn, 1) := by decide +kernel
theorem dX8_channel_0 : decode cX8_channel 0 = .ok (.iload_n 1, 1) := by decide +kernel
theorem dX8_channel_1 : decode cX8_channel 1 = .ok (.ifCond .eq 10, 3) := by decide +kernel
theorem dX8_channel_11 : decode cX8_channel 11 = .ok (.aload_n 0, 1) := by decide +kernel
theorem dX8_channel_12 : decode cX8_channel 12 = .ok (.getfield 45, 3) := by decide +kernel
theorem dX8_channel_15 : decode cX8_channel 15 = .ok (.areturn, 1) := by decide +kernel
theorem dX8_channel_4 : decode cX8_channel 4 = .ok (.aload_n 0, 1) := by decide +kernel
theorem dX8_channel_5 : decode cX8_channel 5 = .ok (.getfield 49, 3) := by decide +kernel
theorem dX8_channel_8 : decode cX8_channel 8 = .ok (.goto 7, 3) := by decide +kernel
theorem dX8_unread_0 : decode cX8_unread 0 = .ok (.aload_n 0, 1) := by decide +kernel
theorem dX8_unread_1 : decode cX8_unread 1 = .ok (.getfield 42, 3) := by decide +kernel
theorem dX8_unread_4 : decode cX8_unread 4 = .ok (.invokevirtual 56, 3) := by decide +kernel
theorem dX8_unread_7 : decode cX8_unread 7 = .ok (.aload_n 0, 1) := by decide +kernel
theorem dX8_unread_8 : decode cX8_unread 8 = .ok (.getfield 28, 3) := by decide +kernel
theorem dX8_unread_11 : decode cX8_unread 11 = .ok (.getfield 60, 3) := by decide +kernel
theorem dX8_unread_14 : decode cX8_unread 14 = .ok (.isub, 1) := by decide +kernel
theorem dX8_unread_15 : decode cX8_unread 15 = .ok (.ireturn, 1) := by decide +kernel
theorem dX8_canWork_0 : decode cX8_canWork 0 = .ok (.aload_n 0, 1) := by decide +kernel
theorem dX8_canWork_1 : decode cX8_canWork 1 = .ok (.getfield 12, 3) := by decide +kernel
theorem dX8_canWork_4 : decode cX8_canWork 4 = .ok (.iload_n 1, 1) := by decide +kernel
theorem dX8_canWork_5 : decode cX8_canWork 5 = .ok (.invokevirtual 64, 3) := by decide +kernel
theorem dX8_canWork_8 : decode cX8_canWork 8 = .ok (.ifCond .ne 5, 3) := by decide +kernel
theorem dX8_canWork_11 : decode cX8_canWork 11 = .ok (.iconst 0, 1) := by decide +kernel
theorem dX8_canWork_12 : decode cX8_canWork 12 = .ok (.ireturn, 1) := by decide +kernel
theorem dX8_canWork_13 : decode cX8_canWork 13 = .ok (.aload_n 0, 1) := by decide +kernel
theorem dX8_canWork_14 : decode cX8_canWork 14 = .ok (.getfield 38, 3) := by decide +kernel
theorem dX8_canWork_17 : decode cX8_canWork 17 = .ok (.getfield 68, 3) := by decide +kernel
theorem dX8_canWork_20 : decode cX8_canWork 20 = .ok (.ifCond .ne 42, 3) := by decide +kernel
theorem dX8_canWork_23 : decode cX8_canWork 23 = .ok (.aload_n 0, 1) := by decide +kernel
theorem dX8_canWork_24 : decode cX8_canWork 24 = .ok (.getfield 73, 3) := by decide +kernel
theorem dX8_canWork_27 : decode cX8_canWork 27 = .ok (.ifCond .ne 29, 3) := by decide +kernel
theorem dX8_canWork_30 : decode cX8_canWork 30 = .ok (.aload_n 0, 1) := by decide +kernel
theorem dX8_canWork_31 : decode cX8_canWork 31 = .ok (.invokevirtual 76, 3) := by decide +kernel
theorem dX8_canWork_34 : decode cX8_canWork 34 = .ok (.ifCond .gt 22, 3) := by decide +kernel
theorem dX8_canWork_56 : decode cX8_canWork 56 = .ok (.iconst 1, 1) := by decide +kernel
theorem dX8_canWork_57 : decode cX8_canWork 57 = .ok (.goto 4, 3) := by decide +kernel
theorem dX8_canWork_61 : decode cX8_canWork 61 = .ok (.ireturn, 1) := by decide +kernel
theorem dX8_canWork_37 : decode cX8_canWork 37 = .ok (.aload_n 0, 1) := by decide +kernel
theorem dX8_canWork_38 : decode cX8_canWork 38 = .ok (.getfield 79, 3) := by decide +kernel
theorem dX8_canWork_41 : decode cX8_canWork 41 = .ok (.ifCond .eq 19, 3) := by decide +kernel
theorem dX8_canWork_60 : decode cX8_canWork 60 = .ok (.iconst 0, 1) := by decide +kernel
theorem dX8_canWork_44 : decode cX8_canWork 44 = .ok (.aload_n 0, 1) := by decide +kernel
theorem dX8_canWork_45 : decode cX8_canWork 45 = .ok (.getfield 28, 3) := by decide +kernel
theorem dX8_canWork_48 : decode cX8_canWork 48 = .ok (.getfield 82, 3) := by decide +kernel
theorem dX8_canWork_51 : decode cX8_canWork 51 = .ok (.ldc 85, 2) := by decide +kernel
theorem dX8_canWork_53 : decode cX8_canWork 53 = .ok (.if_icmp .eq 7, 3) := by decide +kernel
theorem dX8_canWork_62 : decode cX8_canWork 62 = .ok (.aload_n 0, 1) := by decide +kernel
theorem dX8_canWork_63 : decode cX8_canWork 63 = .ok (.getfield 45, 3) := by decide +kernel
theorem dX8_canWork_66 : decode cX8_canWork 66 = .ok (.ifnull 13, 3) := by decide +kernel
theorem dX8_canWork_69 : decode cX8_canWork 69 = .ok (.aload_n 0, 1) := by decide +kernel
theorem dX8_canWork_70 : decode cX8_canWork 70 = .ok (.getfield 45, 3) := by decide +kernel
theorem dX8_canWork_73 : decode cX8_canWork 73 = .ok (.invokevirtual 86, 3) := by decide +kernel
theorem dX8_canWork_76 : decode cX8_canWork 76 = .ok (.ifCond .ne 20, 3) := by decide +kernel
theorem dX8_canWork_79 : decode cX8_canWork 79 = .ok (.aload_n 0, 1) := by decide +kernel
theorem dX8_canWork_80 : decode cX8_canWork 80 = .ok (.getfield 49, 3) := by decide +kernel
theorem dX8_canWork_83 : decode cX8_canWork 83 = .ok (.ifnull 17, 3) := by decide +kernel
theorem dX8_canWork_86 : decode cX8_canWork 86 = .ok (.aload_n 0, 1) := by decide +kernel
theorem dX8_canWork_87 : decode cX8_canWork 87 = .ok (.getfield 49, 3) := by decide +kernel
theorem dX8_canWork_90 : decode cX8_canWork 90 = .ok (.invokevirtual 86, 3) := by decide +kernel
theorem dX8_canWork_93 : decode cX8_canWork 93 = .ok (.ifCond .eq 7, 3) := by decide +kernel
theorem dX8_canWork_100 : decode cX8_canWork 100 = .ok (.iconst 0, 1) := by decide +kernel
theorem dX8_canWork_101 : decode cX8_canWork 101 = .ok (.ireturn, 1) := by decide +kernel
theorem dX8_canWork_96 : decode cX8_canWork 96 = .ok (.iconst 1, 1) := by decide +kernel
theorem dX8_canWork_97 : decode cX8_canWork 97 = .ok (.goto 4, 3) := by decide +kernel
theorem dX8_turnsToSecond_0 : decode cX8_turnsToSecond 0 = .ok (.aload_n 0, 1) := by decide +kernel
theorem dX8_turnsToSecond_1 : decode cX8_turnsToSecond 1 = .ok (.getfield 49, 3) := by decide +kernel
theorem dX8_turnsToSecond_4 : decode cX8_turnsToSecond 4 = .ok (.ifnull 13, 3) := by decide +kernel
theorem dX8_turnsToSecond_7 : decode cX8_turnsToSecond 7 = .ok (.aload_n 0, 1) := by decide +kernel
theorem dX8_turnsToSecond_8 : decode cX8_turnsToSecond 8 = .ok (.getfield 49, 3) := by decide +kernel
theorem dX8_turnsToSecond_11 : decode cX8_turnsToSecond 11 = .ok (.invokevirtual 86, 3) := by decide +kernel
theorem dX8_turnsToSecond_14 : decode cX8_turnsToSecond 14 = .ok (.ifCond .ne 5, 3) := by decide +kernel
theorem dX8_turnsToSecond_17 : decode cX8_turnsToSecond 17 = .ok (.iconst 0, 1) := by decide +kernel
theorem dX8_turnsToSecond_18 : decode cX8_turnsToSecond 18 = .ok (.ireturn, 1) := by decide +kernel
theorem dX8_turnsToSecond_19 : decode cX8_turnsToSecond 19 = .ok (.aload_n 0, 1) := by decide +kernel
theorem dX8_turnsToSecond_20 : decode cX8_turnsToSecond 20 = .ok (.getfield 28, 3) := by decide +kernel
theorem dX8_turnsToSecond_23 : decode cX8_turnsToSecond 23 = .ok (.getfield 92, 3) := by decide +kernel
theorem dX8_turnsToSecond_26 : decode cX8_turnsToSecond 26 = .ok (.ifCond .eq 20, 3) := by decide +kernel
theorem dX8_turnsToSecond_46 : decode cX8_turnsToSecond 46 = .ok (.iconst 1, 1) := by decide +kernel
theorem dX8_turnsToSecond_47 : decode cX8_turnsToSecond 47 = .ok (.goto 4, 3) := by decide +kernel
theorem dX8_turnsToSecond_51 : decode cX8_turnsToSecond 51 = .ok (.ireturn, 1) := by decide +kernel
theorem dX8_turnsToSecond_29 : decode cX8_turnsToSecond 29 = .ok (.aload_n 0, 1) := by decide +kernel
theorem dX8_turnsToSecond_30 : decode cX8_turnsToSecond 30 = .ok (.getfield 45, 3) := by decide +kernel
theorem dX8_turnsToSecond_33 : decode cX8_turnsToSecond 33 = .ok (.ifnull 13, 3) := by decide +kernel
theorem dX8_turnsToSecond_36 : decode cX8_turnsToSecond 36 = .ok (.aload_n 0, 1) := by decide +kernel
theorem dX8_turnsToSecond_37 : decode cX8_turnsToSecond 37 = .ok (.getfield 45, 3) := by decide +kernel
theorem dX8_turnsToSecond_40 : decode cX8_turnsToSecond 40 = .ok (.invokevirtual 86, 3) := by decide +kernel
theorem dX8_turnsToSecond_43 : decode cX8_turnsToSecond 43 = .ok (.ifCond .ne 7, 3) := by decide +kernel
theorem dX8_turnsToSecond_50 : decode cX8_turnsToSecond 50 = .ok (.iconst 0, 1) := by decide +kernel
theorem dX8_passes_0 : decode cX8_passes 0 = .ok (.lload_n 1, 1) := by decide +kernel
theorem dX8_passes_1 : decode cX8_passes 1 = .ok (.invokestatic 154, 3) := by decide +kernel
theorem dX8_passes_4 : decode cX8_passes 4 = .ok (.istore_n 3, 1) := by decide +kernel
theorem dX8_passes_5 : decode cX8_passes 5 = .ok (.aload_n 0, 1) := by decide +kernel
theorem dX8_passes_6 : decode cX8_passes 6 = .ok (.getfield 38, 3) := by decide +kernel
theorem dX8_passes_9 : decode cX8_passes 9 = .ok (.getfield 157, 3) := by decide +kernel
theorem dX8_passes_12 : decode cX8_passes 12 = .ok (.istore 4, 2) := by decide +kernel
theorem dX8_passes_14 : decode cX8_passes 14 = .ok (.aload_n 0, 1) := by decide +kernel
theorem dX8_passes_15 : decode cX8_passes 15 = .ok (.getfield 38, 3) := by decide +kernel
theorem dX8_passes_18 : decode cX8_passes 18 = .ok (.getfield 160, 3) := by decide +kernel
theorem dX8_passes_21 : decode cX8_passes 21 = .ok (.tableswitch 66 0 2 #[27, 39, 51], 27) := by decide +kernel
theorem dX8_passes_48 : decode cX8_passes 48 = .ok (.iload_n 3, 1) := by decide +kernel
theorem dX8_passes_49 : decode cX8_passes 49 = .ok (.iload 4, 2) := by decide +kernel
theorem dX8_passes_51 : decode cX8_passes 51 = .ok (.if_icmp .lt 7, 3) := by decide +kernel
theorem dX8_passes_58 : decode cX8_passes 58 = .ok (.iconst 0, 1) := by decide +kernel
theorem dX8_passes_59 : decode cX8_passes 59 = .ok (.ireturn, 1) := by decide +kernel
theorem dX8_passes_54 : decode cX8_passes 54 = .ok (.iconst 1, 1) := by decide +kernel
theorem dX8_passes_55 : decode cX8_passes 55 = .ok (.goto 4, 3) := by decide +kernel
theorem dX8_passes_60 : decode cX8_passes 60 = .ok (.iload_n 3, 1) := by decide +kernel
theorem dX8_passes_61 : decode cX8_passes 61 = .ok (.iload 4, 2) := by decide +kernel
theorem dX8_passes_63 : decode cX8_passes 63 = .ok (.if_icmp .ge 7, 3) := by decide +kernel
theorem dX8_passes_70 : decode cX8_passes 70 = .ok (.iconst 0, 1) := by decide +kernel
theorem dX8_passes_71 : decode cX8_passes 71 = .ok (.ireturn, 1) := by decide +kernel
theorem dX8_passes_66 : decode cX8_passes 66 = .ok (.iconst 1, 1) := by decide +kernel
theorem dX8_passes_67 : decode cX8_passes 67 = .ok (.goto 4, 3) := by decide +kernel
theorem dX8_passes_72 : decode cX8_passes 72 = .ok (.lload_n 1, 1) := by decide +kernel
theorem dX8_passes_73 : decode cX8_passes 73 = .ok (.invokestatic 163, 3) := by decide +kernel
theorem dX8_passes_76 : decode cX8_passes 76 = .ok (.iload 4, 2) := by decide +kernel
theorem dX8_passes_78 : decode cX8_passes 78 = .ok (.if_icmp .ne 7, 3) := by decide +kernel
theorem dX8_passes_81 : decode cX8_passes 81 = .ok (.iconst 1, 1) := by decide +kernel
theorem dX8_passes_82 : decode cX8_passes 82 = .ok (.goto 4, 3) := by decide +kernel
theorem dX8_passes_86 : decode cX8_passes 86 = .ok (.ireturn, 1) := by decide +kernel
theorem dX8_passes_85 : decode cX8_passes 85 = .ok (.iconst 0, 1) := by decide +kernel
theorem dX8_passes_87 : decode cX8_passes 87 = .ok (.iload 4, 2) := by decide +kernel
theorem dX8_passes_89 : decode cX8_passes 89 = .ok (.ifCond .eq 16, 3) := by decide +kernel
theorem dX8_passes_105 : decode cX8_passes 105 = .ok (.iconst 0, 1) := by decide +kernel
theorem dX8_passes_106 : decode cX8_passes 106 = .ok (.ireturn, 1) := by decide +kernel
theorem dX8_passes_92 : decode cX8_passes 92 = .ok (.iload_n 3, 1) := by decide +kernel
theorem dX8_passes_93 : decode cX8_passes 93 = .ok (.iload 4, 2) := by decide +kernel
theorem dX8_passes_95 : decode cX8_passes 95 = .ok (.invokestatic 166, 3) := by decide +kernel
theorem dX8_passes_98 : decode cX8_passes 98 = .ok (.ifCond .ne 7, 3) := by decide +kernel
theorem dX8_passes_101 : decode cX8_passes 101 = .ok (.iconst 1, 1) := by decide +kernel
theorem dX8_passes_102 : decode cX8_passes 102 = .ok (.goto 4, 3) := by decide +kernel
theorem dX8_mapped_0 : decode cX8_mapped 0 = .ok (.lload_n 1, 1) := by decide +kernel
theorem dX8_mapped_1 : decode cX8_mapped 1 = .ok (.invokestatic 163, 3) := by decide +kernel
theorem dX8_mapped_4 : decode cX8_mapped 4 = .ok (.istore_n 3, 1) := by decide +kernel
theorem dX8_mapped_5 : decode cX8_mapped 5 = .ok (.lload_n 1, 1) := by decide +kernel
theorem dX8_mapped_6 : decode cX8_mapped 6 = .ok (.invokestatic 154, 3) := by decide +kernel
theorem dX8_mapped_9 : decode cX8_mapped 9 = .ok (.istore 4, 2) := by decide +kernel
theorem dX8_mapped_11 : decode cX8_mapped 11 = .ok (.lload_n 1, 1) := by decide +kernel
theorem dX8_mapped_12 : decode cX8_mapped 12 = .ok (.invokestatic 127, 3) := by decide +kernel
theorem dX8_mapped_15 : decode cX8_mapped 15 = .ok (.istore 5, 2) := by decide +kernel
theorem dX8_mapped_17 : decode cX8_mapped 17 = .ok (.aload_n 0, 1) := by decide +kernel
theorem dX8_mapped_18 : decode cX8_mapped 18 = .ok (.getfield 38, 3) := by decide +kernel
theorem dX8_mapped_21 : decode cX8_mapped 21 = .ok (.getfield 157, 3) := by decide +kernel
theorem dX8_mapped_24 : decode cX8_mapped 24 = .ok (.istore 6, 2) := by decide +kernel
theorem dX8_mapped_26 : decode cX8_mapped 26 = .ok (.aload_n 0, 1) := by decide +kernel
theorem dX8_mapped_27 : decode cX8_mapped 27 = .ok (.getfield 38, 3) := by decide +kernel
theorem dX8_mapped_30 : decode cX8_mapped 30 = .ok (.getfield 160, 3) := by decide +kernel
theorem dX8_mapped_33 : decode cX8_mapped 33 = .ok (.tableswitch 76 0 2 #[27, 39, 51], 27) := by decide +kernel
theorem dX8_mapped_60 : decode cX8_mapped 60 = .ok (.iload_n 3, 1) := by decide +kernel
theorem dX8_mapped_61 : decode cX8_mapped 61 = .ok (.iload 4, 2) := by decide +kernel
theorem dX8_mapped_63 : decode cX8_mapped 63 = .ok (.iload 6, 2) := by decide +kernel
theorem dX8_mapped_65 : decode cX8_mapped 65 = .ok (.iadd, 1) := by decide +kernel
theorem dX8_mapped_66 : decode cX8_mapped 66 = .ok (.iload 5, 2) := by decide +kernel
theorem dX8_mapped_68 : decode cX8_mapped 68 = .ok (.invokestatic 172, 3) := by decide +kernel
theorem dX8_mapped_71 : decode cX8_mapped 71 = .ok (.lreturn, 1) := by decide +kernel
theorem dX8_mapped_72 : decode cX8_mapped 72 = .ok (.iload_n 3, 1) := by decide +kernel
theorem dX8_mapped_73 : decode cX8_mapped 73 = .ok (.iload 4, 2) := by decide +kernel
theorem dX8_mapped_75 : decode cX8_mapped 75 = .ok (.iload 6, 2) := by decide +kernel
theorem dX8_mapped_77 : decode cX8_mapped 77 = .ok (.imul, 1) := by decide +kernel
theorem dX8_mapped_78 : decode cX8_mapped 78 = .ok (.iload 5, 2) := by decide +kernel
theorem dX8_mapped_80 : decode cX8_mapped 80 = .ok (.invokestatic 172, 3) := by decide +kernel
theorem dX8_mapped_83 : decode cX8_mapped 83 = .ok (.lreturn, 1) := by decide +kernel
theorem dX8_mapped_84 : decode cX8_mapped 84 = .ok (.iload 6, 2) := by decide +kernel
theorem dX8_mapped_86 : decode cX8_mapped 86 = .ok (.iconst 1, 1) := by decide +kernel
theorem dX8_mapped_87 : decode cX8_mapped 87 = .ok (.if_icmp .ge 7, 3) := by decide +kernel
theorem dX8_mapped_94 : decode cX8_mapped 94 = .ok (.iload 4, 2) := by decide +kernel
theorem dX8_mapped_96 : decode cX8_mapped 96 = .ok (.iload 6, 2) := by decide +kernel
theorem dX8_mapped_98 : decode cX8_mapped 98 = .ok (.invokestatic 166, 3) := by decide +kernel
theorem dX8_mapped_101 : decode cX8_mapped 101 = .ok (.iload 4, 2) := by decide +kernel
theorem dX8_mapped_103 : decode cX8_mapped 103 = .ok (.iload 5, 2) := by decide +kernel
theorem dX8_mapped_105 : decode cX8_mapped 105 = .ok (.invokestatic 172, 3) := by decide +kernel
theorem dX8_mapped_108 : decode cX8_mapped 108 = .ok (.lreturn, 1) := by decide +kernel
theorem dX8_mapped_90 : decode cX8_mapped 90 = .ok (.iload_n 3, 1) := by decide +kernel
theorem dX8_mapped_91 : decode cX8_mapped 91 = .ok (.goto 10, 3) := by decide +kernel
theorem dX8_mapped_109 : decode cX8_mapped 109 = .ok (.iload_n 3, 1) := by decide +kernel
theorem dX8_mapped_110 : decode cX8_mapped 110 = .ok (.iload_n 3, 1) := by decide +kernel
theorem dX8_mapped_111 : decode cX8_mapped 111 = .ok (.iload 5, 2) := by decide +kernel
theorem dX8_mapped_113 : decode cX8_mapped 113 = .ok (.invokestatic 172, 3) := by decide +kernel
theorem dX8_mapped_116 : decode cX8_mapped 116 = .ok (.lreturn, 1) := by decide +kernel
theorem dX8_meets_0 : decode cX8_meets 0 = .ok (.lload_n 1, 1) := by decide +kernel
theorem dX8_meets_1 : decode cX8_meets 1 = .ok (.invokestatic 127, 3) := by decide +kernel
theorem dX8_meets_4 : decode cX8_meets 4 = .ok (.istore 5, 2) := by decide +kernel
theorem dX8_meets_6 : decode cX8_meets 6 = .ok (.lload_n 3, 1) := by decide +kernel
theorem dX8_meets_7 : decode cX8_meets 7 = .ok (.invokestatic 127, 3) := by decide +kernel
theorem dX8_meets_10 : decode cX8_meets 10 = .ok (.istore 6, 2) := by decide +kernel
theorem dX8_meets_12 : decode cX8_meets 12 = .ok (.lload_n 1, 1) := by decide +kernel
theorem dX8_meets_13 : decode cX8_meets 13 = .ok (.invokestatic 163, 3) := by decide +kernel
theorem dX8_meets_16 : decode cX8_meets 16 = .ok (.lload_n 3, 1) := by decide +kernel
theorem dX8_meets_17 : decode cX8_meets 17 = .ok (.invokestatic 163, 3) := by decide +kernel
theorem dX8_meets_20 : decode cX8_meets 20 = .ok (.if_icmp .ne 37, 3) := by decide +kernel
theorem dX8_meets_23 : decode cX8_meets 23 = .ok (.iload 5, 2) := by decide +kernel
theorem dX8_meets_25 : decode cX8_meets 25 = .ok (.aload_n 0, 1) := by decide +kernel
theorem dX8_meets_26 : decode cX8_meets 26 = .ok (.getfield 38, 3) := by decide +kernel
theorem dX8_meets_29 : decode cX8_meets 29 = .ok (.getfield 283, 3) := by decide +kernel
theorem dX8_meets_32 : decode cX8_meets 32 = .ok (.isub, 1) := by decide +kernel
theorem dX8_meets_33 : decode cX8_meets 33 = .ok (.iload 6, 2) := by decide +kernel
theorem dX8_meets_35 : decode cX8_meets 35 = .ok (.if_icmp .gt 22, 3) := by decide +kernel
theorem dX8_meets_57 : decode cX8_meets 57 = .ok (.iconst 0, 1) := by decide +kernel
theorem dX8_meets_58 : decode cX8_meets 58 = .ok (.ireturn, 1) := by decide +kernel
theorem dX8_meets_38 : decode cX8_meets 38 = .ok (.iload 6, 2) := by decide +kernel
theorem dX8_meets_40 : decode cX8_meets 40 = .ok (.iload 5, 2) := by decide +kernel
theorem dX8_meets_42 : decode cX8_meets 42 = .ok (.aload_n 0, 1) := by decide +kernel
theorem dX8_meets_43 : decode cX8_meets 43 = .ok (.getfield 38, 3) := by decide +kernel
theorem dX8_meets_46 : decode cX8_meets 46 = .ok (.getfield 286, 3) := by decide +kernel
theorem dX8_meets_49 : decode cX8_meets 49 = .ok (.iadd, 1) := by decide +kernel
theorem dX8_meets_50 : decode cX8_meets 50 = .ok (.if_icmp .gt 7, 3) := by decide +kernel
theorem dX8_meets_53 : decode cX8_meets 53 = .ok (.iconst 1, 1) := by decide +kernel
theorem dX8_meets_54 : decode cX8_meets 54 = .ok (.goto 4, 3) := by decide +kernel
theorem dX8_joined_0 : decode cX8_joined 0 = .ok (.aload_n 0, 1) := by decide +kernel
theorem dX8_joined_1 : decode cX8_joined 1 = .ok (.getfield 38, 3) := by decide +kernel
theorem dX8_joined_4 : decode cX8_joined 4 = .ok (.getfield 160, 3) := by decide +kernel
theorem dX8_joined_7 : decode cX8_joined 7 = .ok (.tableswitch 37 0 2 #[25, 29, 33], 25) := by decide +kernel
theorem dX8_joined_32 : decode cX8_joined 32 = .ok (.iload_n 1, 1) := by decide +kernel
theorem dX8_joined_33 : decode cX8_joined 33 = .ok (.iload_n 2, 1) := by decide +kernel
theorem dX8_joined_34 : decode cX8_joined 34 = .ok (.iadd, 1) := by decide +kernel
theorem dX8_joined_35 : decode cX8_joined 35 = .ok (.ireturn, 1) := by decide +kernel
theorem dX8_joined_36 : decode cX8_joined 36 = .ok (.iload_n 1, 1) := by decide +kernel
theorem dX8_joined_37 : decode cX8_joined 37 = .ok (.iload_n 2, 1) := by decide +kernel
theorem dX8_joined_38 : decode cX8_joined 38 = .ok (.isub, 1) := by decide +kernel
theorem dX8_joined_39 : decode cX8_joined 39 = .ok (.ireturn, 1) := by decide +kernel
theorem dX8_joined_40 : decode cX8_joined 40 = .ok (.iload_n 1, 1) := by decide +kernel
theorem dX8_joined_41 : decode cX8_joined 41 = .ok (.iload_n 2, 1) := by decide +kernel
theorem dX8_joined_42 : decode cX8_joined 42 = .ok (.imul, 1) := by decide +kernel
theorem dX8_joined_43 : decode cX8_joined 43 = .ok (.ireturn, 1) := by decide +kernel
theorem dX8_joined_44 : decode cX8_joined 44 = .ok (.iload_n 1, 1) := by decide +kernel
theorem dX8_joined_45 : decode cX8_joined 45 = .ok (.ireturn, 1) := by decide +kernel
theorem dX2_size_0 : decode cX2_size 0 = .ok (.aload_n 0, 1) := by decide +kernel
theorem dX2_size_1 : decode cX2_size 1 = .ok (.getfield 12, 3) := by decide +kernel
theorem dX2_size_4 : decode cX2_size 4 = .ok (.invokevirtual 29, 3) := by decide +kernel
theorem dX2_size_7 : decode cX2_size 7 = .ok (.ireturn, 1) := by decide +kernel
theorem dX2_at_0 : decode cX2_at 0 = .ok (.iload_n 1, 1) := by decide +kernel
theorem dX2_at_1 : decode cX2_at 1 = .ok (.ifCond .lt 28, 3) := by decide +kernel
theorem dX2_at_29 : decode cX2_at 29 = .ok (.aconst_null, 1) := by decide +kernel
theorem dX2_at_30 : decode cX2_at 30 = .ok (.areturn, 1) := by decide +kernel
theorem dX2_at_4 : decode cX2_at 4 = .ok (.iload_n 1, 1) := by decide +kernel
theorem dX2_at_5 : decode cX2_at 5 = .ok (.aload_n 0, 1) := by decide +kernel
theorem dX2_at_6 : decode cX2_at 6 = .ok (.getfield 12, 3) := by decide +kernel
theorem dX2_at_9 : decode cX2_at 9 = .ok (.invokevirtual 29, 3) := by decide +kernel
theorem dX2_at_12 : decode cX2_at 12 = .ok (.if_icmp .ge 17, 3) := by decide +kernel
theorem dX2_at_15 : decode cX2_at 15 = .ok (.aload_n 0, 1) := by decide +kernel
theorem dX2_at_16 : decode cX2_at 16 = .ok (.getfield 12, 3) := by decide +kernel
theorem dX2_at_19 : decode cX2_at 19 = .ok (.iload_n 1, 1) := by decide +kernel
theorem dX2_at_20 : decode cX2_at 20 = .ok (.invokevirtual 33, 3) := by decide +kernel
theorem dX2_at_23 : decode cX2_at 23 = .ok (.checkcast 37, 3) := by decide +kernel
theorem dX2_at_26 : decode cX2_at 26 = .ok (.goto 4, 3) := by decide +kernel
theorem dX2_channels_4 : decode cX2_channels 4 = .ok (.iload_n 2, 1) := by decide +kernel
theorem dX2_channels_5 : decode cX2_channels 5 = .ok (.aload_n 0, 1) := by decide +kernel
theorem dX2_channels_6 : decode cX2_channels 6 = .ok (.getfield 12, 3) := by decide +kernel
theorem dX2_channels_9 : decode cX2_channels 9 = .ok (.invokevirtual 29, 3) := by decide +kernel
theorem dX2_channels_12 : decode cX2_channels 12 = .ok (.if_icmp .ge 32, 3) := by decide +kernel
theorem dX2_channels_44 : decode cX2_channels 44 = .ok (.iload_n 1, 1) := by decide +kernel
theorem dX2_channels_45 : decode cX2_channels 45 = .ok (.ireturn, 1) := by decide +kernel
theorem dX2_channels_15 : decode cX2_channels 15 = .ok (.iload_n 1, 1) := by decide +kernel
theorem dX2_channels_16 : decode cX2_channels 16 = .ok (.aload_n 0, 1) := by decide +kernel
theorem dX2_channels_17 : decode cX2_channels 17 = .ok (.getfield 12, 3) := by decide +kernel
theorem dX2_channels_20 : decode cX2_channels 20 = .ok (.iload_n 2, 1) := by decide +kernel
theorem dX2_channels_21 : decode cX2_channels 21 = .ok (.invokevirtual 33, 3) := by decide +kernel
theorem dX2_channels_24 : decode cX2_channels 24 = .ok (.checkcast 37, 3) := by decide +kernel
theorem dX2_channels_27 : decode cX2_channels 27 = .ok (.getfield 62, 3) := by decide +kernel
theorem dX2_channels_30 : decode cX2_channels 30 = .ok (.getfield 72, 3) := by decide +kernel
theorem dX2_channels_33 : decode cX2_channels 33 = .ok (.invokevirtual 29, 3) := by decide +kernel
theorem dX2_channels_36 : decode cX2_channels 36 = .ok (.iadd, 1) := by decide +kernel
theorem dX2_channels_37 : decode cX2_channels 37 = .ok (.istore_n 1, 1) := by decide +kernel
theorem dX2_channels_38 : decode cX2_channels 38 = .ok (.iinc 2 1, 3) := by decide +kernel
theorem dX2_channels_41 : decode cX2_channels 41 = .ok (.goto (-37), 3) := by decide +kernel
theorem dX2_channels_0 : decode cX2_channels 0 = .ok (.iconst 0, 1) := by decide +kernel
theorem dX2_channels_1 : decode cX2_channels 1 = .ok (.istore_n 1, 1) := by decide +kernel
theorem dX2_channels_2 : decode cX2_channels 2 = .ok (.iconst 0, 1) := by decide +kernel
theorem dX2_channels_3 : decode cX2_channels 3 = .ok (.istore_n 2, 1) := by decide +kernel
theorem iX2 : ∀ w ∈ u_ws RX2 TX2 8, w ∈ lw_all := by
  intro w hw
  have h : w ∈ [(Jvm.Cond.laysFinal "WeirStream$Flow" "WeirStream$Flow" "isTrial" "Z"), (Jvm.Cond.laysFinal "WeirStream$Flow" "WeirStream$Flow" "stages" "Ljava/util/ArrayList;"), (Jvm.Cond.lays "WeirStream$Flow" "WeirStream$Flow" "capacity" "I"), (Jvm.Cond.lays "WeirStream$Flow" "WeirStream$Flow" "lastWorked" "I"), (Jvm.Cond.lays "WeirStream$Flow" "WeirStream$Flow" "begunCount" "I"), (Jvm.Cond.lays "WeirStream$Flow" "WeirStream$Flow" "begunNumber" "I"), (Jvm.Cond.lays "WeirStream$Flow" "WeirStream$Flow" "completeNumber" "I"), (Jvm.Cond.lays "WeirStream$Flow" "WeirStream$Flow" "unsaved" "I")] := hw
  simp only [List.mem_cons, List.not_mem_nil, or_false] at h
  rcases h with rfl | rfl | rfl | rfl | rfl | rfl | rfl | rfl
  · exact wq78
  · exact wq80
  · exact wq82
  · exact wq84
  · exact wq86
  · exact wq88
  · exact wq90
  · exact wq92
theorem dfX2 : ∀ j, j < 8 → defaultValue (tyX2 j) = vp_V [.int 0, .null, .int 0, .int 0, .int 0, .int 0, .int 0, .int 0] j := by
  intro j hj
  rcases (show j = 0 ∨ j = 1 ∨ j = 2 ∨ j = 3 ∨ j = 4 ∨ j = 5 ∨ j = 6 ∨ j = 7 by omega) with rfl | rfl | rfl | rfl | rfl | rfl | rfl | rfl <;> rfl
theorem iX5 : ∀ w ∈ u_ws RX5 TX5 15, w ∈ lw_all := by
  intro w hw
  have h : w ∈ [(Jvm.Cond.laysFinal "WeirStream$Plan" "WeirStream$Plan" "sort" "I"), (Jvm.Cond.laysFinal "WeirStream$Plan" "WeirStream$Plan" "first" "I"), (Jvm.Cond.laysFinal "WeirStream$Plan" "WeirStream$Plan" "second" "I"), (Jvm.Cond.lays "WeirStream$Plan" "WeirStream$Plan" "slack" "I"), (Jvm.Cond.lays "WeirStream$Plan" "WeirStream$Plan" "rule" "I"), (Jvm.Cond.lays "WeirStream$Plan" "WeirStream$Plan" "n" "I"), (Jvm.Cond.lays "WeirStream$Plan" "WeirStream$Plan" "size" "I"), (Jvm.Cond.lays "WeirStream$Plan" "WeirStream$Plan" "step" "I"), (Jvm.Cond.lays "WeirStream$Plan" "WeirStream$Plan" "lateness" "I"), (Jvm.Cond.lays "WeirStream$Plan" "WeirStream$Plan" "gap" "I"), (Jvm.Cond.lays "WeirStream$Plan" "WeirStream$Plan" "before" "I"), (Jvm.Cond.lays "WeirStream$Plan" "WeirStream$Plan" "after" "I"), (Jvm.Cond.lays "WeirStream$Plan" "WeirStream$Plan" "account" "I"), (Jvm.Cond.lays "WeirStream$Plan" "WeirStream$Plan" "depth" "I"), (Jvm.Cond.lays "WeirStream$Plan" "WeirStream$Plan" "upstream" "I")] := hw
  simp only [List.mem_cons, List.not_mem_nil, or_false] at h
  rcases h with rfl | rfl | rfl | rfl | rfl | rfl | rfl | rfl | rfl | rfl | rfl | rfl | rfl | rfl | rfl
  · exact wq863
  · exact wq865
  · exact wq867
  · exact wq869
  · exact wq871
  · exact wq873
  · exact wq875
  · exact wq877
  · exact wq879
  · exact wq881
  · exact wq883
  · exact wq885
  · exact wq887
  · exact wq889
  · exact wq891
theorem dfX5 : ∀ j, j < 15 → defaultValue (tyX5 j) = vp_V [.int 0, .int 0, .int 0, .int 0, .int 0, .int 0, .int 0, .int 0, .int 0, .int 0, .int 0, .int 0, .int 0, .int 0, .int 0] j := by
  intro j hj
  rcases (show j = 0 ∨ j = 1 ∨ j = 2 ∨ j = 3 ∨ j = 4 ∨ j = 5 ∨ j = 6 ∨ j = 7 ∨ j = 8 ∨ j = 9 ∨ j = 10 ∨ j = 11 ∨ j = 12 ∨ j = 13 ∨ j = 14 by omega) with rfl | rfl | rfl | rfl | rfl | rfl | rfl | rfl | rfl | rfl | rfl | rfl | rfl | rfl | rfl <;> rfl
theorem iX8 : ∀ w ∈ u_ws RX8 TX8 12, w ∈ lw_all := by
  intro w hw
  have h : w ∈ [(Jvm.Cond.laysFinal "WeirStream$Stage" "WeirStream$Stage" "plan" "LWeirStream$Plan;"), (Jvm.Cond.laysFinal "WeirStream$Stage" "WeirStream$Stage" "log" "LWeirStream$Row;"), (Jvm.Cond.laysFinal "WeirStream$Stage" "WeirStream$Stage" "first" "LWeirStream$Channel;"), (Jvm.Cond.laysFinal "WeirStream$Stage" "WeirStream$Stage" "second" "LWeirStream$Channel;"), (Jvm.Cond.laysFinal "WeirStream$Stage" "WeirStream$Stage" "isTrial" "Z"), (Jvm.Cond.laysFinal "WeirStream$Stage" "WeirStream$Stage" "outlet" "LWeirStream$Outlet;"), (Jvm.Cond.laysFinal "WeirStream$Stage" "WeirStream$Stage" "output" "LWeirStream$Row;"), (Jvm.Cond.laysFinal "WeirStream$Stage" "WeirStream$Stage" "now" "LWeirStream$State;"), (Jvm.Cond.lays "WeirStream$Stage" "WeirStream$Stage" "latest" "LWeirStream$State;"), (Jvm.Cond.lays "WeirStream$Stage" "WeirStream$Stage" "coming" "LWeirStream$State;"), (Jvm.Cond.lays "WeirStream$Stage" "WeirStream$Stage" "isClosed" "Z"), (Jvm.Cond.lays "WeirStream$Stage" "WeirStream$Stage" "owesBarrier" "Z")] := hw
  simp only [List.mem_cons, List.not_mem_nil, or_false] at h
  rcases h with rfl | rfl | rfl | rfl | rfl | rfl | rfl | rfl | rfl | rfl | rfl | rfl
  · exact wq1129
  · exact wq1131
  · exact wq1133
  · exact wq1135
  · exact wq1137
  · exact wq1139
  · exact wq1141
  · exact wq1143
  · exact wq1145
  · exact wq1147
  · exact wq1149
  · exact wq1151
theorem dfX8 : ∀ j, j < 12 → defaultValue (tyX8 j) = vp_V [.null, .null, .null, .null, .int 0, .null, .null, .null, .null, .null, .int 0, .int 0] j := by
  intro j hj
  rcases (show j = 0 ∨ j = 1 ∨ j = 2 ∨ j = 3 ∨ j = 4 ∨ j = 5 ∨ j = 6 ∨ j = 7 ∨ j = 8 ∨ j = 9 ∨ j = 10 ∨ j = 11 by omega) with rfl | rfl | rfl | rfl | rfl | rfl | rfl | rfl | rfl | rfl | rfl | rfl <;> rfl
