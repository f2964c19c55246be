theorem wq1 : (Jvm.Cond.initialized "WeirStream") ∈ lw_all := lw_in (lw_tb (List.mem_of_getElem? (i := 1) (by decide +kernel))) rfl
theorem wq2 : (Jvm.Cond.initialized "WeirStream$Flow") ∈ lw_all := lw_in (lw_tb (List.mem_of_getElem? (i := 2) (by decide +kernel))) rfl
theorem wq22 : (Jvm.Cond.initialized "WeirStream$State") ∈ lw_all := lw_in (lw_tb (List.mem_of_getElem? (i := 22) (by decide +kernel))) rfl
theorem wq69 : (Jvm.Cond.fieldLink "WeirStream$Flow" (18 : Nat) "WeirStream$Flow" "capacity" "I") ∈ lw_all := lw_in (lw_tb (List.mem_of_getElem? (i := 69) (by decide +kernel))) rfl
theorem wq71 : (Jvm.Cond.fieldLink "WeirStream$Flow" (22 : Nat) "WeirStream$Flow" "lastWorked" "I") ∈ lw_all := lw_in (lw_tb (List.mem_of_getElem? (i := 71) (by decide +kernel))) rfl
theorem wq95 : (Jvm.Cond.fieldLink "WeirStream" (12 : Nat) "WeirStream" "live" "LWeirStream$Flow;") ∈ lw_all := lw_in (lw_tb (List.mem_of_getElem? (i := 95) (by decide +kernel))) rfl
theorem wq97 : (Jvm.Cond.fieldLink "WeirStream" (84 : Nat) "WeirStream" "hasStarted" "Z") ∈ lw_all := lw_in (lw_tb (List.mem_of_getElem? (i := 97) (by decide +kernel))) rfl
theorem wq98 : (Jvm.Cond.fieldLink "WeirStream" (151 : Nat) "WeirStream" "crashCount" "I") ∈ lw_all := lw_in (lw_tb (List.mem_of_getElem? (i := 98) (by decide +kernel))) rfl
theorem wq99 : (Jvm.Cond.fieldLink "WeirStream" (139 : Nat) "WeirStream" "workedCount" "I") ∈ lw_all := lw_in (lw_tb (List.mem_of_getElem? (i := 99) (by decide +kernel))) rfl
theorem wq100 : (Jvm.Cond.laysFinal "WeirStream" "WeirStream" "live" "LWeirStream$Flow;") ∈ lw_all := lw_in (lw_tb (List.mem_of_getElem? (i := 100) (by decide +kernel))) rfl
theorem wq102 : (Jvm.Cond.laysFinal "WeirStream" "WeirStream" "trial" "LWeirStream$Flow;") ∈ lw_all := lw_in (lw_tb (List.mem_of_getElem? (i := 102) (by decide +kernel))) rfl
theorem wq104 : (Jvm.Cond.lays "WeirStream" "WeirStream" "hasStarted" "Z") ∈ lw_all := lw_in (lw_tb (List.mem_of_getElem? (i := 104) (by decide +kernel))) rfl
theorem wq106 : (Jvm.Cond.lays "WeirStream" "WeirStream" "crashCount" "I") ∈ lw_all := lw_in (lw_tb (List.mem_of_getElem? (i := 106) (by decide +kernel))) rfl
theorem wq108 : (Jvm.Cond.lays "WeirStream" "WeirStream" "workedCount" "I") ∈ lw_all := lw_in (lw_tb (List.mem_of_getElem? (i := 108) (by decide +kernel))) rfl
theorem wq115 : (Jvm.Cond.methodLink "WeirStream" (88 : Nat) ({ cls := "WeirStream$Flow", name := "size", desc := "()I" } : Jvm.MethodName)) ∈ lw_all := lw_in (lw_tb (List.mem_of_getElem? (i := 115) (by decide +kernel))) rfl
theorem wq116 : (Jvm.Cond.instanceMethod ({ cls := "WeirStream$Flow", name := "size", desc := "()I" } : Jvm.MethodName)) ∈ lw_all := lw_in (lw_tb (List.mem_of_getElem? (i := 116) (by decide +kernel))) rfl
theorem wq117 : (Jvm.Cond.selects "WeirStream$Flow" ({ cls := "WeirStream$Flow", name := "size", desc := "()I" } : Jvm.MethodName) ({ cls := "WeirStream$Flow", name := "size", desc := "()I" } : Jvm.MethodName)) ∈ lw_all := lw_in (lw_tb (List.mem_of_getElem? (i := 117) (by decide +kernel))) rfl
theorem wq118 : (Jvm.Cond.code ({ cls := "WeirStream$Flow", name := "size", desc := "()I" } : Jvm.MethodName) prog_4_method_2_code (1 : Nat) (Option.some Jvm.ClassFile.FieldType.int)) ∈ lw_all := lw_in (lw_tb (List.mem_of_getElem? (i := 118) (by decide +kernel))) rfl
theorem wq193 : (Jvm.Cond.methodLink "WeirStream" (25 : Nat) ({ cls := "WeirStream", name := "refuseUnless", desc := "(Z)V" } : Jvm.MethodName)) ∈ lw_all := lw_in (lw_tb (List.mem_of_getElem? (i := 193) (by decide +kernel))) rfl
theorem wq194 : (Jvm.Cond.static ({ cls := "WeirStream", name := "refuseUnless", desc := "(Z)V" } : Jvm.MethodName)) ∈ lw_all := lw_in (lw_tb (List.mem_of_getElem? (i := 194) (by decide +kernel))) rfl
theorem wq195 : (Jvm.Cond.code ({ cls := "WeirStream", name := "refuseUnless", desc := "(Z)V" } : Jvm.MethodName) prog_1_method_55_code (1 : Nat) (Option.none : Option Jvm.ClassFile.FieldType)) ∈ lw_all := lw_in (lw_tb (List.mem_of_getElem? (i := 195) (by decide +kernel))) rfl
theorem wq215 : (Jvm.Cond.methodLink "WeirStream" (97 : Nat) ({ cls := "WeirStream", name := "sourceOf", desc := "(I)LWeirStream$Stage;" } : Jvm.MethodName)) ∈ lw_all := lw_in (lw_tb (List.mem_of_getElem? (i := 215) (by decide +kernel))) rfl
theorem wq217 : (Jvm.Cond.instanceMethod ({ cls := "WeirStream", name := "sourceOf", desc := "(I)LWeirStream$Stage;" } : Jvm.MethodName)) ∈ lw_all := lw_in (lw_tb (List.mem_of_getElem? (i := 217) (by decide +kernel))) rfl
theorem wq218 : (Jvm.Cond.code ({ cls := "WeirStream", name := "sourceOf", desc := "(I)LWeirStream$Stage;" } : Jvm.MethodName) prog_1_method_60_code (3 : Nat) (Option.some (Jvm.ClassFile.FieldType.object "WeirStream$Stage"))) ∈ lw_all := lw_in (lw_tb (List.mem_of_getElem? (i := 218) (by decide +kernel))) rfl
theorem wq219 : (Jvm.Cond.methodLink "WeirStream" (44 : Nat) ({ cls := "WeirStream", name := "stageOf", desc := "(I)LWeirStream$Stage;" } : Jvm.MethodName)) ∈ lw_all := lw_in (lw_tb (List.mem_of_getElem? (i := 219) (by decide +kernel))) rfl
theorem wq221 : (Jvm.Cond.instanceMethod ({ cls := "WeirStream", name := "stageOf", desc := "(I)LWeirStream$Stage;" } : Jvm.MethodName)) ∈ lw_all := lw_in (lw_tb (List.mem_of_getElem? (i := 221) (by decide +kernel))) rfl
theorem wq222 : (Jvm.Cond.code ({ cls := "WeirStream", name := "stageOf", desc := "(I)LWeirStream$Stage;" } : Jvm.MethodName) prog_1_method_59_code (3 : Nat) (Option.some (Jvm.ClassFile.FieldType.object "WeirStream$Stage"))) ∈ lw_all := lw_in (lw_tb (List.mem_of_getElem? (i := 222) (by decide +kernel))) rfl
theorem wq223 : (Jvm.Cond.methodLink "WeirStream" (270 : Nat) ({ cls := "WeirStream$Flow", name := "at", desc := "(I)LWeirStream$Stage;" } : Jvm.MethodName)) ∈ lw_all := lw_in (lw_tb (List.mem_of_getElem? (i := 223) (by decide +kernel))) rfl
theorem wq224 : (Jvm.Cond.instanceMethod ({ cls := "WeirStream$Flow", name := "at", desc := "(I)LWeirStream$Stage;" } : Jvm.MethodName)) ∈ lw_all := lw_in (lw_tb (List.mem_of_getElem? (i := 224) (by decide +kernel))) rfl
theorem wq225 : (Jvm.Cond.selects "WeirStream$Flow" ({ cls := "WeirStream$Flow", name := "at", desc := "(I)LWeirStream$Stage;" } : Jvm.MethodName) ({ cls := "WeirStream$Flow", name := "at", desc := "(I)LWeirStream$Stage;" } : Jvm.MethodName)) ∈ lw_all := lw_in (lw_tb (List.mem_of_getElem? (i := 225) (by decide +kernel))) rfl
theorem wq226 : (Jvm.Cond.code ({ cls := "WeirStream$Flow", name := "at", desc := "(I)LWeirStream$Stage;" } : Jvm.MethodName) prog_4_method_3_code (2 : Nat) (Option.some (Jvm.ClassFile.FieldType.object "WeirStream$Stage"))) ∈ lw_all := lw_in (lw_tb (List.mem_of_getElem? (i := 226) (by decide +kernel))) rfl
theorem wq261 : (Jvm.Cond.methodLink "WeirStream" (127 : Nat) ({ cls := "WeirStream$Stage", name := "unread", desc := "()I" } : Jvm.MethodName)) ∈ lw_all := lw_in (lw_tb (List.mem_of_getElem? (i := 261) (by decide +kernel))) rfl
theorem wq277 : (Jvm.Cond.methodLink "WeirStream" (133 : Nat) ({ cls := "WeirStream$Flow", name := "nextToWork", desc := "()I" } : Jvm.MethodName)) ∈ lw_all := lw_in (lw_tb (List.mem_of_getElem? (i := 277) (by decide +kernel))) rfl
theorem wq278 : (Jvm.Cond.instanceMethod ({ cls := "WeirStream$Flow", name := "nextToWork", desc := "()I" } : Jvm.MethodName)) ∈ lw_all := lw_in (lw_tb (List.mem_of_getElem? (i := 278) (by decide +kernel))) rfl
theorem wq279 : (Jvm.Cond.selects "WeirStream$Flow" ({ cls := "WeirStream$Flow", name := "nextToWork", desc := "()I" } : Jvm.MethodName) ({ cls := "WeirStream$Flow", name := "nextToWork", desc := "()I" } : Jvm.MethodName)) ∈ lw_all := lw_in (lw_tb (List.mem_of_getElem? (i := 279) (by decide +kernel))) rfl
theorem wq280 : (Jvm.Cond.code ({ cls := "WeirStream$Flow", name := "nextToWork", desc := "()I" } : Jvm.MethodName) prog_4_method_8_code (5 : Nat) (Option.some Jvm.ClassFile.FieldType.int)) ∈ lw_all := lw_in (lw_tb (List.mem_of_getElem? (i := 280) (by decide +kernel))) rfl
theorem wq281 : (Jvm.Cond.methodLink "WeirStream$Flow" (58 : Nat) ({ cls := "WeirStream$Flow", name := "at", desc := "(I)LWeirStream$Stage;" } : Jvm.MethodName)) ∈ lw_all := lw_in (lw_tb (List.mem_of_getElem? (i := 281) (by decide +kernel))) rfl
theorem wq282 : (Jvm.Cond.methodLink "WeirStream$Flow" (85 : Nat) ({ cls := "WeirStream$Stage", name := "canWork", desc := "(I)Z" } : Jvm.MethodName)) ∈ lw_all := lw_in (lw_tb (List.mem_of_getElem? (i := 282) (by decide +kernel))) rfl
theorem wq283 : (Jvm.Cond.instanceMethod ({ cls := "WeirStream$Stage", name := "canWork", desc := "(I)Z" } : Jvm.MethodName)) ∈ lw_all := lw_in (lw_tb (List.mem_of_getElem? (i := 283) (by decide +kernel))) rfl
theorem wq284 : (Jvm.Cond.selects "WeirStream$Stage" ({ cls := "WeirStream$Stage", name := "canWork", desc := "(I)Z" } : Jvm.MethodName) ({ cls := "WeirStream$Stage", name := "canWork", desc := "(I)Z" } : Jvm.MethodName)) ∈ lw_all := lw_in (lw_tb (List.mem_of_getElem? (i := 284) (by decide +kernel))) rfl
theorem wq285 : (Jvm.Cond.code ({ cls := "WeirStream$Stage", name := "canWork", desc := "(I)Z" } : Jvm.MethodName) prog_10_method_4_code (2 : Nat) (Option.some Jvm.ClassFile.FieldType.boolean)) ∈ lw_all := lw_in (lw_tb (List.mem_of_getElem? (i := 285) (by decide +kernel))) rfl
theorem wq409 : (Jvm.Cond.instanceMethod ({ cls := "WeirStream$Spans", name := "firstEndingAbove", desc := "(I)I" } : Jvm.MethodName)) ∈ lw_all := lw_in (lw_tb (List.mem_of_getElem? (i := 409) (by decide +kernel))) rfl
theorem wq410 : (Jvm.Cond.selects "WeirStream$Spans" ({ cls := "WeirStream$Spans", name := "firstEndingAbove", desc := "(I)I" } : Jvm.MethodName) ({ cls := "WeirStream$Spans", name := "firstEndingAbove", desc := "(I)I" } : Jvm.MethodName)) ∈ lw_all := lw_in (lw_tb (List.mem_of_getElem? (i := 410) (by decide +kernel))) rfl
theorem wq411 : (Jvm.Cond.code ({ cls := "WeirStream$Spans", name := "firstEndingAbove", desc := "(I)I" } : Jvm.MethodName) prog_9_method_9_code (2 : Nat) (Option.some Jvm.ClassFile.FieldType.int)) ∈ lw_all := lw_in (lw_tb (List.mem_of_getElem? (i := 411) (by decide +kernel))) rfl
theorem wq441 : (Jvm.Cond.instanceMethod ({ cls := "WeirStream$Spans", name := "endAt", desc := "(I)I" } : Jvm.MethodName)) ∈ lw_all := lw_in (lw_tb (List.mem_of_getElem? (i := 441) (by decide +kernel))) rfl
theorem wq442 : (Jvm.Cond.selects "WeirStream$Spans" ({ cls := "WeirStream$Spans", name := "endAt", desc := "(I)I" } : Jvm.MethodName) ({ cls := "WeirStream$Spans", name := "endAt", desc := "(I)I" } : Jvm.MethodName)) ∈ lw_all := lw_in (lw_tb (List.mem_of_getElem? (i := 442) (by decide +kernel))) rfl
theorem wq443 : (Jvm.Cond.code ({ cls := "WeirStream$Spans", name := "endAt", desc := "(I)I" } : Jvm.MethodName) prog_9_method_4_code (2 : Nat) (Option.some Jvm.ClassFile.FieldType.int)) ∈ lw_all := lw_in (lw_tb (List.mem_of_getElem? (i := 443) (by decide +kernel))) rfl
theorem wq466 : (Jvm.Cond.instanceMethod ({ cls := "WeirStream$Stage", name := "channel", desc := "(Z)LWeirStream$Channel;" } : Jvm.MethodName)) ∈ lw_all := lw_in (lw_tb (List.mem_of_getElem? (i := 466) (by decide +kernel))) rfl
theorem wq467 : (Jvm.Cond.selects "WeirStream$Stage" ({ cls := "WeirStream$Stage", name := "channel", desc := "(Z)LWeirStream$Channel;" } : Jvm.MethodName) ({ cls := "WeirStream$Stage", name := "channel", desc := "(Z)LWeirStream$Channel;" } : Jvm.MethodName)) ∈ lw_all := lw_in (lw_tb (List.mem_of_getElem? (i := 467) (by decide +kernel))) rfl
theorem wq468 : (Jvm.Cond.code ({ cls := "WeirStream$Stage", name := "channel", desc := "(Z)LWeirStream$Channel;" } : Jvm.MethodName) prog_10_method_2_code (2 : Nat) (Option.some (Jvm.ClassFile.FieldType.object "WeirStream$Channel"))) ∈ lw_all := lw_in (lw_tb (List.mem_of_getElem? (i := 468) (by decide +kernel))) rfl
theorem wq592 : (Jvm.Cond.methodLink "WeirStream" (142 : Nat) ({ cls := "WeirStream$Stage", name := "canWork", desc := "(I)Z" } : Jvm.MethodName)) ∈ lw_all := lw_in (lw_tb (List.mem_of_getElem? (i := 592) (by decide +kernel))) rfl
theorem wq643 : (Jvm.Cond.methodLink "WeirStream" (175 : Nat) ({ cls := "WeirStream$State", name := "keptCount", desc := "()I" } : Jvm.MethodName)) ∈ lw_all := lw_in (lw_tb (List.mem_of_getElem? (i := 643) (by decide +kernel))) rfl
theorem wq644 : (Jvm.Cond.instanceMethod ({ cls := "WeirStream$State", name := "keptCount", desc := "()I" } : Jvm.MethodName)) ∈ lw_all := lw_in (lw_tb (List.mem_of_getElem? (i := 644) (by decide +kernel))) rfl
theorem wq645 : (Jvm.Cond.selects "WeirStream$State" ({ cls := "WeirStream$State", name := "keptCount", desc := "()I" } : Jvm.MethodName) ({ cls := "WeirStream$State", name := "keptCount", desc := "()I" } : Jvm.MethodName)) ∈ lw_all := lw_in (lw_tb (List.mem_of_getElem? (i := 645) (by decide +kernel))) rfl
theorem wq646 : (Jvm.Cond.code ({ cls := "WeirStream$State", name := "keptCount", desc := "()I" } : Jvm.MethodName) prog_11_method_2_code (1 : Nat) (Option.some Jvm.ClassFile.FieldType.int)) ∈ lw_all := lw_in (lw_tb (List.mem_of_getElem? (i := 646) (by decide +kernel))) rfl
theorem wq657 : (Jvm.Cond.methodLink "WeirStream" (187 : Nat) ({ cls := "WeirStream$Stage", name := "channel", desc := "(Z)LWeirStream$Channel;" } : Jvm.MethodName)) ∈ lw_all := lw_in (lw_tb (List.mem_of_getElem? (i := 657) (by decide +kernel))) rfl
theorem wq662 : (Jvm.Cond.methodLink "WeirStream" (234 : Nat) ({ cls := "WeirStream", name := "sinkOf", desc := "(I)LWeirStream$Stage;" } : Jvm.MethodName)) ∈ lw_all := lw_in (lw_tb (List.mem_of_getElem? (i := 662) (by decide +kernel))) rfl
theorem wq664 : (Jvm.Cond.instanceMethod ({ cls := "WeirStream", name := "sinkOf", desc := "(I)LWeirStream$Stage;" } : Jvm.MethodName)) ∈ lw_all := lw_in (lw_tb (List.mem_of_getElem? (i := 664) (by decide +kernel))) rfl
theorem wq665 : (Jvm.Cond.code ({ cls := "WeirStream", name := "sinkOf", desc := "(I)LWeirStream$Stage;" } : Jvm.MethodName) prog_1_method_62_code (3 : Nat) (Option.some (Jvm.ClassFile.FieldType.object "WeirStream$Stage"))) ∈ lw_all := lw_in (lw_tb (List.mem_of_getElem? (i := 665) (by decide +kernel))) rfl
theorem wq678 : (Jvm.Cond.methodLink "WeirStream" (260 : Nat) ({ cls := "WeirStream$Flow", name := "waiting", desc := "()I" } : Jvm.MethodName)) ∈ lw_all := lw_in (lw_tb (List.mem_of_getElem? (i := 678) (by decide +kernel))) rfl
theorem wq679 : (Jvm.Cond.instanceMethod ({ cls := "WeirStream$Flow", name := "waiting", desc := "()I" } : Jvm.MethodName)) ∈ lw_all := lw_in (lw_tb (List.mem_of_getElem? (i := 679) (by decide +kernel))) rfl
theorem wq680 : (Jvm.Cond.selects "WeirStream$Flow" ({ cls := "WeirStream$Flow", name := "waiting", desc := "()I" } : Jvm.MethodName) ({ cls := "WeirStream$Flow", name := "waiting", desc := "()I" } : Jvm.MethodName)) ∈ lw_all := lw_in (lw_tb (List.mem_of_getElem? (i := 680) (by decide +kernel))) rfl
theorem wq681 : (Jvm.Cond.code ({ cls := "WeirStream$Flow", name := "waiting", desc := "()I" } : Jvm.MethodName) prog_4_method_7_code (4 : Nat) (Option.some Jvm.ClassFile.FieldType.int)) ∈ lw_all := lw_in (lw_tb (List.mem_of_getElem? (i := 681) (by decide +kernel))) rfl
theorem wq682 : (Jvm.Cond.methodLink "WeirStream$Flow" (78 : Nat) ({ cls := "WeirStream$Channel", name := "length", desc := "()I" } : Jvm.MethodName)) ∈ lw_all := lw_in (lw_tb (List.mem_of_getElem? (i := 682) (by decide +kernel))) rfl
theorem wq758 : (Jvm.Cond.methodLink "WeirStream" (182 : Nat) ({ cls := "WeirStream$Outlet", name := "isBelow", desc := "(I)Z" } : Jvm.MethodName)) ∈ lw_all := lw_in (lw_tb (List.mem_of_getElem? (i := 758) (by decide +kernel))) rfl
theorem wq763 : (Jvm.Cond.methodLink "WeirStream" (191 : Nat) ({ cls := "WeirStream$Channel", name := "length", desc := "()I" } : Jvm.MethodName)) ∈ lw_all := lw_in (lw_tb (List.mem_of_getElem? (i := 763) (by decide +kernel))) rfl
theorem wq773 : (Jvm.Cond.methodLink "WeirStream" (203 : Nat) ({ cls := "WeirStream", name := "spanStageOf", desc := "(I)LWeirStream$Stage;" } : Jvm.MethodName)) ∈ lw_all := lw_in (lw_tb (List.mem_of_getElem? (i := 773) (by decide +kernel))) rfl
theorem wq775 : (Jvm.Cond.instanceMethod ({ cls := "WeirStream", name := "spanStageOf", desc := "(I)LWeirStream$Stage;" } : Jvm.MethodName)) ∈ lw_all := lw_in (lw_tb (List.mem_of_getElem? (i := 775) (by decide +kernel))) rfl
theorem wq776 : (Jvm.Cond.code ({ cls := "WeirStream", name := "spanStageOf", desc := "(I)LWeirStream$Stage;" } : Jvm.MethodName) prog_1_method_61_code (3 : Nat) (Option.some (Jvm.ClassFile.FieldType.object "WeirStream$Stage"))) ∈ lw_all := lw_in (lw_tb (List.mem_of_getElem? (i := 776) (by decide +kernel))) rfl
theorem wq777 : (Jvm.Cond.methodLink "WeirStream" (226 : Nat) ({ cls := "WeirStream$Spans", name := "firstEndingAbove", desc := "(I)I" } : Jvm.MethodName)) ∈ lw_all := lw_in (lw_tb (List.mem_of_getElem? (i := 777) (by decide +kernel))) rfl
theorem wq778 : (Jvm.Cond.methodLink "WeirStream" (230 : Nat) ({ cls := "WeirStream$Spans", name := "length", desc := "()I" } : Jvm.MethodName)) ∈ lw_all := lw_in (lw_tb (List.mem_of_getElem? (i := 778) (by decide +kernel))) rfl
theorem wq779 : (Jvm.Cond.methodLink "WeirStream" (231 : Nat) ({ cls := "WeirStream$Spans", name := "endAt", desc := "(I)I" } : Jvm.MethodName)) ∈ lw_all := lw_in (lw_tb (List.mem_of_getElem? (i := 779) (by decide +kernel))) rfl
theorem wq790 : (Jvm.Cond.methodLink "WeirStream" (363 : Nat) ({ cls := "WeirStream$Row", name := "at", desc := "(I)J" } : Jvm.MethodName)) ∈ lw_all := lw_in (lw_tb (List.mem_of_getElem? (i := 790) (by decide +kernel))) rfl
theorem wq1201 : (Jvm.Cond.methodLink "WeirStream" (263 : Nat) ({ cls := "WeirStream$Flow", name := "channels", desc := "()I" } : Jvm.MethodName)) ∈ lw_all := lw_in (lw_tb (List.mem_of_getElem? (i := 1201) (by decide +kernel))) rfl
theorem wq1202 : (Jvm.Cond.instanceMethod ({ cls := "WeirStream$Flow", name := "channels", desc := "()I" } : Jvm.MethodName)) ∈ lw_all := lw_in (lw_tb (List.mem_of_getElem? (i := 1202) (by decide +kernel))) rfl
theorem wq1203 : (Jvm.Cond.selects "WeirStream$Flow" ({ cls := "WeirStream$Flow", name := "channels", desc := "()I" } : Jvm.MethodName) ({ cls := "WeirStream$Flow", name := "channels", desc := "()I" } : Jvm.MethodName)) ∈ lw_all := lw_in (lw_tb (List.mem_of_getElem? (i := 1203) (by decide +kernel))) rfl
theorem wq1204 : (Jvm.Cond.code ({ cls := "WeirStream$Flow", name := "channels", desc := "()I" } : Jvm.MethodName) prog_4_method_6_code (3 : Nat) (Option.some Jvm.ClassFile.FieldType.int)) ∈ lw_all := lw_in (lw_tb (List.mem_of_getElem? (i := 1204) (by decide +kernel))) rfl
theorem wr70 : (Jvm.Cond.fieldLinkNest "WeirStream" (94 : Nat) "WeirStream$Flow" "capacity" "I" "WeirStream") ∈ lw_tbl := lw_tb (List.mem_of_getElem? (i := 70) (by decide +kernel))
theorem wr74 : (Jvm.Cond.fieldLinkNest "WeirStream" (145 : Nat) "WeirStream$Flow" "begunNumber" "I" "WeirStream") ∈ lw_tbl := lw_tb (List.mem_of_getElem? (i := 74) (by decide +kernel))
theorem wr76 : (Jvm.Cond.fieldLinkNest "WeirStream" (257 : Nat) "WeirStream$Flow" "completeNumber" "I" "WeirStream") ∈ lw_tbl := lw_tb (List.mem_of_getElem? (i := 76) (by decide +kernel))
theorem wr831 : (Jvm.Cond.fieldLinkNest "WeirStream" (54 : Nat) "WeirStream$Plan" "sort" "I" "WeirStream") ∈ lw_tbl := lw_tb (List.mem_of_getElem? (i := 831) (by decide +kernel))
theorem wr861 : (Jvm.Cond.fieldLinkNest "WeirStream" (200 : Nat) "WeirStream$Plan" "depth" "I" "WeirStream") ∈ lw_tbl := lw_tb (List.mem_of_getElem? (i := 861) (by decide +kernel))
theorem wr943 : (Jvm.Cond.fieldLinkNest "WeirStream" (194 : Nat) "WeirStream$Channel" "isShut" "Z" "WeirStream") ∈ lw_tbl := lw_tb (List.mem_of_getElem? (i := 943) (by decide +kernel))
theorem wr1053 : (Jvm.Cond.fieldLinkNest "WeirStream" (161 : Nat) "WeirStream$State" "mark" "I" "WeirStream") ∈ lw_tbl := lw_tb (List.mem_of_getElem? (i := 1053) (by decide +kernel))
theorem wr1063 : (Jvm.Cond.fieldLinkNest "WeirStream" (166 : Nat) "WeirStream$State" "taken" "I" "WeirStream") ∈ lw_tbl := lw_tb (List.mem_of_getElem? (i := 1063) (by decide +kernel))
theorem wr1066 : (Jvm.Cond.fieldLinkNest "WeirStream" (169 : Nat) "WeirStream$State" "emitted" "I" "WeirStream") ∈ lw_tbl := lw_tb (List.mem_of_getElem? (i := 1066) (by decide +kernel))
theorem wr1069 : (Jvm.Cond.fieldLinkNest "WeirStream" (172 : Nat) "WeirStream$State" "late" "I" "WeirStream") ∈ lw_tbl := lw_tb (List.mem_of_getElem? (i := 1069) (by decide +kernel))
theorem wr1072 : (Jvm.Cond.fieldLinkNest "WeirStream" (237 : Nat) "WeirStream$State" "outputCount" "I" "WeirStream") ∈ lw_tbl := lw_tb (List.mem_of_getElem? (i := 1072) (by decide +kernel))
theorem wr1075 : (Jvm.Cond.fieldLinkNest "WeirStream" (206 : Nat) "WeirStream$State" "spans" "LWeirStream$Spans;" "WeirStream") ∈ lw_tbl := lw_tb (List.mem_of_getElem? (i := 1075) (by decide +kernel))
theorem wr1104 : (Jvm.Cond.fieldLinkNest "WeirStream" (48 : Nat) "WeirStream$Stage" "plan" "LWeirStream$Plan;" "WeirStream") ∈ lw_tbl := lw_tb (List.mem_of_getElem? (i := 1104) (by decide +kernel))
theorem wr1109 : (Jvm.Cond.fieldLinkNest "WeirStream$Flow" (75 : Nat) "WeirStream$Stage" "first" "LWeirStream$Channel;" "WeirStream") ∈ lw_tbl := lw_tb (List.mem_of_getElem? (i := 1109) (by decide +kernel))
theorem wr1111 : (Jvm.Cond.fieldLinkNest "WeirStream$Flow" (83 : Nat) "WeirStream$Stage" "second" "LWeirStream$Channel;" "WeirStream") ∈ lw_tbl := lw_tb (List.mem_of_getElem? (i := 1111) (by decide +kernel))
theorem wr1115 : (Jvm.Cond.fieldLinkNest "WeirStream" (178 : Nat) "WeirStream$Stage" "outlet" "LWeirStream$Outlet;" "WeirStream") ∈ lw_tbl := lw_tb (List.mem_of_getElem? (i := 1115) (by decide +kernel))
theorem wr1117 : (Jvm.Cond.fieldLinkNest "WeirStream" (360 : Nat) "WeirStream$Stage" "output" "LWeirStream$Row;" "WeirStream") ∈ lw_tbl := lw_tb (List.mem_of_getElem? (i := 1117) (by decide +kernel))
theorem wr1120 : (Jvm.Cond.fieldLinkNest "WeirStream" (157 : Nat) "WeirStream$Stage" "now" "LWeirStream$State;" "WeirStream") ∈ lw_tbl := lw_tb (List.mem_of_getElem? (i := 1120) (by decide +kernel))
theorem wr1122 : (Jvm.Cond.fieldLinkNest "WeirStream" (240 : Nat) "WeirStream$Stage" "latest" "LWeirStream$State;" "WeirStream") ∈ lw_tbl := lw_tb (List.mem_of_getElem? (i := 1122) (by decide +kernel))
theorem ws1 : Cond.selects "WeirStream" ⟨"WeirStream", "sourceOf", "(I)LWeirStream$Stage;"⟩ ⟨"WeirStream", "sourceOf", "(I)LWeirStream$Stage;"⟩ ∈ lw_all := lw_in (lw_ps (List.mem_of_getElem? (i := 1) (by decide +kernel))) rfl
theorem ws2 : Cond.selects "WeirStream" ⟨"WeirStream", "stageOf", "(I)LWeirStream$Stage;"⟩ ⟨"WeirStream", "stageOf", "(I)LWeirStream$Stage;"⟩ ∈ lw_all := lw_in (lw_ps (List.mem_of_getElem? (i := 2) (by decide +kernel))) rfl
theorem ws20 : Cond.selects "WeirStream" ⟨"WeirStream", "sinkOf", "(I)LWeirStream$Stage;"⟩ ⟨"WeirStream", "sinkOf", "(I)LWeirStream$Stage;"⟩ ∈ lw_all := lw_in (lw_ps (List.mem_of_getElem? (i := 20) (by decide +kernel))) rfl
theorem ws22 : Cond.selects "WeirStream" ⟨"WeirStream", "spanStageOf", "(I)LWeirStream$Stage;"⟩ ⟨"WeirStream", "spanStageOf", "(I)LWeirStream$Stage;"⟩ ∈ lw_all := lw_in (lw_ps (List.mem_of_getElem? (i := 22) (by decide +kernel))) rfl
theorem dX2_waiting_4 : decode cX2_waiting 4 = .ok (.iload_n 2, 1) := by decide +kernel
theorem dX2_waiting_5 : decode cX2_waiting 5 = .ok (.aload_n 0, 1) := by decide +kernel
theorem dX2_waiting_6 : decode cX2_waiting 6 = .ok (.getfield 12, 3) := by decide +kernel
theorem dX2_waiting_9 : decode cX2_waiting 9 = .ok (.invokevirtual 29, 3) := by decide +kernel
theorem dX2_waiting_12 : decode cX2_waiting 12 = .ok (.if_icmp .ge 63, 3) := by decide +kernel
theorem dX2_waiting_75 : decode cX2_waiting 75 = .ok (.iload_n 1, 1) := by decide +kernel
theorem dX2_waiting_76 : decode cX2_waiting 76 = .ok (.ireturn, 1) := by decide +kernel
theorem dX2_waiting_15 : decode cX2_waiting 15 = .ok (.aload_n 0, 1) := by decide +kernel
theorem dX2_waiting_16 : decode cX2_waiting 16 = .ok (.getfield 12, 3) := by decide +kernel
theorem dX2_waiting_19 : decode cX2_waiting 19 = .ok (.iload_n 2, 1) := by decide +kernel
theorem dX2_waiting_20 : decode cX2_waiting 20 = .ok (.invokevirtual 33, 3) := by decide +kernel
theorem dX2_waiting_23 : decode cX2_waiting 23 = .ok (.checkcast 37, 3) := by decide +kernel
theorem dX2_waiting_26 : decode cX2_waiting 26 = .ok (.astore_n 3, 1) := by decide +kernel
theorem dX2_waiting_27 : decode cX2_waiting 27 = .ok (.iload_n 1, 1) := by decide +kernel
theorem dX2_waiting_28 : decode cX2_waiting 28 = .ok (.aload_n 3, 1) := by decide +kernel
theorem dX2_waiting_29 : decode cX2_waiting 29 = .ok (.getfield 75, 3) := by decide +kernel
theorem dX2_waiting_32 : decode cX2_waiting 32 = .ok (.ifnonnull 7, 3) := by decide +kernel
theorem dX2_waiting_39 : decode cX2_waiting 39 = .ok (.aload_n 3, 1) := by decide +kernel
theorem dX2_waiting_40 : decode cX2_waiting 40 = .ok (.getfield 75, 3) := by decide +kernel
theorem dX2_waiting_43 : decode cX2_waiting 43 = .ok (.invokevirtual 78, 3) := by decide +kernel
theorem dX2_waiting_46 : decode cX2_waiting 46 = .ok (.iadd, 1) := by decide +kernel
theorem dX2_waiting_47 : decode cX2_waiting 47 = .ok (.istore_n 1, 1) := by decide +kernel
theorem dX2_waiting_48 : decode cX2_waiting 48 = .ok (.iload_n 1, 1) := by decide +kernel
theorem dX2_waiting_49 : decode cX2_waiting 49 = .ok (.aload_n 3, 1) := by decide +kernel
theorem dX2_waiting_50 : decode cX2_waiting 50 = .ok (.getfield 83, 3) := by decide +kernel
theorem dX2_waiting_53 : decode cX2_waiting 53 = .ok (.ifnonnull 7, 3) := by decide +kernel
theorem dX2_waiting_60 : decode cX2_waiting 60 = .ok (.aload_n 3, 1) := by decide +kernel
theorem dX2_waiting_61 : decode cX2_waiting 61 = .ok (.getfield 83, 3) := by decide +kernel
theorem dX2_waiting_64 : decode cX2_waiting 64 = .ok (.invokevirtual 78, 3) := by decide +kernel
theorem dX2_waiting_67 : decode cX2_waiting 67 = .ok (.iadd, 1) := by decide +kernel
theorem dX2_waiting_68 : decode cX2_waiting 68 = .ok (.istore_n 1, 1) := by decide +kernel
theorem dX2_waiting_69 : decode cX2_waiting 69 = .ok (.iinc 2 1, 3) := by decide +kernel
theorem dX2_waiting_72 : decode cX2_waiting 72 = .ok (.goto (-68), 3) := by decide +kernel
theorem dX2_waiting_56 : decode cX2_waiting 56 = .ok (.iconst 0, 1) := by decide +kernel
theorem dX2_waiting_57 : decode cX2_waiting 57 = .ok (.goto 10, 3) := by decide +kernel
theorem dX2_waiting_35 : decode cX2_waiting 35 = .ok (.iconst 0, 1) := by decide +kernel
theorem dX2_waiting_36 : decode cX2_waiting 36 = .ok (.goto 10, 3) := by decide +kernel
theorem dX2_waiting_0 : decode cX2_waiting 0 = .ok (.iconst 0, 1) := by decide +kernel
theorem dX2_waiting_1 : decode cX2_waiting 1 = .ok (.istore_n 1, 1) := by decide +kernel
theorem dX2_waiting_2 : decode cX2_waiting 2 = .ok (.iconst 0, 1) := by decide +kernel
theorem dX2_waiting_3 : decode cX2_waiting 3 = .ok (.istore_n 2, 1) := by decide +kernel
theorem dX2_nextToWork_10 : decode cX2_nextToWork 10 = .ok (.iload_n 2, 1) := by decide +kernel
theorem dX2_nextToWork_11 : decode cX2_nextToWork 11 = .ok (.iload_n 1, 1) := by decide +kernel
theorem dX2_nextToWork_12 : decode cX2_nextToWork 12 = .ok (.if_icmp .gt 64, 3) := by decide +kernel
theorem dX2_nextToWork_76 : decode cX2_nextToWork 76 = .ok (.iconst (-1), 1) := by decide +kernel
theorem dX2_nextToWork_77 : decode cX2_nextToWork 77 = .ok (.ireturn, 1) := by decide +kernel
theorem dX2_nextToWork_15 : decode cX2_nextToWork 15 = .ok (.aload_n 0, 1) := by decide +kernel
theorem dX2_nextToWork_16 : decode cX2_nextToWork 16 = .ok (.getfield 22, 3) := by decide +kernel
theorem dX2_nextToWork_19 : decode cX2_nextToWork 19 = .ok (.iload_n 2, 1) := by decide +kernel
theorem dX2_nextToWork_20 : decode cX2_nextToWork 20 = .ok (.iadd, 1) := by decide +kernel
theorem dX2_nextToWork_21 : decode cX2_nextToWork 21 = .ok (.istore_n 3, 1) := by decide +kernel
theorem dX2_nextToWork_22 : decode cX2_nextToWork 22 = .ok (.aload_n 0, 1) := by decide +kernel
theorem dX2_nextToWork_23 : decode cX2_nextToWork 23 = .ok (.iload_n 3, 1) := by decide +kernel
theorem dX2_nextToWork_24 : decode cX2_nextToWork 24 = .ok (.iload_n 1, 1) := by decide +kernel
theorem dX2_nextToWork_25 : decode cX2_nextToWork 25 = .ok (.if_icmp .ge 7, 3) := by decide +kernel
theorem dX2_nextToWork_32 : decode cX2_nextToWork 32 = .ok (.iload_n 3, 1) := by decide +kernel
theorem dX2_nextToWork_33 : decode cX2_nextToWork 33 = .ok (.iload_n 1, 1) := by decide +kernel
theorem dX2_nextToWork_34 : decode cX2_nextToWork 34 = .ok (.isub, 1) := by decide +kernel
theorem dX2_nextToWork_35 : decode cX2_nextToWork 35 = .ok (.invokevirtual 58, 3) := by decide +kernel
theorem dX2_nextToWork_38 : decode cX2_nextToWork 38 = .ok (.astore 4, 2) := by decide +kernel
theorem dX2_nextToWork_40 : decode cX2_nextToWork 40 = .ok (.aload 4, 2) := by decide +kernel
theorem dX2_nextToWork_42 : decode cX2_nextToWork 42 = .ok (.ifnull 28, 3) := by decide +kernel
theorem dX2_nextToWork_45 : decode cX2_nextToWork 45 = .ok (.aload 4, 2) := by decide +kernel
theorem dX2_nextToWork_47 : decode cX2_nextToWork 47 = .ok (.aload_n 0, 1) := by decide +kernel
theorem dX2_nextToWork_48 : decode cX2_nextToWork 48 = .ok (.getfield 18, 3) := by decide +kernel
theorem dX2_nextToWork_51 : decode cX2_nextToWork 51 = .ok (.invokevirtual 85, 3) := by decide +kernel
theorem dX2_nextToWork_54 : decode cX2_nextToWork 54 = .ok (.ifCond .eq 16, 3) := by decide +kernel
theorem dX2_nextToWork_70 : decode cX2_nextToWork 70 = .ok (.iinc 2 1, 3) := by decide +kernel
theorem dX2_nextToWork_73 : decode cX2_nextToWork 73 = .ok (.goto (-63), 3) := by decide +kernel
theorem dX2_nextToWork_57 : decode cX2_nextToWork 57 = .ok (.iload_n 3, 1) := by decide +kernel
theorem dX2_nextToWork_58 : decode cX2_nextToWork 58 = .ok (.iload_n 1, 1) := by decide +kernel
theorem dX2_nextToWork_59 : decode cX2_nextToWork 59 = .ok (.if_icmp .ge 7, 3) := by decide +kernel
theorem dX2_nextToWork_66 : decode cX2_nextToWork 66 = .ok (.iload_n 3, 1) := by decide +kernel
theorem dX2_nextToWork_67 : decode cX2_nextToWork 67 = .ok (.iload_n 1, 1) := by decide +kernel
theorem dX2_nextToWork_68 : decode cX2_nextToWork 68 = .ok (.isub, 1) := by decide +kernel
theorem dX2_nextToWork_69 : decode cX2_nextToWork 69 = .ok (.ireturn, 1) := by decide +kernel
theorem dX2_nextToWork_28 : decode cX2_nextToWork 28 = .ok (.iload_n 3, 1) := by decide +kernel
theorem dX2_nextToWork_29 : decode cX2_nextToWork 29 = .ok (.goto 6, 3) := by decide +kernel
theorem dX2_nextToWork_62 : decode cX2_nextToWork 62 = .ok (.iload_n 3, 1) := by decide +kernel
theorem dX2_nextToWork_63 : decode cX2_nextToWork 63 = .ok (.goto 6, 3) := by decide +kernel
theorem dX2_nextToWork_0 : decode cX2_nextToWork 0 = .ok (.aload_n 0, 1) := by decide +kernel
theorem dX2_nextToWork_1 : decode cX2_nextToWork 1 = .ok (.getfield 12, 3) := by decide +kernel
theorem dX2_nextToWork_4 : decode cX2_nextToWork 4 = .ok (.invokevirtual 29, 3) := by decide +kernel
theorem dX2_nextToWork_7 : decode cX2_nextToWork 7 = .ok (.istore_n 1, 1) := by decide +kernel
theorem dX2_nextToWork_8 : decode cX2_nextToWork 8 = .ok (.iconst 1, 1) := by decide +kernel
theorem dX2_nextToWork_9 : decode cX2_nextToWork 9 = .ok (.istore_n 2, 1) := by decide +kernel
theorem dX10_stageOf_0 : decode cX10_stageOf 0 = .ok (.aload_n 0, 1) := by decide +kernel
theorem dX10_stageOf_1 : decode cX10_stageOf 1 = .ok (.getfield 12, 3) := by decide +kernel
theorem dX10_stageOf_4 : decode cX10_stageOf 4 = .ok (.iload_n 1, 1) := by decide +kernel
theorem dX10_stageOf_5 : decode cX10_stageOf 5 = .ok (.invokevirtual 270, 3) := by decide +kernel
theorem dX10_stageOf_8 : decode cX10_stageOf 8 = .ok (.astore_n 2, 1) := by decide +kernel
theorem dX10_stageOf_9 : decode cX10_stageOf 9 = .ok (.aload_n 2, 1) := by decide +kernel
theorem dX10_stageOf_10 : decode cX10_stageOf 10 = .ok (.ifnonnull 11, 3) := by decide +kernel
theorem dX10_stageOf_21 : decode cX10_stageOf 21 = .ok (.aload_n 2, 1) := by decide +kernel
theorem dX10_stageOf_22 : decode cX10_stageOf 22 = .ok (.areturn, 1) := by decide +kernel
theorem dX10_sourceOf_0 : decode cX10_sourceOf 0 = .ok (.aload_n 0, 1) := by decide +kernel
theorem dX10_sourceOf_1 : decode cX10_sourceOf 1 = .ok (.iload_n 1, 1) := by decide +kernel
theorem dX10_sourceOf_2 : decode cX10_sourceOf 2 = .ok (.invokevirtual 44, 3) := by decide +kernel
theorem dX10_sourceOf_5 : decode cX10_sourceOf 5 = .ok (.astore_n 2, 1) := by decide +kernel
theorem dX10_sourceOf_6 : decode cX10_sourceOf 6 = .ok (.aload_n 2, 1) := by decide +kernel
theorem dX10_sourceOf_7 : decode cX10_sourceOf 7 = .ok (.getfield 48, 3) := by decide +kernel
theorem dX10_sourceOf_10 : decode cX10_sourceOf 10 = .ok (.getfield 54, 3) := by decide +kernel
theorem dX10_sourceOf_13 : decode cX10_sourceOf 13 = .ok (.ifCond .ne 7, 3) := by decide +kernel
theorem dX10_sourceOf_16 : decode cX10_sourceOf 16 = .ok (.iconst 1, 1) := by decide +kernel
theorem dX10_sourceOf_17 : decode cX10_sourceOf 17 = .ok (.goto 4, 3) := by decide +kernel
theorem dX10_sourceOf_21 : decode cX10_sourceOf 21 = .ok (.invokestatic 25, 3) := by decide +kernel
theorem dX10_sourceOf_24 : decode cX10_sourceOf 24 = .ok (.aload_n 2, 1) := by decide +kernel
theorem dX10_sourceOf_25 : decode cX10_sourceOf 25 = .ok (.areturn, 1) := by decide +kernel
theorem dX10_sinkOf_0 : decode cX10_sinkOf 0 = .ok (.aload_n 0, 1) := by decide +kernel
theorem dX10_sinkOf_1 : decode cX10_sinkOf 1 = .ok (.iload_n 1, 1) := by decide +kernel
theorem dX10_sinkOf_2 : decode cX10_sinkOf 2 = .ok (.invokevirtual 44, 3) := by decide +kernel
theorem dX10_sinkOf_5 : decode cX10_sinkOf 5 = .ok (.astore_n 2, 1) := by decide +kernel
theorem dX10_sinkOf_6 : decode cX10_sinkOf 6 = .ok (.aload_n 2, 1) := by decide +kernel
theorem dX10_sinkOf_7 : decode cX10_sinkOf 7 = .ok (.getfield 48, 3) := by decide +kernel
theorem dX10_sinkOf_10 : decode cX10_sinkOf 10 = .ok (.getfield 54, 3) := by decide +kernel
theorem dX10_sinkOf_13 : decode cX10_sinkOf 13 = .ok (.bipush 7, 2) := by decide +kernel
theorem dX10_sinkOf_15 : decode cX10_sinkOf 15 = .ok (.if_icmp .ne 7, 3) := by decide +kernel
theorem dX10_sinkOf_18 : decode cX10_sinkOf 18 = .ok (.iconst 1, 1) := by decide +kernel
theorem dX10_sinkOf_19 : decode cX10_sinkOf 19 = .ok (.goto 4, 3) := by decide +kernel
theorem dX10_sinkOf_23 : decode cX10_sinkOf 23 = .ok (.invokestatic 25, 3) := by decide +kernel
theorem dX10_sinkOf_26 : decode cX10_sinkOf 26 = .ok (.aload_n 2, 1) := by decide +kernel
theorem dX10_sinkOf_27 : decode cX10_sinkOf 27 = .ok (.areturn, 1) := by decide +kernel
theorem dX10_spanStageOf_0 : decode cX10_spanStageOf 0 = .ok (.aload_n 0, 1) := by decide +kernel
theorem dX10_spanStageOf_1 : decode cX10_spanStageOf 1 = .ok (.iload_n 1, 1) := by decide +kernel
theorem dX10_spanStageOf_2 : decode cX10_spanStageOf 2 = .ok (.invokevirtual 44, 3) := by decide +kernel
theorem dX10_spanStageOf_5 : decode cX10_spanStageOf 5 = .ok (.astore_n 2, 1) := by decide +kernel
theorem dX10_spanStageOf_6 : decode cX10_spanStageOf 6 = .ok (.aload_n 2, 1) := by decide +kernel
theorem dX10_spanStageOf_7 : decode cX10_spanStageOf 7 = .ok (.getfield 48, 3) := by decide +kernel
theorem dX10_spanStageOf_10 : decode cX10_spanStageOf 10 = .ok (.getfield 54, 3) := by decide +kernel
theorem dX10_spanStageOf_13 : decode cX10_spanStageOf 13 = .ok (.iconst 3, 1) := by decide +kernel
theorem dX10_spanStageOf_14 : decode cX10_spanStageOf 14 = .ok (.if_icmp .eq 14, 3) := by decide +kernel
theorem dX10_spanStageOf_28 : decode cX10_spanStageOf 28 = .ok (.iconst 1, 1) := by decide +kernel
theorem dX10_spanStageOf_29 : decode cX10_spanStageOf 29 = .ok (.goto 4, 3) := by decide +kernel
theorem dX10_spanStageOf_33 : decode cX10_spanStageOf 33 = .ok (.invokestatic 25, 3) := by decide +kernel
theorem dX10_spanStageOf_36 : decode cX10_spanStageOf 36 = .ok (.aload_n 2, 1) := by decide +kernel
theorem dX10_spanStageOf_37 : decode cX10_spanStageOf 37 = .ok (.areturn, 1) := by decide +kernel
theorem dX10_spanStageOf_17 : decode cX10_spanStageOf 17 = .ok (.aload_n 2, 1) := by decide +kernel
theorem dX10_spanStageOf_18 : decode cX10_spanStageOf 18 = .ok (.getfield 48, 3) := by decide +kernel
theorem dX10_spanStageOf_21 : decode cX10_spanStageOf 21 = .ok (.getfield 54, 3) := by decide +kernel
theorem dX10_spanStageOf_24 : decode cX10_spanStageOf 24 = .ok (.iconst 4, 1) := by decide +kernel
theorem dX10_spanStageOf_25 : decode cX10_spanStageOf 25 = .ok (.if_icmp .ne 7, 3) := by decide +kernel
theorem dX10_spanStageOf_32 : decode cX10_spanStageOf 32 = .ok (.iconst 0, 1) := by decide +kernel
theorem dX10_stages_0 : decode cX10_stages 0 = .ok (.aload_n 0, 1) := by decide +kernel
theorem dX10_stages_1 : decode cX10_stages 1 = .ok (.getfield 12, 3) := by decide +kernel
theorem dX10_stages_4 : decode cX10_stages 4 = .ok (.invokevirtual 88, 3) := by decide +kernel
theorem dX10_stages_7 : decode cX10_stages 7 = .ok (.ireturn, 1) := by decide +kernel
theorem dX10_isStarted_0 : decode cX10_isStarted 0 = .ok (.aload_n 0, 1) := by decide +kernel
theorem dX10_isStarted_1 : decode cX10_isStarted 1 = .ok (.getfield 84, 3) := by decide +kernel
theorem dX10_isStarted_4 : decode cX10_isStarted 4 = .ok (.ireturn, 1) := by decide +kernel
theorem dX10_sortOf_0 : decode cX10_sortOf 0 = .ok (.aload_n 0, 1) := by decide +kernel
theorem dX10_sortOf_1 : decode cX10_sortOf 1 = .ok (.iload_n 1, 1) := by decide +kernel
theorem dX10_sortOf_2 : decode cX10_sortOf 2 = .ok (.invokevirtual 44, 3) := by decide +kernel
theorem dX10_sortOf_5 : decode cX10_sortOf 5 = .ok (.getfield 48, 3) := by decide +kernel
theorem dX10_sortOf_8 : decode cX10_sortOf 8 = .ok (.getfield 54, 3) := by decide +kernel
theorem dX10_sortOf_11 : decode cX10_sortOf 11 = .ok (.ireturn, 1) := by decide +kernel
theorem dX10_markOf_0 : decode cX10_markOf 0 = .ok (.aload_n 0, 1) := by decide +kernel
theorem dX10_markOf_1 : decode cX10_markOf 1 = .ok (.iload_n 1, 1) := by decide +kernel
theorem dX10_markOf_2 : decode cX10_markOf 2 = .ok (.invokevirtual 44, 3) := by decide +kernel
theorem dX10_markOf_5 : decode cX10_markOf 5 = .ok (.getfield 157, 3) := by decide +kernel
theorem dX10_markOf_8 : decode cX10_markOf 8 = .ok (.getfield 161, 3) := by decide +kernel
theorem dX10_markOf_11 : decode cX10_markOf 11 = .ok (.ireturn, 1) := by decide +kernel
theorem dX10_taken_0 : decode cX10_taken 0 = .ok (.aload_n 0, 1) := by decide +kernel
theorem dX10_taken_1 : decode cX10_taken 1 = .ok (.iload_n 1, 1) := by decide +kernel
theorem dX10_taken_2 : decode cX10_taken 2 = .ok (.invokevirtual 44, 3) := by decide +kernel
theorem dX10_taken_5 : decode cX10_taken 5 = .ok (.getfield 157, 3) := by decide +kernel
theorem dX10_taken_8 : decode cX10_taken 8 = .ok (.getfield 166, 3) := by decide +kernel
theorem dX10_taken_11 : decode cX10_taken 11 = .ok (.ireturn, 1) := by decide +kernel
theorem dX10_emitted_0 : decode cX10_emitted 0 = .ok (.aload_n 0, 1) := by decide +kernel
theorem dX10_emitted_1 : decode cX10_emitted 1 = .ok (.iload_n 1, 1) := by decide +kernel
theorem dX10_emitted_2 : decode cX10_emitted 2 = .ok (.invokevirtual 44, 3) := by decide +kernel
theorem dX10_emitted_5 : decode cX10_emitted 5 = .ok (.getfield 157, 3) := by decide +kernel
theorem dX10_emitted_8 : decode cX10_emitted 8 = .ok (.getfield 169, 3) := by decide +kernel
theorem dX10_emitted_11 : decode cX10_emitted 11 = .ok (.ireturn, 1) := by decide +kernel
theorem dX10_late_0 : decode cX10_late 0 = .ok (.aload_n 0, 1) := by decide +kernel
theorem dX10_late_1 : decode cX10_late 1 = .ok (.iload_n 1, 1) := by decide +kernel
theorem dX10_late_2 : decode cX10_late 2 = .ok (.invokevirtual 44, 3) := by decide +kernel
theorem dX10_late_5 : decode cX10_late 5 = .ok (.getfield 157, 3) := by decide +kernel
theorem dX10_late_8 : decode cX10_late 8 = .ok (.getfield 172, 3) := by decide +kernel
theorem dX10_late_11 : decode cX10_late 11 = .ok (.ireturn, 1) := by decide +kernel
theorem dX10_kept_0 : decode cX10_kept 0 = .ok (.aload_n 0, 1) := by decide +kernel
theorem dX10_kept_1 : decode cX10_kept 1 = .ok (.iload_n 1, 1) := by decide +kernel
theorem dX10_kept_2 : decode cX10_kept 2 = .ok (.invokevirtual 44, 3) := by decide +kernel
theorem dX10_kept_5 : decode cX10_kept 5 = .ok (.astore_n 2, 1) := by decide +kernel
theorem dX10_kept_6 : decode cX10_kept 6 = .ok (.aload_n 2, 1) := by decide +kernel
theorem dX10_kept_7 : decode cX10_kept 7 = .ok (.getfield 48, 3) := by decide +kernel
theorem dX10_kept_10 : decode cX10_kept 10 = .ok (.getfield 54, 3) := by decide +kernel
theorem dX10_kept_13 : decode cX10_kept 13 = .ok (.ifCond .ne 10, 3) := by decide +kernel
theorem dX10_kept_16 : decode cX10_kept 16 = .ok (.aload_n 2, 1) := by decide +kernel
theorem dX10_kept_17 : decode cX10_kept 17 = .ok (.invokevirtual 127, 3) := by decide +kernel
theorem dX10_kept_20 : decode cX10_kept 20 = .ok (.goto 10, 3) := by decide +kernel
theorem dX10_kept_30 : decode cX10_kept 30 = .ok (.ireturn, 1) := by decide +kernel
theorem dX10_kept_23 : decode cX10_kept 23 = .ok (.aload_n 2, 1) := by decide +kernel
theorem dX10_kept_24 : decode cX10_kept 24 = .ok (.getfield 157, 3) := by decide +kernel
theorem dX10_kept_27 : decode cX10_kept 27 = .ok (.invokevirtual 175, 3) := by decide +kernel
theorem dX10_depthOf_0 : decode cX10_depthOf 0 = .ok (.aload_n 0, 1) := by decide +kernel
theorem dX10_depthOf_1 : decode cX10_depthOf 1 = .ok (.iload_n 1, 1) := by decide +kernel
theorem dX10_depthOf_2 : decode cX10_depthOf 2 = .ok (.invokevirtual 44, 3) := by decide +kernel
theorem dX10_depthOf_5 : decode cX10_depthOf 5 = .ok (.getfield 48, 3) := by decide +kernel
theorem dX10_depthOf_8 : decode cX10_depthOf 8 = .ok (.getfield 200, 3) := by decide +kernel
theorem dX10_depthOf_11 : decode cX10_depthOf 11 = .ok (.ireturn, 1) := by decide +kernel
theorem dX10_isReady_0 : decode cX10_isReady 0 = .ok (.aload_n 0, 1) := by decide +kernel
theorem dX10_isReady_1 : decode cX10_isReady 1 = .ok (.iload_n 1, 1) := by decide +kernel
theorem dX10_isReady_2 : decode cX10_isReady 2 = .ok (.invokevirtual 44, 3) := by decide +kernel
theorem dX10_isReady_5 : decode cX10_isReady 5 = .ok (.aload_n 0, 1) := by decide +kernel
theorem dX10_isReady_6 : decode cX10_isReady 6 = .ok (.getfield 12, 3) := by decide +kernel
theorem dX10_isReady_9 : decode cX10_isReady 9 = .ok (.getfield 94, 3) := by decide +kernel
theorem dX10_isReady_12 : decode cX10_isReady 12 = .ok (.invokevirtual 142, 3) := by decide +kernel
theorem dX10_isReady_15 : decode cX10_isReady 15 = .ok (.ireturn, 1) := by decide +kernel
theorem dX10_hasRoom_0 : decode cX10_hasRoom 0 = .ok (.aload_n 0, 1) := by decide +kernel
theorem dX10_hasRoom_1 : decode cX10_hasRoom 1 = .ok (.iload_n 1, 1) := by decide +kernel
theorem dX10_hasRoom_2 : decode cX10_hasRoom 2 = .ok (.invokevirtual 44, 3) := by decide +kernel
theorem dX10_hasRoom_5 : decode cX10_hasRoom 5 = .ok (.getfield 178, 3) := by decide +kernel
theorem dX10_hasRoom_8 : decode cX10_hasRoom 8 = .ok (.aload_n 0, 1) := by decide +kernel
theorem dX10_hasRoom_9 : decode cX10_hasRoom 9 = .ok (.getfield 12, 3) := by decide +kernel
theorem dX10_hasRoom_12 : decode cX10_hasRoom 12 = .ok (.getfield 94, 3) := by decide +kernel
theorem dX10_hasRoom_15 : decode cX10_hasRoom 15 = .ok (.invokevirtual 182, 3) := by decide +kernel
theorem dX10_hasRoom_18 : decode cX10_hasRoom 18 = .ok (.ireturn, 1) := by decide +kernel
theorem dX10_queued_0 : decode cX10_queued 0 = .ok (.aload_n 0, 1) := by decide +kernel
theorem dX10_queued_1 : decode cX10_queued 1 = .ok (.iload_n 1, 1) := by decide +kernel
theorem dX10_queued_2 : decode cX10_queued 2 = .ok (.invokevirtual 44, 3) := by decide +kernel
theorem dX10_queued_5 : decode cX10_queued 5 = .ok (.iload_n 2, 1) := by decide +kernel
theorem dX10_queued_6 : decode cX10_queued 6 = .ok (.invokevirtual 187, 3) := by decide +kernel
theorem dX10_queued_9 : decode cX10_queued 9 = .ok (.astore_n 3, 1) := by decide +kernel
theorem dX10_queued_10 : decode cX10_queued 10 = .ok (.aload_n 3, 1) := by decide +kernel
theorem dX10_queued_11 : decode cX10_queued 11 = .ok (.ifnonnull 7, 3) := by decide +kernel
theorem dX10_queued_18 : decode cX10_queued 18 = .ok (.aload_n 3, 1) := by decide +kernel
theorem dX10_queued_19 : decode cX10_queued 19 = .ok (.invokevirtual 191, 3) := by decide +kernel
theorem dX10_queued_22 : decode cX10_queued 22 = .ok (.ireturn, 1) := by decide +kernel
theorem dX10_queued_14 : decode cX10_queued 14 = .ok (.iconst (-1), 1) := by decide +kernel
theorem dX10_queued_15 : decode cX10_queued 15 = .ok (.goto 7, 3) := by decide +kernel
theorem dX10_isBlocked_0 : decode cX10_isBlocked 0 = .ok (.aload_n 0, 1) := by decide +kernel
theorem dX10_isBlocked_1 : decode cX10_isBlocked 1 = .ok (.iload_n 1, 1) := by decide +kernel
theorem dX10_isBlocked_2 : decode cX10_isBlocked 2 = .ok (.invokevirtual 44, 3) := by decide +kernel
theorem dX10_isBlocked_5 : decode cX10_isBlocked 5 = .ok (.iload_n 2, 1) := by decide +kernel
theorem dX10_isBlocked_6 : decode cX10_isBlocked 6 = .ok (.invokevirtual 187, 3) := by decide +kernel
theorem dX10_isBlocked_9 : decode cX10_isBlocked 9 = .ok (.astore_n 3, 1) := by decide +kernel
theorem dX10_isBlocked_10 : decode cX10_isBlocked 10 = .ok (.aload_n 3, 1) := by decide +kernel
theorem dX10_isBlocked_11 : decode cX10_isBlocked 11 = .ok (.ifnull 14, 3) := by decide +kernel
theorem dX10_isBlocked_14 : decode cX10_isBlocked 14 = .ok (.aload_n 3, 1) := by decide +kernel
theorem dX10_isBlocked_15 : decode cX10_isBlocked 15 = .ok (.getfield 194, 3) := by decide +kernel
theorem dX10_isBlocked_18 : decode cX10_isBlocked 18 = .ok (.ifCond .eq 7, 3) := by decide +kernel
theorem dX10_isBlocked_25 : decode cX10_isBlocked 25 = .ok (.iconst 0, 1) := by decide +kernel
theorem dX10_isBlocked_26 : decode cX10_isBlocked 26 = .ok (.ireturn, 1) := by decide +kernel
theorem dX10_isBlocked_21 : decode cX10_isBlocked 21 = .ok (.iconst 1, 1) := by decide +kernel
theorem dX10_isBlocked_22 : decode cX10_isBlocked 22 = .ok (.goto 4, 3) := by decide +kernel
theorem dX10_nextEnd_0 : decode cX10_nextEnd 0 = .ok (.aload_n 0, 1) := by decide +kernel
theorem dX10_nextEnd_1 : decode cX10_nextEnd 1 = .ok (.iload_n 1, 1) := by decide +kernel
theorem dX10_nextEnd_2 : decode cX10_nextEnd 2 = .ok (.invokevirtual 203, 3) := by decide +kernel
theorem dX10_nextEnd_5 : decode cX10_nextEnd 5 = .ok (.astore_n 2, 1) := by decide +kernel
theorem dX10_nextEnd_6 : decode cX10_nextEnd 6 = .ok (.aload_n 2, 1) := by decide +kernel
theorem dX10_nextEnd_7 : decode cX10_nextEnd 7 = .ok (.getfield 157, 3) := by decide +kernel
theorem dX10_nextEnd_10 : decode cX10_nextEnd 10 = .ok (.getfield 206, 3) := by decide +kernel
theorem dX10_nextEnd_13 : decode cX10_nextEnd 13 = .ok (.astore_n 3, 1) := by decide +kernel
theorem dX10_nextEnd_14 : decode cX10_nextEnd 14 = .ok (.aload_n 3, 1) := by decide +kernel
theorem dX10_nextEnd_15 : decode cX10_nextEnd 15 = .ok (.aload_n 2, 1) := by decide +kernel
theorem dX10_nextEnd_16 : decode cX10_nextEnd 16 = .ok (.getfield 157, 3) := by decide +kernel
theorem dX10_nextEnd_19 : decode cX10_nextEnd 19 = .ok (.getfield 161, 3) := by decide +kernel
theorem dX10_nextEnd_22 : decode cX10_nextEnd 22 = .ok (.invokevirtual 226, 3) := by decide +kernel
theorem dX10_nextEnd_25 : decode cX10_nextEnd 25 = .ok (.istore 4, 2) := by decide +kernel
theorem dX10_nextEnd_27 : decode cX10_nextEnd 27 = .ok (.iload 4, 2) := by decide +kernel
theorem dX10_nextEnd_29 : decode cX10_nextEnd 29 = .ok (.aload_n 3, 1) := by decide +kernel
theorem dX10_nextEnd_30 : decode cX10_nextEnd 30 = .ok (.invokevirtual 230, 3) := by decide +kernel
theorem dX10_nextEnd_33 : decode cX10_nextEnd 33 = .ok (.if_icmp .ge 12, 3) := by decide +kernel
theorem dX10_nextEnd_45 : decode cX10_nextEnd 45 = .ok (.iconst (-1), 1) := by decide +kernel
theorem dX10_nextEnd_46 : decode cX10_nextEnd 46 = .ok (.ireturn, 1) := by decide +kernel
theorem dX10_nextEnd_36 : decode cX10_nextEnd 36 = .ok (.aload_n 3, 1) := by decide +kernel
theorem dX10_nextEnd_37 : decode cX10_nextEnd 37 = .ok (.iload 4, 2) := by decide +kernel
theorem dX10_nextEnd_39 : decode cX10_nextEnd 39 = .ok (.invokevirtual 231, 3) := by decide +kernel
theorem dX10_nextEnd_42 : decode cX10_nextEnd 42 = .ok (.goto 4, 3) := by decide +kernel
theorem dX10_outputs_0 : decode cX10_outputs 0 = .ok (.aload_n 0, 1) := by decide +kernel
theorem dX10_outputs_1 : decode cX10_outputs 1 = .ok (.iload_n 1, 1) := by decide +kernel
theorem dX10_outputs_2 : decode cX10_outputs 2 = .ok (.invokevirtual 234, 3) := by decide +kernel
theorem dX10_outputs_5 : decode cX10_outputs 5 = .ok (.getfield 157, 3) := by decide +kernel
theorem dX10_outputs_8 : decode cX10_outputs 8 = .ok (.getfield 237, 3) := by decide +kernel
theorem dX10_outputs_11 : decode cX10_outputs 11 = .ok (.ireturn, 1) := by decide +kernel
theorem dX10_committed_0 : decode cX10_committed 0 = .ok (.aload_n 0, 1) := by decide +kernel
theorem dX10_committed_1 : decode cX10_committed 1 = .ok (.iload_n 1, 1) := by decide +kernel
theorem dX10_committed_2 : decode cX10_committed 2 = .ok (.invokevirtual 234, 3) := by decide +kernel
theorem dX10_committed_5 : decode cX10_committed 5 = .ok (.getfield 240, 3) := by decide +kernel
theorem dX10_committed_8 : decode cX10_committed 8 = .ok (.getfield 237, 3) := by decide +kernel
theorem dX10_committed_11 : decode cX10_committed 11 = .ok (.ireturn, 1) := by decide +kernel
theorem dX10_complete_0 : decode cX10_complete 0 = .ok (.aload_n 0, 1) := by decide +kernel
theorem dX10_complete_1 : decode cX10_complete 1 = .ok (.getfield 12, 3) := by decide +kernel
theorem dX10_complete_4 : decode cX10_complete 4 = .ok (.getfield 257, 3) := by decide +kernel
theorem dX10_complete_7 : decode cX10_complete 7 = .ok (.ireturn, 1) := by decide +kernel
theorem dX10_begun_0 : decode cX10_begun 0 = .ok (.aload_n 0, 1) := by decide +kernel
theorem dX10_begun_1 : decode cX10_begun 1 = .ok (.getfield 12, 3) := by decide +kernel
theorem dX10_begun_4 : decode cX10_begun 4 = .ok (.getfield 145, 3) := by decide +kernel
theorem dX10_begun_7 : decode cX10_begun 7 = .ok (.ireturn, 1) := by decide +kernel
theorem dX10_crashes_0 : decode cX10_crashes 0 = .ok (.aload_n 0, 1) := by decide +kernel
theorem dX10_crashes_1 : decode cX10_crashes 1 = .ok (.getfield 151, 3) := by decide +kernel
theorem dX10_crashes_4 : decode cX10_crashes 4 = .ok (.ireturn, 1) := by decide +kernel
theorem dX10_worked_0 : decode cX10_worked 0 = .ok (.aload_n 0, 1) := by decide +kernel
theorem dX10_worked_1 : decode cX10_worked 1 = .ok (.getfield 139, 3) := by decide +kernel
theorem dX10_worked_4 : decode cX10_worked 4 = .ok (.ireturn, 1) := by decide +kernel
theorem dX10_inFlight_0 : decode cX10_inFlight 0 = .ok (.aload_n 0, 1) := by decide +kernel
theorem dX10_inFlight_1 : decode cX10_inFlight 1 = .ok (.getfield 12, 3) := by decide +kernel
theorem dX10_inFlight_4 : decode cX10_inFlight 4 = .ok (.invokevirtual 260, 3) := by decide +kernel
theorem dX10_inFlight_7 : decode cX10_inFlight 7 = .ok (.ireturn, 1) := by decide +kernel
theorem dX10_next_0 : decode cX10_next 0 = .ok (.aload_n 0, 1) := by decide +kernel
theorem dX10_next_1 : decode cX10_next 1 = .ok (.getfield 12, 3) := by decide +kernel
theorem dX10_next_4 : decode cX10_next 4 = .ok (.invokevirtual 133, 3) := by decide +kernel
theorem dX10_next_7 : decode cX10_next 7 = .ok (.ireturn, 1) := by decide +kernel
theorem dX10_meanQueue_0 : decode cX10_meanQueue 0 = .ok (.aload_n 0, 1) := by decide +kernel
theorem dX10_meanQueue_1 : decode cX10_meanQueue 1 = .ok (.getfield 12, 3) := by decide +kernel
theorem dX10_meanQueue_4 : decode cX10_meanQueue 4 = .ok (.invokevirtual 263, 3) := by decide +kernel
theorem dX10_meanQueue_7 : decode cX10_meanQueue 7 = .ok (.istore_n 1, 1) := by decide +kernel
theorem dX10_meanQueue_8 : decode cX10_meanQueue 8 = .ok (.iload_n 1, 1) := by decide +kernel
theorem dX10_meanQueue_9 : decode cX10_meanQueue 9 = .ok (.ifCond .ne 7, 3) := by decide +kernel
theorem dX10_meanQueue_12 : decode cX10_meanQueue 12 = .ok (.dconst 0, 1) := by decide +kernel
theorem dX10_meanQueue_13 : decode cX10_meanQueue 13 = .ok (.goto 14, 3) := by decide +kernel
theorem dX10_meanQueue_27 : decode cX10_meanQueue 27 = .ok (.dreturn, 1) := by decide +kernel
theorem dX10_meanQueue_16 : decode cX10_meanQueue 16 = .ok (.aload_n 0, 1) := by decide +kernel
theorem dX10_meanQueue_17 : decode cX10_meanQueue 17 = .ok (.getfield 12, 3) := by decide +kernel
theorem dX10_meanQueue_20 : decode cX10_meanQueue 20 = .ok (.invokevirtual 260, 3) := by decide +kernel
theorem dX10_meanQueue_23 : decode cX10_meanQueue 23 = .ok (.i2d, 1) := by decide +kernel
theorem dX10_meanQueue_24 : decode cX10_meanQueue 24 = .ok (.iload_n 1, 1) := by decide +kernel
theorem dX10_meanQueue_25 : decode cX10_meanQueue 25 = .ok (.i2d, 1) := by decide +kernel
theorem dX10_meanQueue_26 : decode cX10_meanQueue 26 = .ok (.ddiv, 1) := by decide +kernel
theorem dX10_wouldLose_0 : decode cX10_wouldLose 0 = .ok (.aload_n 0, 1) := by decide +kernel
theorem dX10_wouldLose_1 : decode cX10_wouldLose 1 = .ok (.iload_n 1, 1) := by decide +kernel
theorem dX10_wouldLose_2 : decode cX10_wouldLose 2 = .ok (.invokevirtual 234, 3) := by decide +kernel
theorem dX10_wouldLose_5 : decode cX10_wouldLose 5 = .ok (.astore_n 2, 1) := by decide +kernel
theorem dX10_wouldLose_6 : decode cX10_wouldLose 6 = .ok (.aload_n 2, 1) := by decide +kernel
theorem dX10_wouldLose_7 : decode cX10_wouldLose 7 = .ok (.getfield 157, 3) := by decide +kernel
theorem dX10_wouldLose_10 : decode cX10_wouldLose 10 = .ok (.getfield 237, 3) := by decide +kernel
theorem dX10_wouldLose_13 : decode cX10_wouldLose 13 = .ok (.aload_n 2, 1) := by decide +kernel
theorem dX10_wouldLose_14 : decode cX10_wouldLose 14 = .ok (.getfield 240, 3) := by decide +kernel
theorem dX10_wouldLose_17 : decode cX10_wouldLose 17 = .ok (.getfield 237, 3) := by decide +kernel
theorem dX10_wouldLose_20 : decode cX10_wouldLose 20 = .ok (.isub, 1) := by decide +kernel
theorem dX10_wouldLose_21 : decode cX10_wouldLose 21 = .ok (.ireturn, 1) := by decide +kernel
theorem dX10_wouldReplay_0 : decode cX10_wouldReplay 0 = .ok (.aload_n 0, 1) := by decide +kernel
theorem dX10_wouldReplay_1 : decode cX10_wouldReplay 1 = .ok (.iload_n 1, 1) := by decide +kernel
theorem dX10_wouldReplay_2 : decode cX10_wouldReplay 2 = .ok (.invokevirtual 97, 3) := by decide +kernel
theorem dX10_wouldReplay_5 : decode cX10_wouldReplay 5 = .ok (.astore_n 2, 1) := by decide +kernel
theorem dX10_wouldReplay_6 : decode cX10_wouldReplay 6 = .ok (.aload_n 2, 1) := by decide +kernel
theorem dX10_wouldReplay_7 : decode cX10_wouldReplay 7 = .ok (.getfield 157, 3) := by decide +kernel
theorem dX10_wouldReplay_10 : decode cX10_wouldReplay 10 = .ok (.getfield 166, 3) := by decide +kernel
theorem dX10_wouldReplay_13 : decode cX10_wouldReplay 13 = .ok (.aload_n 2, 1) := by decide +kernel
theorem dX10_wouldReplay_14 : decode cX10_wouldReplay 14 = .ok (.getfield 240, 3) := by decide +kernel
theorem dX10_wouldReplay_17 : decode cX10_wouldReplay 17 = .ok (.getfield 166, 3) := by decide +kernel
theorem dX10_wouldReplay_20 : decode cX10_wouldReplay 20 = .ok (.isub, 1) := by decide +kernel
theorem dX10_wouldReplay_21 : decode cX10_wouldReplay 21 = .ok (.ireturn, 1) := by decide +kernel
theorem dX10_outputAt_0 : decode cX10_outputAt 0 = .ok (.aload_n 0, 1) := by decide +kernel
theorem dX10_outputAt_1 : decode cX10_outputAt 1 = .ok (.iload_n 1, 1) := by decide +kernel
theorem dX10_outputAt_2 : decode cX10_outputAt 2 = .ok (.invokevirtual 234, 3) := by decide +kernel
theorem dX10_outputAt_5 : decode cX10_outputAt 5 = .ok (.astore_n 3, 1) := by decide +kernel
theorem dX10_outputAt_6 : decode cX10_outputAt 6 = .ok (.iload_n 2, 1) := by decide +kernel
theorem dX10_outputAt_7 : decode cX10_outputAt 7 = .ok (.ifCond .lt 18, 3) := by decide +kernel
theorem dX10_outputAt_10 : decode cX10_outputAt 10 = .ok (.iload_n 2, 1) := by decide +kernel
theorem dX10_outputAt_11 : decode cX10_outputAt 11 = .ok (.aload_n 3, 1) := by decide +kernel
theorem dX10_outputAt_12 : decode cX10_outputAt 12 = .ok (.getfield 157, 3) := by decide +kernel
theorem dX10_outputAt_15 : decode cX10_outputAt 15 = .ok (.getfield 237, 3) := by decide +kernel
theorem dX10_outputAt_18 : decode cX10_outputAt 18 = .ok (.if_icmp .ge 7, 3) := by decide +kernel
theorem dX10_outputAt_21 : decode cX10_outputAt 21 = .ok (.iconst 1, 1) := by decide +kernel
theorem dX10_outputAt_22 : decode cX10_outputAt 22 = .ok (.goto 4, 3) := by decide +kernel
theorem dX10_outputAt_26 : decode cX10_outputAt 26 = .ok (.invokestatic 25, 3) := by decide +kernel
theorem dX10_outputAt_29 : decode cX10_outputAt 29 = .ok (.aload_n 3, 1) := by decide +kernel
theorem dX10_outputAt_30 : decode cX10_outputAt 30 = .ok (.getfield 360, 3) := by decide +kernel
theorem dX10_outputAt_33 : decode cX10_outputAt 33 = .ok (.iload_n 2, 1) := by decide +kernel
theorem dX10_outputAt_34 : decode cX10_outputAt 34 = .ok (.invokevirtual 363, 3) := by decide +kernel
theorem dX10_outputAt_37 : decode cX10_outputAt 37 = .ok (.lreturn, 1) := by decide +kernel
theorem iX10 : ∀ w ∈ u_ws RX10 TX10 5, w ∈ lw_all := by
  intro w hw
  have h : w ∈ [(Jvm.Cond.laysFinal "WeirStream" "WeirStream" "live" "LWeirStream$Flow;"), (Jvm.Cond.laysFinal "WeirStream" "WeirStream" "trial" "LWeirStream$Flow;"), (Jvm.Cond.lays "WeirStream" "WeirStream" "hasStarted" "Z"), (Jvm.Cond.lays "WeirStream" "WeirStream" "crashCount" "I"), (Jvm.Cond.lays "WeirStream" "WeirStream" "workedCount" "I")] := hw
  simp only [List.mem_cons, List.not_mem_nil, or_false] at h
  rcases h with rfl | rfl | rfl | rfl | rfl
  · exact wq100
  · exact wq102
  · exact wq104
  · exact wq106
  · exact wq108
theorem dfX10 : ∀ j, j < 5 → defaultValue (tyX10 j) = vp_V [.null, .null, .int 0, .int 0, .int 0] j := by
  intro j hj
  rcases (show j = 0 ∨ j = 1 ∨ j = 2 ∨ j = 3 ∨ j = 4 by omega) with rfl | rfl | rfl | rfl | rfl <;> rfl
