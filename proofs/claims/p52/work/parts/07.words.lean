theorem wq5 : (Jvm.Cond.initialized "java/util/ArrayList") ∈ lw_all := lw_in (lw_tb (List.mem_of_getElem? (i := 5) (by decide +kernel))) rfl
theorem wq12 : (Jvm.Cond.initialized "java/util/Objects") ∈ lw_all := lw_in (lw_tb (List.mem_of_getElem? (i := 12) (by decide +kernel))) rfl
theorem wq13 : (Jvm.Cond.initialized "jdk/internal/util/Preconditions") ∈ lw_all := lw_in (lw_tb (List.mem_of_getElem? (i := 13) (by decide +kernel))) rfl
theorem wq15 : (Jvm.Cond.initialized "WeirStream$Row") ∈ lw_all := lw_in (lw_tb (List.mem_of_getElem? (i := 15) (by decide +kernel))) rfl
theorem wq17 : (Jvm.Cond.initialized "WeirStream$Channel") ∈ lw_all := lw_in (lw_tb (List.mem_of_getElem? (i := 17) (by decide +kernel))) rfl
theorem wq21 : (Jvm.Cond.initialized "WeirStream$Outlet") ∈ lw_all := lw_in (lw_tb (List.mem_of_getElem? (i := 21) (by decide +kernel))) rfl
theorem wq23 : (Jvm.Cond.initialized "WeirStream$Spans") ∈ lw_all := lw_in (lw_tb (List.mem_of_getElem? (i := 23) (by decide +kernel))) rfl
theorem wq55 : (Jvm.Cond.fieldLink "java/util/ArrayList" (9 : Nat) "java/util/ArrayList" "elementData" "[Ljava/lang/Object;") ∈ lw_all := lw_in (lw_tb (List.mem_of_getElem? (i := 55) (by decide +kernel))) rfl
theorem wq56 : (Jvm.Cond.fieldLink "java/util/ArrayList" (48 : Nat) "java/util/ArrayList" "size" "I") ∈ lw_all := lw_in (lw_tb (List.mem_of_getElem? (i := 56) (by decide +kernel))) rfl
theorem wq60 : (Jvm.Cond.lays "java/util/ArrayList" "java/util/ArrayList" "elementData" "[Ljava/lang/Object;") ∈ lw_all := lw_in (lw_tb (List.mem_of_getElem? (i := 60) (by decide +kernel))) rfl
theorem wq62 : (Jvm.Cond.lays "java/util/ArrayList" "java/util/ArrayList" "size" "I") ∈ lw_all := lw_in (lw_tb (List.mem_of_getElem? (i := 62) (by decide +kernel))) rfl
theorem wq64 : (Jvm.Cond.lays "java/util/ArrayList" "java/util/AbstractList" "modCount" "I") ∈ lw_all := lw_in (lw_tb (List.mem_of_getElem? (i := 64) (by decide +kernel))) rfl
theorem wq120 : (Jvm.Cond.instanceMethod ({ cls := "java/util/ArrayList", name := "size", desc := "()I" } : Jvm.MethodName)) ∈ lw_all := lw_in (lw_tb (List.mem_of_getElem? (i := 120) (by decide +kernel))) rfl
theorem wq121 : (Jvm.Cond.selects "java/util/ArrayList" ({ cls := "java/util/ArrayList", name := "size", desc := "()I" } : Jvm.MethodName) ({ cls := "java/util/ArrayList", name := "size", desc := "()I" } : Jvm.MethodName)) ∈ lw_all := lw_in (lw_tb (List.mem_of_getElem? (i := 121) (by decide +kernel))) rfl
theorem wq122 : (Jvm.Cond.code ({ cls := "java/util/ArrayList", name := "size", desc := "()I" } : Jvm.MethodName) prog_30_method_8_code (1 : Nat) (Option.some Jvm.ClassFile.FieldType.int)) ∈ lw_all := lw_in (lw_tb (List.mem_of_getElem? (i := 122) (by decide +kernel))) rfl
theorem wq228 : (Jvm.Cond.instanceMethod ({ cls := "java/util/ArrayList", name := "get", desc := "(I)Ljava/lang/Object;" } : Jvm.MethodName)) ∈ lw_all := lw_in (lw_tb (List.mem_of_getElem? (i := 228) (by decide +kernel))) rfl
theorem wq229 : (Jvm.Cond.selects "java/util/ArrayList" ({ cls := "java/util/ArrayList", name := "get", desc := "(I)Ljava/lang/Object;" } : Jvm.MethodName) ({ cls := "java/util/ArrayList", name := "get", desc := "(I)Ljava/lang/Object;" } : Jvm.MethodName)) ∈ lw_all := lw_in (lw_tb (List.mem_of_getElem? (i := 229) (by decide +kernel))) rfl
theorem wq230 : (Jvm.Cond.code ({ cls := "java/util/ArrayList", name := "get", desc := "(I)Ljava/lang/Object;" } : Jvm.MethodName) prog_30_method_20_code (2 : Nat) (Option.some (Jvm.ClassFile.FieldType.object "java/lang/Object"))) ∈ lw_all := lw_in (lw_tb (List.mem_of_getElem? (i := 230) (by decide +kernel))) rfl
theorem wq231 : (Jvm.Cond.methodLink "java/util/ArrayList" (118 : Nat) ({ cls := "java/util/Objects", name := "checkIndex", desc := "(II)I" } : Jvm.MethodName)) ∈ lw_all := lw_in (lw_tb (List.mem_of_getElem? (i := 231) (by decide +kernel))) rfl
theorem wq232 : (Jvm.Cond.static ({ cls := "java/util/Objects", name := "checkIndex", desc := "(II)I" } : Jvm.MethodName)) ∈ lw_all := lw_in (lw_tb (List.mem_of_getElem? (i := 232) (by decide +kernel))) rfl
theorem wq233 : (Jvm.Cond.code ({ cls := "java/util/Objects", name := "checkIndex", desc := "(II)I" } : Jvm.MethodName) prog_34_method_17_code (2 : Nat) (Option.some Jvm.ClassFile.FieldType.int)) ∈ lw_all := lw_in (lw_tb (List.mem_of_getElem? (i := 233) (by decide +kernel))) rfl
theorem wq234 : (Jvm.Cond.methodLink "java/util/Objects" (105 : Nat) ({ cls := "jdk/internal/util/Preconditions", name := "checkIndex", desc := "(IILjava/util/function/BiFunction;)I" } : Jvm.MethodName)) ∈ lw_all := lw_in (lw_tb (List.mem_of_getElem? (i := 234) (by decide +kernel))) rfl
theorem wq235 : (Jvm.Cond.static ({ cls := "jdk/internal/util/Preconditions", name := "checkIndex", desc := "(IILjava/util/function/BiFunction;)I" } : Jvm.MethodName)) ∈ lw_all := lw_in (lw_tb (List.mem_of_getElem? (i := 235) (by decide +kernel))) rfl
theorem wq236 : (Jvm.Cond.code ({ cls := "jdk/internal/util/Preconditions", name := "checkIndex", desc := "(IILjava/util/function/BiFunction;)I" } : Jvm.MethodName) prog_38_method_11_code (3 : Nat) (Option.some Jvm.ClassFile.FieldType.int)) ∈ lw_all := lw_in (lw_tb (List.mem_of_getElem? (i := 236) (by decide +kernel))) rfl
theorem wq237 : (Jvm.Cond.methodLink "java/util/ArrayList" (123 : Nat) ({ cls := "java/util/ArrayList", name := "elementData", desc := "(I)Ljava/lang/Object;" } : Jvm.MethodName)) ∈ lw_all := lw_in (lw_tb (List.mem_of_getElem? (i := 237) (by decide +kernel))) rfl
theorem wq238 : (Jvm.Cond.instanceMethod ({ cls := "java/util/ArrayList", name := "elementData", desc := "(I)Ljava/lang/Object;" } : Jvm.MethodName)) ∈ lw_all := lw_in (lw_tb (List.mem_of_getElem? (i := 238) (by decide +kernel))) rfl
theorem wq239 : (Jvm.Cond.selects "java/util/ArrayList" ({ cls := "java/util/ArrayList", name := "elementData", desc := "(I)Ljava/lang/Object;" } : Jvm.MethodName) ({ cls := "java/util/ArrayList", name := "elementData", desc := "(I)Ljava/lang/Object;" } : Jvm.MethodName)) ∈ lw_all := lw_in (lw_tb (List.mem_of_getElem? (i := 239) (by decide +kernel))) rfl
theorem wq240 : (Jvm.Cond.code ({ cls := "java/util/ArrayList", name := "elementData", desc := "(I)Ljava/lang/Object;" } : Jvm.MethodName) prog_30_method_18_code (2 : Nat) (Option.some (Jvm.ClassFile.FieldType.object "java/lang/Object"))) ∈ lw_all := lw_in (lw_tb (List.mem_of_getElem? (i := 240) (by decide +kernel))) rfl
theorem wq266 : (Jvm.Cond.instanceMethod ({ cls := "WeirStream$Row", name := "length", desc := "()I" } : Jvm.MethodName)) ∈ lw_all := lw_in (lw_tb (List.mem_of_getElem? (i := 266) (by decide +kernel))) rfl
theorem wq267 : (Jvm.Cond.selects "WeirStream$Row" ({ cls := "WeirStream$Row", name := "length", desc := "()I" } : Jvm.MethodName) ({ cls := "WeirStream$Row", name := "length", desc := "()I" } : Jvm.MethodName)) ∈ lw_all := lw_in (lw_tb (List.mem_of_getElem? (i := 267) (by decide +kernel))) rfl
theorem wq268 : (Jvm.Cond.code ({ cls := "WeirStream$Row", name := "length", desc := "()I" } : Jvm.MethodName) prog_8_method_2_code (1 : Nat) (Option.some Jvm.ClassFile.FieldType.int)) ∈ lw_all := lw_in (lw_tb (List.mem_of_getElem? (i := 268) (by decide +kernel))) rfl
theorem wq290 : (Jvm.Cond.methodLink "WeirStream$Outlet" (32 : Nat) ({ cls := "WeirStream$Row", name := "length", desc := "()I" } : Jvm.MethodName)) ∈ lw_all := lw_in (lw_tb (List.mem_of_getElem? (i := 290) (by decide +kernel))) rfl
theorem wq291 : (Jvm.Cond.methodLink "WeirStream$Outlet" (36 : Nat) ({ cls := "WeirStream$Outlet", name := "leastGiven", desc := "()I" } : Jvm.MethodName)) ∈ lw_all := lw_in (lw_tb (List.mem_of_getElem? (i := 291) (by decide +kernel))) rfl
theorem wq293 : (Jvm.Cond.instanceMethod ({ cls := "WeirStream$Outlet", name := "leastGiven", desc := "()I" } : Jvm.MethodName)) ∈ lw_all := lw_in (lw_tb (List.mem_of_getElem? (i := 293) (by decide +kernel))) rfl
theorem wq295 : (Jvm.Cond.code ({ cls := "WeirStream$Outlet", name := "leastGiven", desc := "()I" } : Jvm.MethodName) prog_6_method_4_code (3 : Nat) (Option.some Jvm.ClassFile.FieldType.int)) ∈ lw_all := lw_in (lw_tb (List.mem_of_getElem? (i := 295) (by decide +kernel))) rfl
theorem wq296 : (Jvm.Cond.methodLink "WeirStream$Outlet" (39 : Nat) ({ cls := "java/util/ArrayList", name := "size", desc := "()I" } : Jvm.MethodName)) ∈ lw_all := lw_in (lw_tb (List.mem_of_getElem? (i := 296) (by decide +kernel))) rfl
theorem wq297 : (Jvm.Cond.methodLink "WeirStream$Outlet" (42 : Nat) ({ cls := "java/util/ArrayList", name := "get", desc := "(I)Ljava/lang/Object;" } : Jvm.MethodName)) ∈ lw_all := lw_in (lw_tb (List.mem_of_getElem? (i := 297) (by decide +kernel))) rfl
theorem wq298 : (Jvm.Cond.classLink "WeirStream$Outlet" (23 : Nat) "WeirStream$Channel") ∈ lw_all := lw_in (lw_tb (List.mem_of_getElem? (i := 298) (by decide +kernel))) rfl
theorem wq299 : (Jvm.Cond.methodLink "WeirStream$Outlet" (50 : Nat) ({ cls := "java/lang/Math", name := "min", desc := "(II)I" } : Jvm.MethodName)) ∈ lw_all := lw_in (lw_tb (List.mem_of_getElem? (i := 299) (by decide +kernel))) rfl
theorem wq308 : (Jvm.Cond.methodLink "WeirStream$Channel" (27 : Nat) ({ cls := "WeirStream$Channel", name := "length", desc := "()I" } : Jvm.MethodName)) ∈ lw_all := lw_in (lw_tb (List.mem_of_getElem? (i := 308) (by decide +kernel))) rfl
theorem wq309 : (Jvm.Cond.instanceMethod ({ cls := "WeirStream$Channel", name := "length", desc := "()I" } : Jvm.MethodName)) ∈ lw_all := lw_in (lw_tb (List.mem_of_getElem? (i := 309) (by decide +kernel))) rfl
theorem wq310 : (Jvm.Cond.selects "WeirStream$Channel" ({ cls := "WeirStream$Channel", name := "length", desc := "()I" } : Jvm.MethodName) ({ cls := "WeirStream$Channel", name := "length", desc := "()I" } : Jvm.MethodName)) ∈ lw_all := lw_in (lw_tb (List.mem_of_getElem? (i := 310) (by decide +kernel))) rfl
theorem wq311 : (Jvm.Cond.code ({ cls := "WeirStream$Channel", name := "length", desc := "()I" } : Jvm.MethodName) prog_3_method_2_code (1 : Nat) (Option.some Jvm.ClassFile.FieldType.int)) ∈ lw_all := lw_in (lw_tb (List.mem_of_getElem? (i := 311) (by decide +kernel))) rfl
theorem wq312 : (Jvm.Cond.methodLink "WeirStream$Channel" (13 : Nat) ({ cls := "WeirStream$Row", name := "length", desc := "()I" } : Jvm.MethodName)) ∈ lw_all := lw_in (lw_tb (List.mem_of_getElem? (i := 312) (by decide +kernel))) rfl
theorem wq391 : (Jvm.Cond.instanceMethod ({ cls := "WeirStream$Row", name := "at", desc := "(I)J" } : Jvm.MethodName)) ∈ lw_all := lw_in (lw_tb (List.mem_of_getElem? (i := 391) (by decide +kernel))) rfl
theorem wq392 : (Jvm.Cond.selects "WeirStream$Row" ({ cls := "WeirStream$Row", name := "at", desc := "(I)J" } : Jvm.MethodName) ({ cls := "WeirStream$Row", name := "at", desc := "(I)J" } : Jvm.MethodName)) ∈ lw_all := lw_in (lw_tb (List.mem_of_getElem? (i := 392) (by decide +kernel))) rfl
theorem wq393 : (Jvm.Cond.code ({ cls := "WeirStream$Row", name := "at", desc := "(I)J" } : Jvm.MethodName) prog_8_method_3_code (2 : Nat) (Option.some Jvm.ClassFile.FieldType.long)) ∈ lw_all := lw_in (lw_tb (List.mem_of_getElem? (i := 393) (by decide +kernel))) rfl
theorem wq416 : (Jvm.Cond.methodLink "WeirStream$Spans" (21 : Nat) ({ cls := "WeirStream$Row", name := "length", desc := "()I" } : Jvm.MethodName)) ∈ lw_all := lw_in (lw_tb (List.mem_of_getElem? (i := 416) (by decide +kernel))) rfl
theorem wq417 : (Jvm.Cond.methodLink "WeirStream$Spans" (25 : Nat) ({ cls := "WeirStream$Row", name := "at", desc := "(I)J" } : Jvm.MethodName)) ∈ lw_all := lw_in (lw_tb (List.mem_of_getElem? (i := 417) (by decide +kernel))) rfl
theorem wq439 : (Jvm.Cond.constantLong "WeirStream$Spans" (29 : Nat) (255 : Int64)) ∈ lw_all := lw_in (lw_tb (List.mem_of_getElem? (i := 439) (by decide +kernel))) rfl
theorem wq552 : (Jvm.Cond.instanceMethod ({ cls := "WeirStream$Spans", name := "length", desc := "()I" } : Jvm.MethodName)) ∈ lw_all := lw_in (lw_tb (List.mem_of_getElem? (i := 552) (by decide +kernel))) rfl
theorem wq553 : (Jvm.Cond.selects "WeirStream$Spans" ({ cls := "WeirStream$Spans", name := "length", desc := "()I" } : Jvm.MethodName) ({ cls := "WeirStream$Spans", name := "length", desc := "()I" } : Jvm.MethodName)) ∈ lw_all := lw_in (lw_tb (List.mem_of_getElem? (i := 553) (by decide +kernel))) rfl
theorem wq554 : (Jvm.Cond.code ({ cls := "WeirStream$Spans", name := "length", desc := "()I" } : Jvm.MethodName) prog_9_method_3_code (1 : Nat) (Option.some Jvm.ClassFile.FieldType.int)) ∈ lw_all := lw_in (lw_tb (List.mem_of_getElem? (i := 554) (by decide +kernel))) rfl
theorem wq559 : (Jvm.Cond.constantLong "WeirStream$Spans" (31 : Nat) (2097151 : Int64)) ∈ lw_all := lw_in (lw_tb (List.mem_of_getElem? (i := 559) (by decide +kernel))) rfl
theorem wq647 : (Jvm.Cond.methodLink "WeirStream$State" (40 : Nat) ({ cls := "WeirStream$Spans", name := "length", desc := "()I" } : Jvm.MethodName)) ∈ lw_all := lw_in (lw_tb (List.mem_of_getElem? (i := 647) (by decide +kernel))) rfl
theorem wq648 : (Jvm.Cond.methodLink "WeirStream$State" (44 : Nat) ({ cls := "WeirStream$Row", name := "length", desc := "()I" } : Jvm.MethodName)) ∈ lw_all := lw_in (lw_tb (List.mem_of_getElem? (i := 648) (by decide +kernel))) rfl
theorem wq913 : (Jvm.Cond.fieldLink "WeirStream$Row" (9 : Nat) "WeirStream$Row" "cells" "[J") ∈ lw_all := lw_in (lw_tb (List.mem_of_getElem? (i := 913) (by decide +kernel))) rfl
theorem wq914 : (Jvm.Cond.fieldLink "WeirStream$Row" (13 : Nat) "WeirStream$Row" "length" "I") ∈ lw_all := lw_in (lw_tb (List.mem_of_getElem? (i := 914) (by decide +kernel))) rfl
theorem wq915 : (Jvm.Cond.lays "WeirStream$Row" "WeirStream$Row" "cells" "[J") ∈ lw_all := lw_in (lw_tb (List.mem_of_getElem? (i := 915) (by decide +kernel))) rfl
theorem wq917 : (Jvm.Cond.lays "WeirStream$Row" "WeirStream$Row" "length" "I") ∈ lw_all := lw_in (lw_tb (List.mem_of_getElem? (i := 917) (by decide +kernel))) rfl
theorem wq937 : (Jvm.Cond.fieldLink "WeirStream$Channel" (7 : Nat) "WeirStream$Channel" "items" "LWeirStream$Row;") ∈ lw_all := lw_in (lw_tb (List.mem_of_getElem? (i := 937) (by decide +kernel))) rfl
theorem wq938 : (Jvm.Cond.fieldLink "WeirStream$Channel" (19 : Nat) "WeirStream$Channel" "given" "I") ∈ lw_all := lw_in (lw_tb (List.mem_of_getElem? (i := 938) (by decide +kernel))) rfl
theorem wq940 : (Jvm.Cond.fieldLink "WeirStream$Channel" (23 : Nat) "WeirStream$Channel" "isShut" "Z") ∈ lw_all := lw_in (lw_tb (List.mem_of_getElem? (i := 940) (by decide +kernel))) rfl
theorem wq944 : (Jvm.Cond.laysFinal "WeirStream$Channel" "WeirStream$Channel" "items" "LWeirStream$Row;") ∈ lw_all := lw_in (lw_tb (List.mem_of_getElem? (i := 944) (by decide +kernel))) rfl
theorem wq946 : (Jvm.Cond.lays "WeirStream$Channel" "WeirStream$Channel" "given" "I") ∈ lw_all := lw_in (lw_tb (List.mem_of_getElem? (i := 946) (by decide +kernel))) rfl
theorem wq948 : (Jvm.Cond.lays "WeirStream$Channel" "WeirStream$Channel" "isShut" "Z") ∈ lw_all := lw_in (lw_tb (List.mem_of_getElem? (i := 948) (by decide +kernel))) rfl
theorem wq1016 : (Jvm.Cond.fieldLink "WeirStream$Outlet" (10 : Nat) "WeirStream$Outlet" "items" "LWeirStream$Row;") ∈ lw_all := lw_in (lw_tb (List.mem_of_getElem? (i := 1016) (by decide +kernel))) rfl
theorem wq1018 : (Jvm.Cond.fieldLink "WeirStream$Outlet" (19 : Nat) "WeirStream$Outlet" "channels" "Ljava/util/ArrayList;") ∈ lw_all := lw_in (lw_tb (List.mem_of_getElem? (i := 1018) (by decide +kernel))) rfl
theorem wq1021 : (Jvm.Cond.laysFinal "WeirStream$Outlet" "WeirStream$Outlet" "items" "LWeirStream$Row;") ∈ lw_all := lw_in (lw_tb (List.mem_of_getElem? (i := 1021) (by decide +kernel))) rfl
theorem wq1023 : (Jvm.Cond.laysFinal "WeirStream$Outlet" "WeirStream$Outlet" "channels" "Ljava/util/ArrayList;") ∈ lw_all := lw_in (lw_tb (List.mem_of_getElem? (i := 1023) (by decide +kernel))) rfl
theorem wq1042 : (Jvm.Cond.fieldLink "WeirStream$Spans" (12 : Nat) "WeirStream$Spans" "names" "LWeirStream$Row;") ∈ lw_all := lw_in (lw_tb (List.mem_of_getElem? (i := 1042) (by decide +kernel))) rfl
theorem wq1043 : (Jvm.Cond.fieldLink "WeirStream$Spans" (18 : Nat) "WeirStream$Spans" "accounts" "LWeirStream$Row;") ∈ lw_all := lw_in (lw_tb (List.mem_of_getElem? (i := 1043) (by decide +kernel))) rfl
theorem wq1044 : (Jvm.Cond.laysFinal "WeirStream$Spans" "WeirStream$Spans" "names" "LWeirStream$Row;") ∈ lw_all := lw_in (lw_tb (List.mem_of_getElem? (i := 1044) (by decide +kernel))) rfl
theorem wq1046 : (Jvm.Cond.laysFinal "WeirStream$Spans" "WeirStream$Spans" "accounts" "LWeirStream$Row;") ∈ lw_all := lw_in (lw_tb (List.mem_of_getElem? (i := 1046) (by decide +kernel))) rfl
theorem wq1073 : (Jvm.Cond.fieldLink "WeirStream$State" (26 : Nat) "WeirStream$State" "spans" "LWeirStream$Spans;") ∈ lw_all := lw_in (lw_tb (List.mem_of_getElem? (i := 1073) (by decide +kernel))) rfl
theorem wq1076 : (Jvm.Cond.fieldLink "WeirStream$State" (33 : Nat) "WeirStream$State" "left" "LWeirStream$Row;") ∈ lw_all := lw_in (lw_tb (List.mem_of_getElem? (i := 1076) (by decide +kernel))) rfl
theorem wq1078 : (Jvm.Cond.fieldLink "WeirStream$State" (37 : Nat) "WeirStream$State" "right" "LWeirStream$Row;") ∈ lw_all := lw_in (lw_tb (List.mem_of_getElem? (i := 1078) (by decide +kernel))) rfl
theorem wq1080 : (Jvm.Cond.lays "WeirStream$State" "WeirStream$State" "mark" "I") ∈ lw_all := lw_in (lw_tb (List.mem_of_getElem? (i := 1080) (by decide +kernel))) rfl
theorem wq1082 : (Jvm.Cond.lays "WeirStream$State" "WeirStream$State" "firstMark" "I") ∈ lw_all := lw_in (lw_tb (List.mem_of_getElem? (i := 1082) (by decide +kernel))) rfl
theorem wq1084 : (Jvm.Cond.lays "WeirStream$State" "WeirStream$State" "secondMark" "I") ∈ lw_all := lw_in (lw_tb (List.mem_of_getElem? (i := 1084) (by decide +kernel))) rfl
theorem wq1086 : (Jvm.Cond.lays "WeirStream$State" "WeirStream$State" "tookSecond" "Z") ∈ lw_all := lw_in (lw_tb (List.mem_of_getElem? (i := 1086) (by decide +kernel))) rfl
theorem wq1088 : (Jvm.Cond.lays "WeirStream$State" "WeirStream$State" "taken" "I") ∈ lw_all := lw_in (lw_tb (List.mem_of_getElem? (i := 1088) (by decide +kernel))) rfl
theorem wq1090 : (Jvm.Cond.lays "WeirStream$State" "WeirStream$State" "emitted" "I") ∈ lw_all := lw_in (lw_tb (List.mem_of_getElem? (i := 1090) (by decide +kernel))) rfl
theorem wq1092 : (Jvm.Cond.lays "WeirStream$State" "WeirStream$State" "late" "I") ∈ lw_all := lw_in (lw_tb (List.mem_of_getElem? (i := 1092) (by decide +kernel))) rfl
theorem wq1094 : (Jvm.Cond.lays "WeirStream$State" "WeirStream$State" "outputCount" "I") ∈ lw_all := lw_in (lw_tb (List.mem_of_getElem? (i := 1094) (by decide +kernel))) rfl
theorem wq1096 : (Jvm.Cond.laysFinal "WeirStream$State" "WeirStream$State" "spans" "LWeirStream$Spans;") ∈ lw_all := lw_in (lw_tb (List.mem_of_getElem? (i := 1096) (by decide +kernel))) rfl
theorem wq1098 : (Jvm.Cond.laysFinal "WeirStream$State" "WeirStream$State" "left" "LWeirStream$Row;") ∈ lw_all := lw_in (lw_tb (List.mem_of_getElem? (i := 1098) (by decide +kernel))) rfl
theorem wq1100 : (Jvm.Cond.laysFinal "WeirStream$State" "WeirStream$State" "right" "LWeirStream$Row;") ∈ lw_all := lw_in (lw_tb (List.mem_of_getElem? (i := 1100) (by decide +kernel))) rfl
theorem wr939 : (Jvm.Cond.fieldLinkNest "WeirStream$Outlet" (46 : Nat) "WeirStream$Channel" "given" "I" "WeirStream") ∈ lw_tbl := lw_tb (List.mem_of_getElem? (i := 939) (by decide +kernel))
theorem ws5 : Cond.selects "WeirStream$Outlet" ⟨"WeirStream$Outlet", "leastGiven", "()I"⟩ ⟨"WeirStream$Outlet", "leastGiven", "()I"⟩ ∈ lw_all := lw_in (lw_ps (List.mem_of_getElem? (i := 5) (by decide +kernel))) rfl
theorem dX6_length_0 : decode cX6_length 0 = .ok (.aload_n 0, 1) := by decide +kernel
theorem dX6_length_1 : decode cX6_length 1 = .ok (.getfield 13, 3) := by decide +kernel
theorem dX6_length_4 : decode cX6_length 4 = .ok (.ireturn, 1) := by decide +kernel
theorem dX6_at_0 : decode cX6_at 0 = .ok (.iload_n 1, 1) := by decide +kernel
theorem dX6_at_1 : decode cX6_at 1 = .ok (.ifCond .lt 29, 3) := by decide +kernel
theorem dX6_at_30 : decode cX6_at 30 = .ok (.lconst 0, 1) := by decide +kernel
theorem dX6_at_31 : decode cX6_at 31 = .ok (.lreturn, 1) := by decide +kernel
theorem dX6_at_4 : decode cX6_at 4 = .ok (.iload_n 1, 1) := by decide +kernel
theorem dX6_at_5 : decode cX6_at 5 = .ok (.aload_n 0, 1) := by decide +kernel
theorem dX6_at_6 : decode cX6_at 6 = .ok (.getfield 13, 3) := by decide +kernel
theorem dX6_at_9 : decode cX6_at 9 = .ok (.if_icmp .ge 21, 3) := by decide +kernel
theorem dX6_at_12 : decode cX6_at 12 = .ok (.iload_n 1, 1) := by decide +kernel
theorem dX6_at_13 : decode cX6_at 13 = .ok (.aload_n 0, 1) := by decide +kernel
theorem dX6_at_14 : decode cX6_at 14 = .ok (.getfield 9, 3) := by decide +kernel
theorem dX6_at_17 : decode cX6_at 17 = .ok (.arraylength, 1) := by decide +kernel
theorem dX6_at_18 : decode cX6_at 18 = .ok (.if_icmp .ge 12, 3) := by decide +kernel
theorem dX6_at_21 : decode cX6_at 21 = .ok (.aload_n 0, 1) := by decide +kernel
theorem dX6_at_22 : decode cX6_at 22 = .ok (.getfield 9, 3) := by decide +kernel
theorem dX6_at_25 : decode cX6_at 25 = .ok (.iload_n 1, 1) := by decide +kernel
theorem dX6_at_26 : decode cX6_at 26 = .ok (.laload, 1) := by decide +kernel
theorem dX6_at_27 : decode cX6_at 27 = .ok (.goto 4, 3) := by decide +kernel
theorem dJ3_checkIndex_8e157_0 : decode cJ3_checkIndex_8e157 0 = .ok (.iload_n 0, 1) := by decide +kernel
theorem dJ3_checkIndex_8e157_1 : decode cJ3_checkIndex_8e157 1 = .ok (.ifCond .lt 8, 3) := by decide +kernel
theorem dJ3_checkIndex_8e157_4 : decode cJ3_checkIndex_8e157 4 = .ok (.iload_n 0, 1) := by decide +kernel
theorem dJ3_checkIndex_8e157_5 : decode cJ3_checkIndex_8e157 5 = .ok (.iload_n 1, 1) := by decide +kernel
theorem dJ3_checkIndex_8e157_6 : decode cJ3_checkIndex_8e157 6 = .ok (.if_icmp .lt 10, 3) := by decide +kernel
theorem dJ3_checkIndex_8e157_16 : decode cJ3_checkIndex_8e157 16 = .ok (.iload_n 0, 1) := by decide +kernel
theorem dJ3_checkIndex_8e157_17 : decode cJ3_checkIndex_8e157 17 = .ok (.ireturn, 1) := by decide +kernel
theorem dJ15_checkIndex_7cf53_0 : decode cJ15_checkIndex_7cf53 0 = .ok (.iload_n 0, 1) := by decide +kernel
theorem dJ15_checkIndex_7cf53_1 : decode cJ15_checkIndex_7cf53 1 = .ok (.iload_n 1, 1) := by decide +kernel
theorem dJ15_checkIndex_7cf53_2 : decode cJ15_checkIndex_7cf53 2 = .ok (.aconst_null, 1) := by decide +kernel
theorem dJ15_checkIndex_7cf53_3 : decode cJ15_checkIndex_7cf53 3 = .ok (.invokestatic 105, 3) := by decide +kernel
theorem dJ15_checkIndex_7cf53_6 : decode cJ15_checkIndex_7cf53 6 = .ok (.ireturn, 1) := by decide +kernel
theorem dJx4a65c_size_8abf5_0 : decode cJx4a65c_size_8abf5 0 = .ok (.aload_n 0, 1) := by decide +kernel
theorem dJx4a65c_size_8abf5_1 : decode cJx4a65c_size_8abf5 1 = .ok (.getfield 48, 3) := by decide +kernel
theorem dJx4a65c_size_8abf5_4 : decode cJx4a65c_size_8abf5 4 = .ok (.ireturn, 1) := by decide +kernel
theorem dJx4a65c_elementData_915e3_0 : decode cJx4a65c_elementData_915e3 0 = .ok (.aload_n 0, 1) := by decide +kernel
theorem dJx4a65c_elementData_915e3_1 : decode cJx4a65c_elementData_915e3 1 = .ok (.getfield 9, 3) := by decide +kernel
theorem dJx4a65c_elementData_915e3_4 : decode cJx4a65c_elementData_915e3 4 = .ok (.iload_n 1, 1) := by decide +kernel
theorem dJx4a65c_elementData_915e3_5 : decode cJx4a65c_elementData_915e3 5 = .ok (.aaload, 1) := by decide +kernel
theorem dJx4a65c_elementData_915e3_6 : decode cJx4a65c_elementData_915e3 6 = .ok (.areturn, 1) := by decide +kernel
theorem dJx4a65c_get_915e3_0 : decode cJx4a65c_get_915e3 0 = .ok (.iload_n 1, 1) := by decide +kernel
theorem dJx4a65c_get_915e3_1 : decode cJx4a65c_get_915e3 1 = .ok (.aload_n 0, 1) := by decide +kernel
theorem dJx4a65c_get_915e3_2 : decode cJx4a65c_get_915e3 2 = .ok (.getfield 48, 3) := by decide +kernel
theorem dJx4a65c_get_915e3_5 : decode cJx4a65c_get_915e3 5 = .ok (.invokestatic 118, 3) := by decide +kernel
theorem dJx4a65c_get_915e3_8 : decode cJx4a65c_get_915e3 8 = .ok (.pop, 1) := by decide +kernel
theorem dJx4a65c_get_915e3_9 : decode cJx4a65c_get_915e3 9 = .ok (.aload_n 0, 1) := by decide +kernel
theorem dJx4a65c_get_915e3_10 : decode cJx4a65c_get_915e3 10 = .ok (.iload_n 1, 1) := by decide +kernel
theorem dJx4a65c_get_915e3_11 : decode cJx4a65c_get_915e3 11 = .ok (.invokevirtual 123, 3) := by decide +kernel
theorem dJx4a65c_get_915e3_14 : decode cJx4a65c_get_915e3 14 = .ok (.areturn, 1) := by decide +kernel
theorem dX1_length_0 : decode cX1_length 0 = .ok (.aload_n 0, 1) := by decide +kernel
theorem dX1_length_1 : decode cX1_length 1 = .ok (.getfield 7, 3) := by decide +kernel
theorem dX1_length_4 : decode cX1_length 4 = .ok (.invokevirtual 13, 3) := by decide +kernel
theorem dX1_length_7 : decode cX1_length 7 = .ok (.aload_n 0, 1) := by decide +kernel
theorem dX1_length_8 : decode cX1_length 8 = .ok (.getfield 19, 3) := by decide +kernel
theorem dX1_length_11 : decode cX1_length 11 = .ok (.isub, 1) := by decide +kernel
theorem dX1_length_12 : decode cX1_length 12 = .ok (.ireturn, 1) := by decide +kernel
theorem dX1_canGive_0 : decode cX1_canGive 0 = .ok (.aload_n 0, 1) := by decide +kernel
theorem dX1_canGive_1 : decode cX1_canGive 1 = .ok (.getfield 23, 3) := by decide +kernel
theorem dX1_canGive_4 : decode cX1_canGive 4 = .ok (.ifCond .ne 14, 3) := by decide +kernel
theorem dX1_canGive_7 : decode cX1_canGive 7 = .ok (.aload_n 0, 1) := by decide +kernel
theorem dX1_canGive_8 : decode cX1_canGive 8 = .ok (.invokevirtual 27, 3) := by decide +kernel
theorem dX1_canGive_11 : decode cX1_canGive 11 = .ok (.ifCond .le 7, 3) := by decide +kernel
theorem dX1_canGive_18 : decode cX1_canGive 18 = .ok (.iconst 0, 1) := by decide +kernel
theorem dX1_canGive_19 : decode cX1_canGive 19 = .ok (.ireturn, 1) := by decide +kernel
theorem dX1_canGive_14 : decode cX1_canGive 14 = .ok (.iconst 1, 1) := by decide +kernel
theorem dX1_canGive_15 : decode cX1_canGive 15 = .ok (.goto 4, 3) := by decide +kernel
theorem dX4_leastGiven_10 : decode cX4_leastGiven 10 = .ok (.iload_n 2, 1) := by decide +kernel
theorem dX4_leastGiven_11 : decode cX4_leastGiven 11 = .ok (.aload_n 0, 1) := by decide +kernel
theorem dX4_leastGiven_12 : decode cX4_leastGiven 12 = .ok (.getfield 19, 3) := by decide +kernel
theorem dX4_leastGiven_15 : decode cX4_leastGiven 15 = .ok (.invokevirtual 39, 3) := by decide +kernel
theorem dX4_leastGiven_18 : decode cX4_leastGiven 18 = .ok (.if_icmp .ge 28, 3) := by decide +kernel
theorem dX4_leastGiven_46 : decode cX4_leastGiven 46 = .ok (.iload_n 1, 1) := by decide +kernel
theorem dX4_leastGiven_47 : decode cX4_leastGiven 47 = .ok (.ireturn, 1) := by decide +kernel
theorem dX4_leastGiven_21 : decode cX4_leastGiven 21 = .ok (.iload_n 1, 1) := by decide +kernel
theorem dX4_leastGiven_22 : decode cX4_leastGiven 22 = .ok (.aload_n 0, 1) := by decide +kernel
theorem dX4_leastGiven_23 : decode cX4_leastGiven 23 = .ok (.getfield 19, 3) := by decide +kernel
theorem dX4_leastGiven_26 : decode cX4_leastGiven 26 = .ok (.iload_n 2, 1) := by decide +kernel
theorem dX4_leastGiven_27 : decode cX4_leastGiven 27 = .ok (.invokevirtual 42, 3) := by decide +kernel
theorem dX4_leastGiven_30 : decode cX4_leastGiven 30 = .ok (.checkcast 23, 3) := by decide +kernel
theorem dX4_leastGiven_33 : decode cX4_leastGiven 33 = .ok (.getfield 46, 3) := by decide +kernel
theorem dX4_leastGiven_36 : decode cX4_leastGiven 36 = .ok (.invokestatic 50, 3) := by decide +kernel
theorem dX4_leastGiven_39 : decode cX4_leastGiven 39 = .ok (.istore_n 1, 1) := by decide +kernel
theorem dX4_leastGiven_40 : decode cX4_leastGiven 40 = .ok (.iinc 2 1, 3) := by decide +kernel
theorem dX4_leastGiven_43 : decode cX4_leastGiven 43 = .ok (.goto (-33), 3) := by decide +kernel
theorem dX4_leastGiven_0 : decode cX4_leastGiven 0 = .ok (.aload_n 0, 1) := by decide +kernel
theorem dX4_leastGiven_1 : decode cX4_leastGiven 1 = .ok (.getfield 10, 3) := by decide +kernel
theorem dX4_leastGiven_4 : decode cX4_leastGiven 4 = .ok (.invokevirtual 32, 3) := by decide +kernel
theorem dX4_leastGiven_7 : decode cX4_leastGiven 7 = .ok (.istore_n 1, 1) := by decide +kernel
theorem dX4_leastGiven_8 : decode cX4_leastGiven 8 = .ok (.iconst 0, 1) := by decide +kernel
theorem dX4_leastGiven_9 : decode cX4_leastGiven 9 = .ok (.istore_n 2, 1) := by decide +kernel
theorem dX4_isBelow_0 : decode cX4_isBelow 0 = .ok (.aload_n 0, 1) := by decide +kernel
theorem dX4_isBelow_1 : decode cX4_isBelow 1 = .ok (.getfield 10, 3) := by decide +kernel
theorem dX4_isBelow_4 : decode cX4_isBelow 4 = .ok (.invokevirtual 32, 3) := by decide +kernel
theorem dX4_isBelow_7 : decode cX4_isBelow 7 = .ok (.aload_n 0, 1) := by decide +kernel
theorem dX4_isBelow_8 : decode cX4_isBelow 8 = .ok (.invokevirtual 36, 3) := by decide +kernel
theorem dX4_isBelow_11 : decode cX4_isBelow 11 = .ok (.isub, 1) := by decide +kernel
theorem dX4_isBelow_12 : decode cX4_isBelow 12 = .ok (.iload_n 1, 1) := by decide +kernel
theorem dX4_isBelow_13 : decode cX4_isBelow 13 = .ok (.if_icmp .ge 7, 3) := by decide +kernel
theorem dX4_isBelow_20 : decode cX4_isBelow 20 = .ok (.iconst 0, 1) := by decide +kernel
theorem dX4_isBelow_21 : decode cX4_isBelow 21 = .ok (.ireturn, 1) := by decide +kernel
theorem dX4_isBelow_16 : decode cX4_isBelow 16 = .ok (.iconst 1, 1) := by decide +kernel
theorem dX4_isBelow_17 : decode cX4_isBelow 17 = .ok (.goto 4, 3) := by decide +kernel
theorem dX7_length_0 : decode cX7_length 0 = .ok (.aload_n 0, 1) := by decide +kernel
theorem dX7_length_1 : decode cX7_length 1 = .ok (.getfield 12, 3) := by decide +kernel
theorem dX7_length_4 : decode cX7_length 4 = .ok (.invokevirtual 21, 3) := by decide +kernel
theorem dX7_length_7 : decode cX7_length 7 = .ok (.ireturn, 1) := by decide +kernel
theorem dX7_endAt_0 : decode cX7_endAt 0 = .ok (.aload_n 0, 1) := by decide +kernel
theorem dX7_endAt_1 : decode cX7_endAt 1 = .ok (.getfield 12, 3) := by decide +kernel
theorem dX7_endAt_4 : decode cX7_endAt 4 = .ok (.iload_n 1, 1) := by decide +kernel
theorem dX7_endAt_5 : decode cX7_endAt 5 = .ok (.invokevirtual 25, 3) := by decide +kernel
theorem dX7_endAt_8 : decode cX7_endAt 8 = .ok (.bipush 29, 2) := by decide +kernel
theorem dX7_endAt_10 : decode cX7_endAt 10 = .ok (.lshr, 1) := by decide +kernel
theorem dX7_endAt_11 : decode cX7_endAt 11 = .ok (.l2i, 1) := by decide +kernel
theorem dX7_endAt_12 : decode cX7_endAt 12 = .ok (.ireturn, 1) := by decide +kernel
theorem dX7_keyAtPlace_0 : decode cX7_keyAtPlace 0 = .ok (.aload_n 0, 1) := by decide +kernel
theorem dX7_keyAtPlace_1 : decode cX7_keyAtPlace 1 = .ok (.getfield 12, 3) := by decide +kernel
theorem dX7_keyAtPlace_4 : decode cX7_keyAtPlace 4 = .ok (.iload_n 1, 1) := by decide +kernel
theorem dX7_keyAtPlace_5 : decode cX7_keyAtPlace 5 = .ok (.invokevirtual 25, 3) := by decide +kernel
theorem dX7_keyAtPlace_8 : decode cX7_keyAtPlace 8 = .ok (.bipush 21, 2) := by decide +kernel
theorem dX7_keyAtPlace_10 : decode cX7_keyAtPlace 10 = .ok (.lshr, 1) := by decide +kernel
theorem dX7_keyAtPlace_11 : decode cX7_keyAtPlace 11 = .ok (.ldc2_w 29, 3) := by decide +kernel
theorem dX7_keyAtPlace_14 : decode cX7_keyAtPlace 14 = .ok (.land, 1) := by decide +kernel
theorem dX7_keyAtPlace_15 : decode cX7_keyAtPlace 15 = .ok (.l2i, 1) := by decide +kernel
theorem dX7_keyAtPlace_16 : decode cX7_keyAtPlace 16 = .ok (.ireturn, 1) := by decide +kernel
theorem dX7_beginAt_0 : decode cX7_beginAt 0 = .ok (.aload_n 0, 1) := by decide +kernel
theorem dX7_beginAt_1 : decode cX7_beginAt 1 = .ok (.getfield 12, 3) := by decide +kernel
theorem dX7_beginAt_4 : decode cX7_beginAt 4 = .ok (.iload_n 1, 1) := by decide +kernel
theorem dX7_beginAt_5 : decode cX7_beginAt 5 = .ok (.invokevirtual 25, 3) := by decide +kernel
theorem dX7_beginAt_8 : decode cX7_beginAt 8 = .ok (.ldc2_w 31, 3) := by decide +kernel
theorem dX7_beginAt_11 : decode cX7_beginAt 11 = .ok (.land, 1) := by decide +kernel
theorem dX7_beginAt_12 : decode cX7_beginAt 12 = .ok (.l2i, 1) := by decide +kernel
theorem dX7_beginAt_13 : decode cX7_beginAt 13 = .ok (.sipush 1000, 3) := by decide +kernel
theorem dX7_beginAt_16 : decode cX7_beginAt 16 = .ok (.isub, 1) := by decide +kernel
theorem dX7_beginAt_17 : decode cX7_beginAt 17 = .ok (.ireturn, 1) := by decide +kernel
theorem dX7_accountAtPlace_0 : decode cX7_accountAtPlace 0 = .ok (.aload_n 0, 1) := by decide +kernel
theorem dX7_accountAtPlace_1 : decode cX7_accountAtPlace 1 = .ok (.getfield 18, 3) := by decide +kernel
theorem dX7_accountAtPlace_4 : decode cX7_accountAtPlace 4 = .ok (.iload_n 1, 1) := by decide +kernel
theorem dX7_accountAtPlace_5 : decode cX7_accountAtPlace 5 = .ok (.invokevirtual 25, 3) := by decide +kernel
theorem dX7_accountAtPlace_8 : decode cX7_accountAtPlace 8 = .ok (.lreturn, 1) := by decide +kernel
theorem dX7_isAt_0 : decode cX7_isAt 0 = .ok (.iload_n 1, 1) := by decide +kernel
theorem dX7_isAt_1 : decode cX7_isAt 1 = .ok (.aload_n 0, 1) := by decide +kernel
theorem dX7_isAt_2 : decode cX7_isAt 2 = .ok (.getfield 12, 3) := by decide +kernel
theorem dX7_isAt_5 : decode cX7_isAt 5 = .ok (.invokevirtual 21, 3) := by decide +kernel
theorem dX7_isAt_8 : decode cX7_isAt 8 = .ok (.if_icmp .ge 20, 3) := by decide +kernel
theorem dX7_isAt_28 : decode cX7_isAt 28 = .ok (.iconst 0, 1) := by decide +kernel
theorem dX7_isAt_29 : decode cX7_isAt 29 = .ok (.ireturn, 1) := by decide +kernel
theorem dX7_isAt_11 : decode cX7_isAt 11 = .ok (.aload_n 0, 1) := by decide +kernel
theorem dX7_isAt_12 : decode cX7_isAt 12 = .ok (.getfield 12, 3) := by decide +kernel
theorem dX7_isAt_15 : decode cX7_isAt 15 = .ok (.iload_n 1, 1) := by decide +kernel
theorem dX7_isAt_16 : decode cX7_isAt 16 = .ok (.invokevirtual 25, 3) := by decide +kernel
theorem dX7_isAt_19 : decode cX7_isAt 19 = .ok (.lload_n 2, 1) := by decide +kernel
theorem dX7_isAt_20 : decode cX7_isAt 20 = .ok (.lcmp, 1) := by decide +kernel
theorem dX7_isAt_21 : decode cX7_isAt 21 = .ok (.ifCond .ne 7, 3) := by decide +kernel
theorem dX7_isAt_24 : decode cX7_isAt 24 = .ok (.iconst 1, 1) := by decide +kernel
theorem dX7_isAt_25 : decode cX7_isAt 25 = .ok (.goto 4, 3) := by decide +kernel
theorem dX9_keptCount_0 : decode cX9_keptCount 0 = .ok (.aload_n 0, 1) := by decide +kernel
theorem dX9_keptCount_1 : decode cX9_keptCount 1 = .ok (.getfield 26, 3) := by decide +kernel
theorem dX9_keptCount_4 : decode cX9_keptCount 4 = .ok (.invokevirtual 40, 3) := by decide +kernel
theorem dX9_keptCount_7 : decode cX9_keptCount 7 = .ok (.aload_n 0, 1) := by decide +kernel
theorem dX9_keptCount_8 : decode cX9_keptCount 8 = .ok (.getfield 33, 3) := by decide +kernel
theorem dX9_keptCount_11 : decode cX9_keptCount 11 = .ok (.invokevirtual 44, 3) := by decide +kernel
theorem dX9_keptCount_14 : decode cX9_keptCount 14 = .ok (.iadd, 1) := by decide +kernel
theorem dX9_keptCount_15 : decode cX9_keptCount 15 = .ok (.aload_n 0, 1) := by decide +kernel
theorem dX9_keptCount_16 : decode cX9_keptCount 16 = .ok (.getfield 37, 3) := by decide +kernel
theorem dX9_keptCount_19 : decode cX9_keptCount 19 = .ok (.invokevirtual 44, 3) := by decide +kernel
theorem dX9_keptCount_22 : decode cX9_keptCount 22 = .ok (.iadd, 1) := by decide +kernel
theorem dX9_keptCount_23 : decode cX9_keptCount 23 = .ok (.ireturn, 1) := by decide +kernel
theorem iX1 : ∀ w ∈ u_ws RX1 TX1 3, w ∈ lw_all := by
  intro w hw
  have h : w ∈ [(Jvm.Cond.laysFinal "WeirStream$Channel" "WeirStream$Channel" "items" "LWeirStream$Row;"), (Jvm.Cond.lays "WeirStream$Channel" "WeirStream$Channel" "given" "I"), (Jvm.Cond.lays "WeirStream$Channel" "WeirStream$Channel" "isShut" "Z")] := hw
  simp only [List.mem_cons, List.not_mem_nil, or_false] at h
  rcases h with rfl | rfl | rfl
  · exact wq944
  · exact wq946
  · exact wq948
theorem dfX1 : ∀ j, j < 3 → defaultValue (tyX1 j) = vp_V [.null, .int 0, .int 0] j := by
  intro j hj
  rcases (show j = 0 ∨ j = 1 ∨ j = 2 by omega) with rfl | rfl | rfl <;> rfl
theorem iX4 : ∀ w ∈ u_ws RX4 TX4 2, w ∈ lw_all := by
  intro w hw
  have h : w ∈ [(Jvm.Cond.laysFinal "WeirStream$Outlet" "WeirStream$Outlet" "items" "LWeirStream$Row;"), (Jvm.Cond.laysFinal "WeirStream$Outlet" "WeirStream$Outlet" "channels" "Ljava/util/ArrayList;")] := hw
  simp only [List.mem_cons, List.not_mem_nil, or_false] at h
  rcases h with rfl | rfl
  · exact wq1021
  · exact wq1023
theorem dfX4 : ∀ j, j < 2 → defaultValue (tyX4 j) = vp_V [.null, .null] j := by
  intro j hj
  rcases (show j = 0 ∨ j = 1 by omega) with rfl | rfl <;> rfl
theorem iX6 : ∀ w ∈ u_ws RX6 TX6 2, w ∈ lw_all := by
  intro w hw
  have h : w ∈ [(Jvm.Cond.lays "WeirStream$Row" "WeirStream$Row" "cells" "[J"), (Jvm.Cond.lays "WeirStream$Row" "WeirStream$Row" "length" "I")] := hw
  simp only [List.mem_cons, List.not_mem_nil, or_false] at h
  rcases h with rfl | rfl
  · exact wq915
  · exact wq917
theorem dfX6 : ∀ j, j < 2 → defaultValue (tyX6 j) = vp_V [.null, .int 0] j := by
  intro j hj
  rcases (show j = 0 ∨ j = 1 by omega) with rfl | rfl <;> rfl
theorem iX7 : ∀ w ∈ u_ws RX7 TX7 2, w ∈ lw_all := by
  intro w hw
  have h : w ∈ [(Jvm.Cond.laysFinal "WeirStream$Spans" "WeirStream$Spans" "names" "LWeirStream$Row;"), (Jvm.Cond.laysFinal "WeirStream$Spans" "WeirStream$Spans" "accounts" "LWeirStream$Row;")] := hw
  simp only [List.mem_cons, List.not_mem_nil, or_false] at h
  rcases h with rfl | rfl
  · exact wq1044
  · exact wq1046
theorem dfX7 : ∀ j, j < 2 → defaultValue (tyX7 j) = vp_V [.null, .null] j := by
  intro j hj
  rcases (show j = 0 ∨ j = 1 by omega) with rfl | rfl <;> rfl
theorem iX9 : ∀ w ∈ u_ws RX9 TX9 11, w ∈ lw_all := by
  intro w hw
  have h : w ∈ [(Jvm.Cond.lays "WeirStream$State" "WeirStream$State" "mark" "I"), (Jvm.Cond.lays "WeirStream$State" "WeirStream$State" "firstMark" "I"), (Jvm.Cond.lays "WeirStream$State" "WeirStream$State" "secondMark" "I"), (Jvm.Cond.lays "WeirStream$State" "WeirStream$State" "tookSecond" "Z"), (Jvm.Cond.lays "WeirStream$State" "WeirStream$State" "taken" "I"), (Jvm.Cond.lays "WeirStream$State" "WeirStream$State" "emitted" "I"), (Jvm.Cond.lays "WeirStream$State" "WeirStream$State" "late" "I"), (Jvm.Cond.lays "WeirStream$State" "WeirStream$State" "outputCount" "I"), (Jvm.Cond.laysFinal "WeirStream$State" "WeirStream$State" "spans" "LWeirStream$Spans;"), (Jvm.Cond.laysFinal "WeirStream$State" "WeirStream$State" "left" "LWeirStream$Row;"), (Jvm.Cond.laysFinal "WeirStream$State" "WeirStream$State" "right" "LWeirStream$Row;")] := hw
  simp only [List.mem_cons, List.not_mem_nil, or_false] at h
  rcases h with rfl | rfl | rfl | rfl | rfl | rfl | rfl | rfl | rfl | rfl | rfl
  · exact wq1080
  · exact wq1082
  · exact wq1084
  · exact wq1086
  · exact wq1088
  · exact wq1090
  · exact wq1092
  · exact wq1094
  · exact wq1096
  · exact wq1098
  · exact wq1100
theorem dfX9 : ∀ j, j < 11 → defaultValue (tyX9 j) = vp_V [.int 0, .int 0, .int 0, .int 0, .int 0, .int 0, .int 0, .int 0, .null, .null, .null] j := by
  intro j hj
  rcases (show j = 0 ∨ j = 1 ∨ j = 2 ∨ j = 3 ∨ j = 4 ∨ j = 5 ∨ j = 6 ∨ j = 7 ∨ j = 8 ∨ j = 9 ∨ j = 10 by omega) with rfl | rfl | rfl | rfl | rfl | rfl | rfl | rfl | rfl | rfl | rfl <;> rfl
theorem iJx4a65c : ∀ w ∈ u_ws RJx4a65c TJx4a65c 3, w ∈ lw_all := by
  intro w hw
  have h : w ∈ [(Jvm.Cond.lays "java/util/ArrayList" "java/util/AbstractList" "modCount" "I"), (Jvm.Cond.lays "java/util/ArrayList" "java/util/ArrayList" "elementData" "[Ljava/lang/Object;"), (Jvm.Cond.lays "java/util/ArrayList" "java/util/ArrayList" "size" "I")] := hw
  simp only [List.mem_cons, List.not_mem_nil, or_false] at h
  rcases h with rfl | rfl | rfl
  · exact wq64
  · exact wq60
  · exact wq62
theorem dfJx4a65c : ∀ j, j < 3 → defaultValue (tyJx4a65c j) = vp_V [.int 0, .null, .int 0] j := by
  intro j hj
  rcases (show j = 0 ∨ j = 1 ∨ j = 2 by omega) with rfl | rfl | rfl <;> rfl
