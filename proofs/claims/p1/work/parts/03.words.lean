theorem wq2 : (Jvm.Cond.initialized "WeirStream$Flow") ∈ lw_all := lw_in (lw_tb (List.mem_of_getElem? (i := 2) (by decide +kernel))) rfl
theorem wq3 : (Jvm.Cond.initialized "java/util/AbstractCollection") ∈ lw_all := lw_in (lw_tb (List.mem_of_getElem? (i := 3) (by decide +kernel))) rfl
theorem wq4 : (Jvm.Cond.initialized "java/util/AbstractList") ∈ lw_all := lw_in (lw_tb (List.mem_of_getElem? (i := 4) (by decide +kernel))) rfl
theorem wq5 : (Jvm.Cond.initialized "java/util/ArrayList") ∈ lw_all := lw_in (lw_tb (List.mem_of_getElem? (i := 5) (by decide +kernel))) rfl
theorem wq7 : (Jvm.Cond.initialized "WeirStreamModel$State") ∈ lw_all := lw_in (lw_tb (List.mem_of_getElem? (i := 7) (by decide +kernel))) rfl
theorem wq8 : (Jvm.Cond.initialized "WeirStreamModel$Kept") ∈ lw_all := lw_in (lw_tb (List.mem_of_getElem? (i := 8) (by decide +kernel))) rfl
theorem wq9 : (Jvm.Cond.initialized "WeirStreamModel$Rows") ∈ lw_all := lw_in (lw_tb (List.mem_of_getElem? (i := 9) (by decide +kernel))) rfl
theorem wq36 : (Jvm.Cond.methodLink "WeirStream" (1 : Nat) ({ cls := "java/lang/Object", name := "<init>", desc := "()V" } : Jvm.MethodName)) ∈ lw_all := lw_in (lw_tb (List.mem_of_getElem? (i := 36) (by decide +kernel))) rfl
theorem wq37 : (Jvm.Cond.instanceMethod ({ cls := "java/lang/Object", name := "<init>", desc := "()V" } : Jvm.MethodName)) ∈ lw_all := lw_in (lw_tb (List.mem_of_getElem? (i := 37) (by decide +kernel))) rfl
theorem wq38 : (Jvm.Cond.code ({ cls := "java/lang/Object", name := "<init>", desc := "()V" } : Jvm.MethodName) object_method_1_code (1 : Nat) (Option.none : Option Jvm.ClassFile.FieldType)) ∈ lw_all := lw_in (lw_tb (List.mem_of_getElem? (i := 38) (by decide +kernel))) rfl
theorem wq39 : (Jvm.Cond.classLink "WeirStream" (7 : Nat) "WeirStream$Flow") ∈ lw_all := lw_in (lw_tb (List.mem_of_getElem? (i := 39) (by decide +kernel))) rfl
theorem wq40 : (Jvm.Cond.instantiable "WeirStream$Flow" (8 : Nat)) ∈ lw_all := lw_in (lw_tb (List.mem_of_getElem? (i := 40) (by decide +kernel))) rfl
theorem wq41 : (Jvm.Cond.methodLink "WeirStream" (9 : Nat) ({ cls := "WeirStream$Flow", name := "<init>", desc := "(Z)V" } : Jvm.MethodName)) ∈ lw_all := lw_in (lw_tb (List.mem_of_getElem? (i := 41) (by decide +kernel))) rfl
theorem wq42 : (Jvm.Cond.instanceMethod ({ cls := "WeirStream$Flow", name := "<init>", desc := "(Z)V" } : Jvm.MethodName)) ∈ lw_all := lw_in (lw_tb (List.mem_of_getElem? (i := 42) (by decide +kernel))) rfl
theorem wq43 : (Jvm.Cond.code ({ cls := "WeirStream$Flow", name := "<init>", desc := "(Z)V" } : Jvm.MethodName) prog_4_method_1_code (2 : Nat) (Option.none : Option Jvm.ClassFile.FieldType)) ∈ lw_all := lw_in (lw_tb (List.mem_of_getElem? (i := 43) (by decide +kernel))) rfl
theorem wq44 : (Jvm.Cond.methodLink "WeirStream$Flow" (3 : Nat) ({ cls := "java/lang/Object", name := "<init>", desc := "()V" } : Jvm.MethodName)) ∈ lw_all := lw_in (lw_tb (List.mem_of_getElem? (i := 44) (by decide +kernel))) rfl
theorem wq45 : (Jvm.Cond.classLink "WeirStream$Flow" (9 : Nat) "java/util/ArrayList") ∈ lw_all := lw_in (lw_tb (List.mem_of_getElem? (i := 45) (by decide +kernel))) rfl
theorem wq46 : (Jvm.Cond.instantiable "java/util/ArrayList" (3 : Nat)) ∈ lw_all := lw_in (lw_tb (List.mem_of_getElem? (i := 46) (by decide +kernel))) rfl
theorem wq47 : (Jvm.Cond.methodLink "WeirStream$Flow" (11 : Nat) ({ cls := "java/util/ArrayList", name := "<init>", desc := "()V" } : Jvm.MethodName)) ∈ lw_all := lw_in (lw_tb (List.mem_of_getElem? (i := 47) (by decide +kernel))) rfl
theorem wq48 : (Jvm.Cond.instanceMethod ({ cls := "java/util/ArrayList", name := "<init>", desc := "()V" } : Jvm.MethodName)) ∈ lw_all := lw_in (lw_tb (List.mem_of_getElem? (i := 48) (by decide +kernel))) rfl
theorem wq49 : (Jvm.Cond.code ({ cls := "java/util/ArrayList", name := "<init>", desc := "()V" } : Jvm.MethodName) prog_30_method_2_code (1 : Nat) (Option.none : Option Jvm.ClassFile.FieldType)) ∈ lw_all := lw_in (lw_tb (List.mem_of_getElem? (i := 49) (by decide +kernel))) rfl
theorem wq50 : (Jvm.Cond.methodLink "java/util/ArrayList" (1 : Nat) ({ cls := "java/util/AbstractList", name := "<init>", desc := "()V" } : Jvm.MethodName)) ∈ lw_all := lw_in (lw_tb (List.mem_of_getElem? (i := 50) (by decide +kernel))) rfl
theorem wq51 : (Jvm.Cond.instanceMethod ({ cls := "java/util/AbstractList", name := "<init>", desc := "()V" } : Jvm.MethodName)) ∈ lw_all := lw_in (lw_tb (List.mem_of_getElem? (i := 51) (by decide +kernel))) rfl
theorem wq52 : (Jvm.Cond.code ({ cls := "java/util/AbstractList", name := "<init>", desc := "()V" } : Jvm.MethodName) prog_29_method_1_code (1 : Nat) (Option.none : Option Jvm.ClassFile.FieldType)) ∈ lw_all := lw_in (lw_tb (List.mem_of_getElem? (i := 52) (by decide +kernel))) rfl
theorem wq53 : (Jvm.Cond.methodLink "java/util/AbstractList" (1 : Nat) ({ cls := "java/util/AbstractCollection", name := "<init>", desc := "()V" } : Jvm.MethodName)) ∈ lw_all := lw_in (lw_tb (List.mem_of_getElem? (i := 53) (by decide +kernel))) rfl
theorem wq54 : (Jvm.Cond.instanceMethod ({ cls := "java/util/AbstractCollection", name := "<init>", desc := "()V" } : Jvm.MethodName)) ∈ lw_all := lw_in (lw_tb (List.mem_of_getElem? (i := 54) (by decide +kernel))) rfl
theorem wq55 : (Jvm.Cond.code ({ cls := "java/util/AbstractCollection", name := "<init>", desc := "()V" } : Jvm.MethodName) prog_28_method_1_code (1 : Nat) (Option.none : Option Jvm.ClassFile.FieldType)) ∈ lw_all := lw_in (lw_tb (List.mem_of_getElem? (i := 55) (by decide +kernel))) rfl
theorem wq56 : (Jvm.Cond.methodLink "java/util/AbstractCollection" (1 : Nat) ({ cls := "java/lang/Object", name := "<init>", desc := "()V" } : Jvm.MethodName)) ∈ lw_all := lw_in (lw_tb (List.mem_of_getElem? (i := 56) (by decide +kernel))) rfl
theorem wq57 : (Jvm.Cond.fieldLink "java/util/ArrayList" (39 : Nat) "java/util/ArrayList" "DEFAULTCAPACITY_EMPTY_ELEMENTDATA" "[Ljava/lang/Object;") ∈ lw_all := lw_in (lw_tb (List.mem_of_getElem? (i := 57) (by decide +kernel))) rfl
theorem wq59 : (Jvm.Cond.fieldLink "java/util/ArrayList" (9 : Nat) "java/util/ArrayList" "elementData" "[Ljava/lang/Object;") ∈ lw_all := lw_in (lw_tb (List.mem_of_getElem? (i := 59) (by decide +kernel))) rfl
theorem wq61 : (Jvm.Cond.fieldLink "java/util/AbstractList" (7 : Nat) "java/util/AbstractList" "modCount" "I") ∈ lw_all := lw_in (lw_tb (List.mem_of_getElem? (i := 61) (by decide +kernel))) rfl
theorem wq64 : (Jvm.Cond.lays "java/util/ArrayList" "java/util/ArrayList" "elementData" "[Ljava/lang/Object;") ∈ lw_all := lw_in (lw_tb (List.mem_of_getElem? (i := 64) (by decide +kernel))) rfl
theorem wq66 : (Jvm.Cond.lays "java/util/ArrayList" "java/util/ArrayList" "size" "I") ∈ lw_all := lw_in (lw_tb (List.mem_of_getElem? (i := 66) (by decide +kernel))) rfl
theorem wq68 : (Jvm.Cond.lays "java/util/ArrayList" "java/util/AbstractList" "modCount" "I") ∈ lw_all := lw_in (lw_tb (List.mem_of_getElem? (i := 68) (by decide +kernel))) rfl
theorem wq71 : (Jvm.Cond.fieldLink "WeirStream$Flow" (25 : Nat) "WeirStream$Flow" "isTrial" "Z") ∈ lw_all := lw_in (lw_tb (List.mem_of_getElem? (i := 71) (by decide +kernel))) rfl
theorem wq72 : (Jvm.Cond.fieldLink "WeirStream$Flow" (12 : Nat) "WeirStream$Flow" "stages" "Ljava/util/ArrayList;") ∈ lw_all := lw_in (lw_tb (List.mem_of_getElem? (i := 72) (by decide +kernel))) rfl
theorem wq73 : (Jvm.Cond.fieldLink "WeirStream$Flow" (18 : Nat) "WeirStream$Flow" "capacity" "I") ∈ lw_all := lw_in (lw_tb (List.mem_of_getElem? (i := 73) (by decide +kernel))) rfl
theorem wq75 : (Jvm.Cond.fieldLink "WeirStream$Flow" (22 : Nat) "WeirStream$Flow" "lastWorked" "I") ∈ lw_all := lw_in (lw_tb (List.mem_of_getElem? (i := 75) (by decide +kernel))) rfl
theorem wq82 : (Jvm.Cond.laysFinal "WeirStream$Flow" "WeirStream$Flow" "isTrial" "Z") ∈ lw_all := lw_in (lw_tb (List.mem_of_getElem? (i := 82) (by decide +kernel))) rfl
theorem wq84 : (Jvm.Cond.laysFinal "WeirStream$Flow" "WeirStream$Flow" "stages" "Ljava/util/ArrayList;") ∈ lw_all := lw_in (lw_tb (List.mem_of_getElem? (i := 84) (by decide +kernel))) rfl
theorem wq86 : (Jvm.Cond.lays "WeirStream$Flow" "WeirStream$Flow" "capacity" "I") ∈ lw_all := lw_in (lw_tb (List.mem_of_getElem? (i := 86) (by decide +kernel))) rfl
theorem wq88 : (Jvm.Cond.lays "WeirStream$Flow" "WeirStream$Flow" "lastWorked" "I") ∈ lw_all := lw_in (lw_tb (List.mem_of_getElem? (i := 88) (by decide +kernel))) rfl
theorem wq90 : (Jvm.Cond.lays "WeirStream$Flow" "WeirStream$Flow" "begunCount" "I") ∈ lw_all := lw_in (lw_tb (List.mem_of_getElem? (i := 90) (by decide +kernel))) rfl
theorem wq92 : (Jvm.Cond.lays "WeirStream$Flow" "WeirStream$Flow" "begunNumber" "I") ∈ lw_all := lw_in (lw_tb (List.mem_of_getElem? (i := 92) (by decide +kernel))) rfl
theorem wq94 : (Jvm.Cond.lays "WeirStream$Flow" "WeirStream$Flow" "completeNumber" "I") ∈ lw_all := lw_in (lw_tb (List.mem_of_getElem? (i := 94) (by decide +kernel))) rfl
theorem wq96 : (Jvm.Cond.lays "WeirStream$Flow" "WeirStream$Flow" "unsaved" "I") ∈ lw_all := lw_in (lw_tb (List.mem_of_getElem? (i := 96) (by decide +kernel))) rfl
theorem wq99 : (Jvm.Cond.fieldLink "WeirStream" (12 : Nat) "WeirStream" "live" "LWeirStream$Flow;") ∈ lw_all := lw_in (lw_tb (List.mem_of_getElem? (i := 99) (by decide +kernel))) rfl
theorem wq100 : (Jvm.Cond.fieldLink "WeirStream" (18 : Nat) "WeirStream" "trial" "LWeirStream$Flow;") ∈ lw_all := lw_in (lw_tb (List.mem_of_getElem? (i := 100) (by decide +kernel))) rfl
theorem wq104 : (Jvm.Cond.laysFinal "WeirStream" "WeirStream" "live" "LWeirStream$Flow;") ∈ lw_all := lw_in (lw_tb (List.mem_of_getElem? (i := 104) (by decide +kernel))) rfl
theorem wq106 : (Jvm.Cond.laysFinal "WeirStream" "WeirStream" "trial" "LWeirStream$Flow;") ∈ lw_all := lw_in (lw_tb (List.mem_of_getElem? (i := 106) (by decide +kernel))) rfl
theorem wq108 : (Jvm.Cond.lays "WeirStream" "WeirStream" "hasStarted" "Z") ∈ lw_all := lw_in (lw_tb (List.mem_of_getElem? (i := 108) (by decide +kernel))) rfl
theorem wq110 : (Jvm.Cond.lays "WeirStream" "WeirStream" "crashCount" "I") ∈ lw_all := lw_in (lw_tb (List.mem_of_getElem? (i := 110) (by decide +kernel))) rfl
theorem wq112 : (Jvm.Cond.lays "WeirStream" "WeirStream" "workedCount" "I") ∈ lw_all := lw_in (lw_tb (List.mem_of_getElem? (i := 112) (by decide +kernel))) rfl
theorem wq1358 : (Jvm.Cond.methodLink "WeirStreamModel" (1 : Nat) ({ cls := "java/lang/Object", name := "<init>", desc := "()V" } : Jvm.MethodName)) ∈ lw_all := lw_in (lw_tb (List.mem_of_getElem? (i := 1358) (by decide +kernel))) rfl
theorem wq1359 : (Jvm.Cond.classLink "WeirStreamModel" (13 : Nat) "[[I") ∈ lw_all := lw_in (lw_tb (List.mem_of_getElem? (i := 1359) (by decide +kernel))) rfl
theorem wq1361 : (Jvm.Cond.classLink "WeirStreamModel" (21 : Nat) "WeirStreamModel$Rows") ∈ lw_all := lw_in (lw_tb (List.mem_of_getElem? (i := 1361) (by decide +kernel))) rfl
theorem wq1363 : (Jvm.Cond.classLink "WeirStreamModel" (31 : Nat) "WeirStreamModel$State") ∈ lw_all := lw_in (lw_tb (List.mem_of_getElem? (i := 1363) (by decide +kernel))) rfl
theorem wq1364 : (Jvm.Cond.instantiable "WeirStreamModel$State" (17 : Nat)) ∈ lw_all := lw_in (lw_tb (List.mem_of_getElem? (i := 1364) (by decide +kernel))) rfl
theorem wq1365 : (Jvm.Cond.methodLink "WeirStreamModel" (33 : Nat) ({ cls := "WeirStreamModel$State", name := "<init>", desc := "(LWeirStreamModel;)V" } : Jvm.MethodName)) ∈ lw_all := lw_in (lw_tb (List.mem_of_getElem? (i := 1365) (by decide +kernel))) rfl
theorem wq1366 : (Jvm.Cond.instanceMethod ({ cls := "WeirStreamModel$State", name := "<init>", desc := "(LWeirStreamModel;)V" } : Jvm.MethodName)) ∈ lw_all := lw_in (lw_tb (List.mem_of_getElem? (i := 1366) (by decide +kernel))) rfl
theorem wq1367 : (Jvm.Cond.code ({ cls := "WeirStreamModel$State", name := "<init>", desc := "(LWeirStreamModel;)V" } : Jvm.MethodName) prog_16_method_1_code (3 : Nat) (Option.none : Option Jvm.ClassFile.FieldType)) ∈ lw_all := lw_in (lw_tb (List.mem_of_getElem? (i := 1367) (by decide +kernel))) rfl
theorem wq1368 : (Jvm.Cond.methodLink "WeirStreamModel$State" (9 : Nat) ({ cls := "java/lang/Object", name := "<init>", desc := "()V" } : Jvm.MethodName)) ∈ lw_all := lw_in (lw_tb (List.mem_of_getElem? (i := 1368) (by decide +kernel))) rfl
theorem wq1369 : (Jvm.Cond.classLink "WeirStreamModel$State" (22 : Nat) "WeirStreamModel$Kept") ∈ lw_all := lw_in (lw_tb (List.mem_of_getElem? (i := 1369) (by decide +kernel))) rfl
theorem wq1371 : (Jvm.Cond.classLink "WeirStreamModel$State" (41 : Nat) "[[LWeirStreamModel$Rows;") ∈ lw_all := lw_in (lw_tb (List.mem_of_getElem? (i := 1371) (by decide +kernel))) rfl
theorem wq1373 : (Jvm.Cond.classLink "WeirStreamModel$State" (46 : Nat) "[[Z") ∈ lw_all := lw_in (lw_tb (List.mem_of_getElem? (i := 1373) (by decide +kernel))) rfl
theorem wq1375 : (Jvm.Cond.classLink "WeirStreamModel$State" (51 : Nat) "WeirStreamModel$Rows") ∈ lw_all := lw_in (lw_tb (List.mem_of_getElem? (i := 1375) (by decide +kernel))) rfl
theorem wq1376 : (Jvm.Cond.instantiable "WeirStreamModel$Kept" (12 : Nat)) ∈ lw_all := lw_in (lw_tb (List.mem_of_getElem? (i := 1376) (by decide +kernel))) rfl
theorem wq1377 : (Jvm.Cond.methodLink "WeirStreamModel$State" (61 : Nat) ({ cls := "WeirStreamModel$Kept", name := "<init>", desc := "()V" } : Jvm.MethodName)) ∈ lw_all := lw_in (lw_tb (List.mem_of_getElem? (i := 1377) (by decide +kernel))) rfl
theorem wq1378 : (Jvm.Cond.instanceMethod ({ cls := "WeirStreamModel$Kept", name := "<init>", desc := "()V" } : Jvm.MethodName)) ∈ lw_all := lw_in (lw_tb (List.mem_of_getElem? (i := 1378) (by decide +kernel))) rfl
theorem wq1379 : (Jvm.Cond.code ({ cls := "WeirStreamModel$Kept", name := "<init>", desc := "()V" } : Jvm.MethodName) prog_14_method_1_code (1 : Nat) (Option.none : Option Jvm.ClassFile.FieldType)) ∈ lw_all := lw_in (lw_tb (List.mem_of_getElem? (i := 1379) (by decide +kernel))) rfl
theorem wq1380 : (Jvm.Cond.methodLink "WeirStreamModel$Kept" (3 : Nat) ({ cls := "java/lang/Object", name := "<init>", desc := "()V" } : Jvm.MethodName)) ∈ lw_all := lw_in (lw_tb (List.mem_of_getElem? (i := 1380) (by decide +kernel))) rfl
theorem wq1381 : (Jvm.Cond.classLink "WeirStreamModel$Kept" (9 : Nat) "WeirStreamModel$Rows") ∈ lw_all := lw_in (lw_tb (List.mem_of_getElem? (i := 1381) (by decide +kernel))) rfl
theorem wq1382 : (Jvm.Cond.instantiable "WeirStreamModel$Rows" (3 : Nat)) ∈ lw_all := lw_in (lw_tb (List.mem_of_getElem? (i := 1382) (by decide +kernel))) rfl
theorem wq1383 : (Jvm.Cond.methodLink "WeirStreamModel$Kept" (11 : Nat) ({ cls := "WeirStreamModel$Rows", name := "<init>", desc := "(I)V" } : Jvm.MethodName)) ∈ lw_all := lw_in (lw_tb (List.mem_of_getElem? (i := 1383) (by decide +kernel))) rfl
theorem wq1384 : (Jvm.Cond.instanceMethod ({ cls := "WeirStreamModel$Rows", name := "<init>", desc := "(I)V" } : Jvm.MethodName)) ∈ lw_all := lw_in (lw_tb (List.mem_of_getElem? (i := 1384) (by decide +kernel))) rfl
theorem wq1385 : (Jvm.Cond.code ({ cls := "WeirStreamModel$Rows", name := "<init>", desc := "(I)V" } : Jvm.MethodName) prog_15_method_1_code (2 : Nat) (Option.none : Option Jvm.ClassFile.FieldType)) ∈ lw_all := lw_in (lw_tb (List.mem_of_getElem? (i := 1385) (by decide +kernel))) rfl
theorem wq1386 : (Jvm.Cond.methodLink "WeirStreamModel$Rows" (1 : Nat) ({ cls := "java/lang/Object", name := "<init>", desc := "()V" } : Jvm.MethodName)) ∈ lw_all := lw_in (lw_tb (List.mem_of_getElem? (i := 1386) (by decide +kernel))) rfl
theorem wq1387 : (Jvm.Cond.fieldLink "WeirStreamModel$Rows" (7 : Nat) "WeirStreamModel$Rows" "width" "I") ∈ lw_all := lw_in (lw_tb (List.mem_of_getElem? (i := 1387) (by decide +kernel))) rfl
theorem wq1392 : (Jvm.Cond.fieldLink "WeirStreamModel$Rows" (13 : Nat) "WeirStreamModel$Rows" "cells" "[I") ∈ lw_all := lw_in (lw_tb (List.mem_of_getElem? (i := 1392) (by decide +kernel))) rfl
theorem wq1393 : (Jvm.Cond.laysFinal "WeirStreamModel$Rows" "WeirStreamModel$Rows" "width" "I") ∈ lw_all := lw_in (lw_tb (List.mem_of_getElem? (i := 1393) (by decide +kernel))) rfl
theorem wq1395 : (Jvm.Cond.lays "WeirStreamModel$Rows" "WeirStreamModel$Rows" "many" "I") ∈ lw_all := lw_in (lw_tb (List.mem_of_getElem? (i := 1395) (by decide +kernel))) rfl
theorem wq1397 : (Jvm.Cond.lays "WeirStreamModel$Rows" "WeirStreamModel$Rows" "cells" "[I") ∈ lw_all := lw_in (lw_tb (List.mem_of_getElem? (i := 1397) (by decide +kernel))) rfl
theorem wq1400 : (Jvm.Cond.arrayClass Jvm.ClassFile.FieldType.int) ∈ lw_all := lw_in (lw_tb (List.mem_of_getElem? (i := 1400) (by decide +kernel))) rfl
theorem wq1401 : (Jvm.Cond.arrayClass Jvm.ClassFile.FieldType.boolean) ∈ lw_all := lw_in (lw_tb (List.mem_of_getElem? (i := 1401) (by decide +kernel))) rfl
theorem wq1402 : (Jvm.Cond.methodLink "WeirStreamModel$Kept" (26 : Nat) ({ cls := "WeirStreamModel$Kept", name := "begin", desc := "()V" } : Jvm.MethodName)) ∈ lw_all := lw_in (lw_tb (List.mem_of_getElem? (i := 1402) (by decide +kernel))) rfl
theorem wq1403 : (Jvm.Cond.instanceMethod ({ cls := "WeirStreamModel$Kept", name := "begin", desc := "()V" } : Jvm.MethodName)) ∈ lw_all := lw_in (lw_tb (List.mem_of_getElem? (i := 1403) (by decide +kernel))) rfl
theorem wq1404 : (Jvm.Cond.selects "WeirStreamModel$Kept" ({ cls := "WeirStreamModel$Kept", name := "begin", desc := "()V" } : Jvm.MethodName) ({ cls := "WeirStreamModel$Kept", name := "begin", desc := "()V" } : Jvm.MethodName)) ∈ lw_all := lw_in (lw_tb (List.mem_of_getElem? (i := 1404) (by decide +kernel))) rfl
theorem wq1405 : (Jvm.Cond.code ({ cls := "WeirStreamModel$Kept", name := "begin", desc := "()V" } : Jvm.MethodName) prog_14_method_2_code (1 : Nat) (Option.none : Option Jvm.ClassFile.FieldType)) ∈ lw_all := lw_in (lw_tb (List.mem_of_getElem? (i := 1405) (by decide +kernel))) rfl
theorem wq1406 : (Jvm.Cond.fieldLink "WeirStreamModel$Kept" (29 : Nat) "WeirStreamModel$Kept" "mark" "I") ∈ lw_all := lw_in (lw_tb (List.mem_of_getElem? (i := 1406) (by decide +kernel))) rfl
theorem wq1409 : (Jvm.Cond.fieldLink "WeirStreamModel$Kept" (33 : Nat) "WeirStreamModel$Kept" "first" "I") ∈ lw_all := lw_in (lw_tb (List.mem_of_getElem? (i := 1409) (by decide +kernel))) rfl
theorem wq1411 : (Jvm.Cond.fieldLink "WeirStreamModel$Kept" (36 : Nat) "WeirStreamModel$Kept" "second" "I") ∈ lw_all := lw_in (lw_tb (List.mem_of_getElem? (i := 1411) (by decide +kernel))) rfl
theorem wq1413 : (Jvm.Cond.fieldLink "WeirStreamModel$Kept" (39 : Nat) "WeirStreamModel$Kept" "last" "I") ∈ lw_all := lw_in (lw_tb (List.mem_of_getElem? (i := 1413) (by decide +kernel))) rfl
theorem wq1415 : (Jvm.Cond.fieldLink "WeirStreamModel$Kept" (42 : Nat) "WeirStreamModel$Kept" "position" "I") ∈ lw_all := lw_in (lw_tb (List.mem_of_getElem? (i := 1415) (by decide +kernel))) rfl
theorem wq1418 : (Jvm.Cond.fieldLink "WeirStreamModel$Kept" (45 : Nat) "WeirStreamModel$Kept" "taken" "I") ∈ lw_all := lw_in (lw_tb (List.mem_of_getElem? (i := 1418) (by decide +kernel))) rfl
theorem wq1421 : (Jvm.Cond.fieldLink "WeirStreamModel$Kept" (48 : Nat) "WeirStreamModel$Kept" "emitted" "I") ∈ lw_all := lw_in (lw_tb (List.mem_of_getElem? (i := 1421) (by decide +kernel))) rfl
theorem wq1424 : (Jvm.Cond.fieldLink "WeirStreamModel$Kept" (51 : Nat) "WeirStreamModel$Kept" "late" "I") ∈ lw_all := lw_in (lw_tb (List.mem_of_getElem? (i := 1424) (by decide +kernel))) rfl
theorem wq1427 : (Jvm.Cond.fieldLink "WeirStreamModel$Kept" (54 : Nat) "WeirStreamModel$Kept" "outputs" "I") ∈ lw_all := lw_in (lw_tb (List.mem_of_getElem? (i := 1427) (by decide +kernel))) rfl
theorem wq1429 : (Jvm.Cond.fieldLink "WeirStreamModel$Kept" (14 : Nat) "WeirStreamModel$Kept" "spans" "LWeirStreamModel$Rows;") ∈ lw_all := lw_in (lw_tb (List.mem_of_getElem? (i := 1429) (by decide +kernel))) rfl
theorem wq1432 : (Jvm.Cond.fieldLink "WeirStreamModel$Kept" (20 : Nat) "WeirStreamModel$Kept" "left" "LWeirStreamModel$Rows;") ∈ lw_all := lw_in (lw_tb (List.mem_of_getElem? (i := 1432) (by decide +kernel))) rfl
theorem wq1435 : (Jvm.Cond.fieldLink "WeirStreamModel$Kept" (23 : Nat) "WeirStreamModel$Kept" "right" "LWeirStreamModel$Rows;") ∈ lw_all := lw_in (lw_tb (List.mem_of_getElem? (i := 1435) (by decide +kernel))) rfl
theorem wq1438 : (Jvm.Cond.lays "WeirStreamModel$Kept" "WeirStreamModel$Kept" "mark" "I") ∈ lw_all := lw_in (lw_tb (List.mem_of_getElem? (i := 1438) (by decide +kernel))) rfl
theorem wq1440 : (Jvm.Cond.lays "WeirStreamModel$Kept" "WeirStreamModel$Kept" "first" "I") ∈ lw_all := lw_in (lw_tb (List.mem_of_getElem? (i := 1440) (by decide +kernel))) rfl
theorem wq1442 : (Jvm.Cond.lays "WeirStreamModel$Kept" "WeirStreamModel$Kept" "second" "I") ∈ lw_all := lw_in (lw_tb (List.mem_of_getElem? (i := 1442) (by decide +kernel))) rfl
theorem wq1444 : (Jvm.Cond.lays "WeirStreamModel$Kept" "WeirStreamModel$Kept" "last" "I") ∈ lw_all := lw_in (lw_tb (List.mem_of_getElem? (i := 1444) (by decide +kernel))) rfl
theorem wq1446 : (Jvm.Cond.lays "WeirStreamModel$Kept" "WeirStreamModel$Kept" "position" "I") ∈ lw_all := lw_in (lw_tb (List.mem_of_getElem? (i := 1446) (by decide +kernel))) rfl
theorem wq1448 : (Jvm.Cond.lays "WeirStreamModel$Kept" "WeirStreamModel$Kept" "taken" "I") ∈ lw_all := lw_in (lw_tb (List.mem_of_getElem? (i := 1448) (by decide +kernel))) rfl
theorem wq1450 : (Jvm.Cond.lays "WeirStreamModel$Kept" "WeirStreamModel$Kept" "emitted" "I") ∈ lw_all := lw_in (lw_tb (List.mem_of_getElem? (i := 1450) (by decide +kernel))) rfl
theorem wq1452 : (Jvm.Cond.lays "WeirStreamModel$Kept" "WeirStreamModel$Kept" "late" "I") ∈ lw_all := lw_in (lw_tb (List.mem_of_getElem? (i := 1452) (by decide +kernel))) rfl
theorem wq1454 : (Jvm.Cond.lays "WeirStreamModel$Kept" "WeirStreamModel$Kept" "outputs" "I") ∈ lw_all := lw_in (lw_tb (List.mem_of_getElem? (i := 1454) (by decide +kernel))) rfl
theorem wq1456 : (Jvm.Cond.laysFinal "WeirStreamModel$Kept" "WeirStreamModel$Kept" "spans" "LWeirStreamModel$Rows;") ∈ lw_all := lw_in (lw_tb (List.mem_of_getElem? (i := 1456) (by decide +kernel))) rfl
theorem wq1458 : (Jvm.Cond.laysFinal "WeirStreamModel$Kept" "WeirStreamModel$Kept" "left" "LWeirStreamModel$Rows;") ∈ lw_all := lw_in (lw_tb (List.mem_of_getElem? (i := 1458) (by decide +kernel))) rfl
theorem wq1460 : (Jvm.Cond.laysFinal "WeirStreamModel$Kept" "WeirStreamModel$Kept" "right" "LWeirStreamModel$Rows;") ∈ lw_all := lw_in (lw_tb (List.mem_of_getElem? (i := 1460) (by decide +kernel))) rfl
theorem wq1463 : (Jvm.Cond.methodLink "WeirStreamModel$State" (62 : Nat) ({ cls := "WeirStreamModel$Rows", name := "<init>", desc := "(I)V" } : Jvm.MethodName)) ∈ lw_all := lw_in (lw_tb (List.mem_of_getElem? (i := 1463) (by decide +kernel))) rfl
theorem wq1464 : (Jvm.Cond.fieldLink "WeirStreamModel$State" (15 : Nat) "WeirStreamModel$State" "capacity" "I") ∈ lw_all := lw_in (lw_tb (List.mem_of_getElem? (i := 1464) (by decide +kernel))) rfl
theorem wq1466 : (Jvm.Cond.fieldLink "WeirStreamModel$State" (19 : Nat) "WeirStreamModel$State" "latest" "I") ∈ lw_all := lw_in (lw_tb (List.mem_of_getElem? (i := 1466) (by decide +kernel))) rfl
theorem wq1476 : (Jvm.Cond.fieldLink "WeirStreamModel$State" (24 : Nat) "WeirStreamModel$State" "now" "[LWeirStreamModel$Kept;") ∈ lw_all := lw_in (lw_tb (List.mem_of_getElem? (i := 1476) (by decide +kernel))) rfl
theorem wq1478 : (Jvm.Cond.fieldLink "WeirStreamModel$State" (28 : Nat) "WeirStreamModel$State" "saved" "[LWeirStreamModel$Kept;") ∈ lw_all := lw_in (lw_tb (List.mem_of_getElem? (i := 1478) (by decide +kernel))) rfl
theorem wq1479 : (Jvm.Cond.fieldLink "WeirStreamModel$State" (31 : Nat) "WeirStreamModel$State" "done" "[LWeirStreamModel$Kept;") ∈ lw_all := lw_in (lw_tb (List.mem_of_getElem? (i := 1479) (by decide +kernel))) rfl
theorem wq1481 : (Jvm.Cond.fieldLink "WeirStreamModel$State" (34 : Nat) "WeirStreamModel$State" "isSaved" "[Z") ∈ lw_all := lw_in (lw_tb (List.mem_of_getElem? (i := 1481) (by decide +kernel))) rfl
theorem wq1482 : (Jvm.Cond.fieldLink "WeirStreamModel$State" (38 : Nat) "WeirStreamModel$State" "isToGive" "[Z") ∈ lw_all := lw_in (lw_tb (List.mem_of_getElem? (i := 1482) (by decide +kernel))) rfl
theorem wq1483 : (Jvm.Cond.fieldLink "WeirStreamModel$State" (43 : Nat) "WeirStreamModel$State" "queue" "[[LWeirStreamModel$Rows;") ∈ lw_all := lw_in (lw_tb (List.mem_of_getElem? (i := 1483) (by decide +kernel))) rfl
theorem wq1485 : (Jvm.Cond.fieldLink "WeirStreamModel$State" (48 : Nat) "WeirStreamModel$State" "isBlocked" "[[Z") ∈ lw_all := lw_in (lw_tb (List.mem_of_getElem? (i := 1485) (by decide +kernel))) rfl
theorem wq1487 : (Jvm.Cond.fieldLink "WeirStreamModel$State" (53 : Nat) "WeirStreamModel$State" "out" "[LWeirStreamModel$Rows;") ∈ lw_all := lw_in (lw_tb (List.mem_of_getElem? (i := 1487) (by decide +kernel))) rfl
theorem wq1489 : (Jvm.Cond.fieldLink "WeirStreamModel$State" (57 : Nat) "WeirStreamModel$State" "committed" "[I") ∈ lw_all := lw_in (lw_tb (List.mem_of_getElem? (i := 1489) (by decide +kernel))) rfl
theorem wq1491 : (Jvm.Cond.fieldLink "WeirStreamModel$State" (3 : Nat) "WeirStreamModel$State" "this$0" "LWeirStreamModel;") ∈ lw_all := lw_in (lw_tb (List.mem_of_getElem? (i := 1491) (by decide +kernel))) rfl
theorem wq1492 : (Jvm.Cond.lays "WeirStreamModel$State" "WeirStreamModel$State" "capacity" "I") ∈ lw_all := lw_in (lw_tb (List.mem_of_getElem? (i := 1492) (by decide +kernel))) rfl
theorem wq1494 : (Jvm.Cond.lays "WeirStreamModel$State" "WeirStreamModel$State" "latest" "I") ∈ lw_all := lw_in (lw_tb (List.mem_of_getElem? (i := 1494) (by decide +kernel))) rfl
theorem wq1496 : (Jvm.Cond.lays "WeirStreamModel$State" "WeirStreamModel$State" "begun" "I") ∈ lw_all := lw_in (lw_tb (List.mem_of_getElem? (i := 1496) (by decide +kernel))) rfl
theorem wq1498 : (Jvm.Cond.lays "WeirStreamModel$State" "WeirStreamModel$State" "complete" "I") ∈ lw_all := lw_in (lw_tb (List.mem_of_getElem? (i := 1498) (by decide +kernel))) rfl
theorem wq1500 : (Jvm.Cond.lays "WeirStreamModel$State" "WeirStreamModel$State" "numbers" "I") ∈ lw_all := lw_in (lw_tb (List.mem_of_getElem? (i := 1500) (by decide +kernel))) rfl
theorem wq1502 : (Jvm.Cond.lays "WeirStreamModel$State" "WeirStreamModel$State" "crashes" "I") ∈ lw_all := lw_in (lw_tb (List.mem_of_getElem? (i := 1502) (by decide +kernel))) rfl
theorem wq1504 : (Jvm.Cond.lays "WeirStreamModel$State" "WeirStreamModel$State" "worked" "I") ∈ lw_all := lw_in (lw_tb (List.mem_of_getElem? (i := 1504) (by decide +kernel))) rfl
theorem wq1506 : (Jvm.Cond.laysFinal "WeirStreamModel$State" "WeirStreamModel$State" "now" "[LWeirStreamModel$Kept;") ∈ lw_all := lw_in (lw_tb (List.mem_of_getElem? (i := 1506) (by decide +kernel))) rfl
theorem wq1508 : (Jvm.Cond.laysFinal "WeirStreamModel$State" "WeirStreamModel$State" "saved" "[LWeirStreamModel$Kept;") ∈ lw_all := lw_in (lw_tb (List.mem_of_getElem? (i := 1508) (by decide +kernel))) rfl
theorem wq1510 : (Jvm.Cond.laysFinal "WeirStreamModel$State" "WeirStreamModel$State" "done" "[LWeirStreamModel$Kept;") ∈ lw_all := lw_in (lw_tb (List.mem_of_getElem? (i := 1510) (by decide +kernel))) rfl
theorem wq1512 : (Jvm.Cond.laysFinal "WeirStreamModel$State" "WeirStreamModel$State" "isSaved" "[Z") ∈ lw_all := lw_in (lw_tb (List.mem_of_getElem? (i := 1512) (by decide +kernel))) rfl
theorem wq1514 : (Jvm.Cond.laysFinal "WeirStreamModel$State" "WeirStreamModel$State" "isToGive" "[Z") ∈ lw_all := lw_in (lw_tb (List.mem_of_getElem? (i := 1514) (by decide +kernel))) rfl
theorem wq1516 : (Jvm.Cond.laysFinal "WeirStreamModel$State" "WeirStreamModel$State" "queue" "[[LWeirStreamModel$Rows;") ∈ lw_all := lw_in (lw_tb (List.mem_of_getElem? (i := 1516) (by decide +kernel))) rfl
theorem wq1518 : (Jvm.Cond.laysFinal "WeirStreamModel$State" "WeirStreamModel$State" "isBlocked" "[[Z") ∈ lw_all := lw_in (lw_tb (List.mem_of_getElem? (i := 1518) (by decide +kernel))) rfl
theorem wq1520 : (Jvm.Cond.laysFinal "WeirStreamModel$State" "WeirStreamModel$State" "out" "[LWeirStreamModel$Rows;") ∈ lw_all := lw_in (lw_tb (List.mem_of_getElem? (i := 1520) (by decide +kernel))) rfl
theorem wq1522 : (Jvm.Cond.laysFinal "WeirStreamModel$State" "WeirStreamModel$State" "committed" "[I") ∈ lw_all := lw_in (lw_tb (List.mem_of_getElem? (i := 1522) (by decide +kernel))) rfl
theorem wq1524 : (Jvm.Cond.laysFinal "WeirStreamModel$State" "WeirStreamModel$State" "this$0" "LWeirStreamModel;") ∈ lw_all := lw_in (lw_tb (List.mem_of_getElem? (i := 1524) (by decide +kernel))) rfl
theorem wq1530 : (Jvm.Cond.fieldLink "WeirStreamModel" (9 : Nat) "WeirStreamModel" "sort" "[I") ∈ lw_all := lw_in (lw_tb (List.mem_of_getElem? (i := 1530) (by decide +kernel))) rfl
theorem wq1532 : (Jvm.Cond.fieldLink "WeirStreamModel" (15 : Nat) "WeirStreamModel" "input" "[[I") ∈ lw_all := lw_in (lw_tb (List.mem_of_getElem? (i := 1532) (by decide +kernel))) rfl
theorem wq1534 : (Jvm.Cond.fieldLink "WeirStreamModel" (18 : Nat) "WeirStreamModel" "set" "[[I") ∈ lw_all := lw_in (lw_tb (List.mem_of_getElem? (i := 1534) (by decide +kernel))) rfl
theorem wq1536 : (Jvm.Cond.fieldLink "WeirStreamModel" (23 : Nat) "WeirStreamModel" "log" "[LWeirStreamModel$Rows;") ∈ lw_all := lw_in (lw_tb (List.mem_of_getElem? (i := 1536) (by decide +kernel))) rfl
theorem wq1538 : (Jvm.Cond.fieldLink "WeirStreamModel" (27 : Nat) "WeirStreamModel" "isClosed" "[Z") ∈ lw_all := lw_in (lw_tb (List.mem_of_getElem? (i := 1538) (by decide +kernel))) rfl
theorem wq1540 : (Jvm.Cond.fieldLink "WeirStreamModel" (36 : Nat) "WeirStreamModel" "now" "LWeirStreamModel$State;") ∈ lw_all := lw_in (lw_tb (List.mem_of_getElem? (i := 1540) (by decide +kernel))) rfl
theorem wq1541 : (Jvm.Cond.fieldLink "WeirStreamModel" (40 : Nat) "WeirStreamModel" "ahead" "LWeirStreamModel$State;") ∈ lw_all := lw_in (lw_tb (List.mem_of_getElem? (i := 1541) (by decide +kernel))) rfl
theorem wq1544 : (Jvm.Cond.lays "WeirStreamModel" "WeirStreamModel" "stages" "I") ∈ lw_all := lw_in (lw_tb (List.mem_of_getElem? (i := 1544) (by decide +kernel))) rfl
theorem wq1546 : (Jvm.Cond.lays "WeirStreamModel" "WeirStreamModel" "isStarted" "Z") ∈ lw_all := lw_in (lw_tb (List.mem_of_getElem? (i := 1546) (by decide +kernel))) rfl
theorem wq1548 : (Jvm.Cond.laysFinal "WeirStreamModel" "WeirStreamModel" "sort" "[I") ∈ lw_all := lw_in (lw_tb (List.mem_of_getElem? (i := 1548) (by decide +kernel))) rfl
theorem wq1550 : (Jvm.Cond.laysFinal "WeirStreamModel" "WeirStreamModel" "input" "[[I") ∈ lw_all := lw_in (lw_tb (List.mem_of_getElem? (i := 1550) (by decide +kernel))) rfl
theorem wq1552 : (Jvm.Cond.laysFinal "WeirStreamModel" "WeirStreamModel" "set" "[[I") ∈ lw_all := lw_in (lw_tb (List.mem_of_getElem? (i := 1552) (by decide +kernel))) rfl
theorem wq1554 : (Jvm.Cond.laysFinal "WeirStreamModel" "WeirStreamModel" "log" "[LWeirStreamModel$Rows;") ∈ lw_all := lw_in (lw_tb (List.mem_of_getElem? (i := 1554) (by decide +kernel))) rfl
theorem wq1556 : (Jvm.Cond.laysFinal "WeirStreamModel" "WeirStreamModel" "isClosed" "[Z") ∈ lw_all := lw_in (lw_tb (List.mem_of_getElem? (i := 1556) (by decide +kernel))) rfl
theorem wq1558 : (Jvm.Cond.laysFinal "WeirStreamModel" "WeirStreamModel" "now" "LWeirStreamModel$State;") ∈ lw_all := lw_in (lw_tb (List.mem_of_getElem? (i := 1558) (by decide +kernel))) rfl
theorem wq1560 : (Jvm.Cond.laysFinal "WeirStreamModel" "WeirStreamModel" "ahead" "LWeirStreamModel$State;") ∈ lw_all := lw_in (lw_tb (List.mem_of_getElem? (i := 1560) (by decide +kernel))) rfl
theorem wq1562 : (Jvm.Cond.lays "WeirStreamModel" "WeirStreamModel" "thrown" "I") ∈ lw_all := lw_in (lw_tb (List.mem_of_getElem? (i := 1562) (by decide +kernel))) rfl
theorem wq1564 : (Jvm.Cond.lays "WeirStreamModel" "WeirStreamModel" "sum" "J") ∈ lw_all := lw_in (lw_tb (List.mem_of_getElem? (i := 1564) (by decide +kernel))) rfl
theorem wr1360 : (Jvm.Cond.arrayOver (Jvm.ClassFile.FieldType.array Jvm.ClassFile.FieldType.int)) ∈ lw_tbl := lw_tb (List.mem_of_getElem? (i := 1360) (by decide +kernel))
theorem wr1362 : (Jvm.Cond.arrayOver (Jvm.ClassFile.FieldType.object "WeirStreamModel$Rows")) ∈ lw_tbl := lw_tb (List.mem_of_getElem? (i := 1362) (by decide +kernel))
theorem wr1370 : (Jvm.Cond.arrayOver (Jvm.ClassFile.FieldType.object "WeirStreamModel$Kept")) ∈ lw_tbl := lw_tb (List.mem_of_getElem? (i := 1370) (by decide +kernel))
theorem wr1372 : (Jvm.Cond.arrayOver (Jvm.ClassFile.FieldType.array (Jvm.ClassFile.FieldType.object "WeirStreamModel$Rows"))) ∈ lw_tbl := lw_tb (List.mem_of_getElem? (i := 1372) (by decide +kernel))
theorem wr1374 : (Jvm.Cond.arrayOver (Jvm.ClassFile.FieldType.array Jvm.ClassFile.FieldType.boolean)) ∈ lw_tbl := lw_tb (List.mem_of_getElem? (i := 1374) (by decide +kernel))
theorem wr1389 : (Jvm.Cond.fieldLinkNest "WeirStreamModel$Kept" (57 : Nat) "WeirStreamModel$Rows" "many" "I" "WeirStreamModel") ∈ lw_tbl := lw_tb (List.mem_of_getElem? (i := 1389) (by decide +kernel))
theorem dX10_init_0 : decode cX10_init 0 = .ok (.aload_n 0, 1) := by decide +kernel
theorem dX10_init_1 : decode cX10_init 1 = .ok (.invokespecial 1, 3) := by decide +kernel
theorem dX10_init_4 : decode cX10_init 4 = .ok (.aload_n 0, 1) := by decide +kernel
theorem dX10_init_5 : decode cX10_init 5 = .ok (.new 7, 3) := by decide +kernel
theorem dX10_init_8 : decode cX10_init 8 = .ok (.dup, 1) := by decide +kernel
theorem dX10_init_9 : decode cX10_init 9 = .ok (.iconst 0, 1) := by decide +kernel
theorem dX10_init_10 : decode cX10_init 10 = .ok (.invokespecial 9, 3) := by decide +kernel
theorem dX2_init_0 : decode cX2_init 0 = .ok (.aload_n 0, 1) := by decide +kernel
theorem dX2_init_1 : decode cX2_init 1 = .ok (.invokespecial 3, 3) := by decide +kernel
theorem dX2_init_4 : decode cX2_init 4 = .ok (.aload_n 0, 1) := by decide +kernel
theorem dX2_init_5 : decode cX2_init 5 = .ok (.new 9, 3) := by decide +kernel
theorem dX2_init_8 : decode cX2_init 8 = .ok (.dup, 1) := by decide +kernel
theorem dX2_init_9 : decode cX2_init 9 = .ok (.invokespecial 11, 3) := by decide +kernel
theorem dJx4a65c_init_da8c8_0 : decode cJx4a65c_init_da8c8 0 = .ok (.aload_n 0, 1) := by decide +kernel
theorem dJx4a65c_init_da8c8_1 : decode cJx4a65c_init_da8c8 1 = .ok (.invokespecial 1, 3) := by decide +kernel
theorem dJxc12de_init_da8c8_0 : decode cJxc12de_init_da8c8 0 = .ok (.aload_n 0, 1) := by decide +kernel
theorem dJxc12de_init_da8c8_1 : decode cJxc12de_init_da8c8 1 = .ok (.invokespecial 1, 3) := by decide +kernel
theorem dJxa1e45_init_da8c8_0 : decode cJxa1e45_init_da8c8 0 = .ok (.aload_n 0, 1) := by decide +kernel
theorem dJxa1e45_init_da8c8_1 : decode cJxa1e45_init_da8c8 1 = .ok (.invokespecial 1, 3) := by decide +kernel
theorem dJxa1e45_init_da8c8_4 : decode cJxa1e45_init_da8c8 4 = .ok (.return_, 1) := by decide +kernel
theorem dJxc12de_init_da8c8_4 : decode cJxc12de_init_da8c8 4 = .ok (.aload_n 0, 1) := by decide +kernel
theorem dJxc12de_init_da8c8_5 : decode cJxc12de_init_da8c8 5 = .ok (.iconst 0, 1) := by decide +kernel
theorem dJxc12de_init_da8c8_6 : decode cJxc12de_init_da8c8 6 = .ok (.putfield 7, 3) := by decide +kernel
theorem dJxc12de_init_da8c8_9 : decode cJxc12de_init_da8c8 9 = .ok (.return_, 1) := by decide +kernel
theorem dJx4a65c_init_da8c8_4 : decode cJx4a65c_init_da8c8 4 = .ok (.aload_n 0, 1) := by decide +kernel
theorem dJx4a65c_init_da8c8_5 : decode cJx4a65c_init_da8c8 5 = .ok (.getstatic 39, 3) := by decide +kernel
theorem dJx4a65c_init_da8c8_8 : decode cJx4a65c_init_da8c8 8 = .ok (.putfield 9, 3) := by decide +kernel
theorem dJx4a65c_init_da8c8_11 : decode cJx4a65c_init_da8c8 11 = .ok (.return_, 1) := by decide +kernel
theorem dX2_init_12 : decode cX2_init 12 = .ok (.putfield 12, 3) := by decide +kernel
theorem dX2_init_15 : decode cX2_init 15 = .ok (.aload_n 0, 1) := by decide +kernel
theorem dX2_init_16 : decode cX2_init 16 = .ok (.bipush 8, 2) := by decide +kernel
theorem dX2_init_18 : decode cX2_init 18 = .ok (.putfield 18, 3) := by decide +kernel
theorem dX2_init_21 : decode cX2_init 21 = .ok (.aload_n 0, 1) := by decide +kernel
theorem dX2_init_22 : decode cX2_init 22 = .ok (.iconst (-1), 1) := by decide +kernel
theorem dX2_init_23 : decode cX2_init 23 = .ok (.putfield 22, 3) := by decide +kernel
theorem dX2_init_26 : decode cX2_init 26 = .ok (.aload_n 0, 1) := by decide +kernel
theorem dX2_init_27 : decode cX2_init 27 = .ok (.iload_n 1, 1) := by decide +kernel
theorem dX2_init_28 : decode cX2_init 28 = .ok (.putfield 25, 3) := by decide +kernel
theorem dX2_init_31 : decode cX2_init 31 = .ok (.return_, 1) := by decide +kernel
theorem dX10_init_13 : decode cX10_init 13 = .ok (.putfield 12, 3) := by decide +kernel
theorem dX10_init_16 : decode cX10_init 16 = .ok (.aload_n 0, 1) := by decide +kernel
theorem dX10_init_17 : decode cX10_init 17 = .ok (.new 7, 3) := by decide +kernel
theorem dX10_init_20 : decode cX10_init 20 = .ok (.dup, 1) := by decide +kernel
theorem dX10_init_21 : decode cX10_init 21 = .ok (.iconst 1, 1) := by decide +kernel
theorem dX10_init_22 : decode cX10_init 22 = .ok (.invokespecial 9, 3) := by decide +kernel
theorem dX10_init_25 : decode cX10_init 25 = .ok (.putfield 18, 3) := by decide +kernel
theorem dX10_init_28 : decode cX10_init 28 = .ok (.return_, 1) := by decide +kernel
theorem dX14_init_0 : decode cX14_init 0 = .ok (.aload_n 0, 1) := by decide +kernel
theorem dX14_init_1 : decode cX14_init 1 = .ok (.invokespecial 1, 3) := by decide +kernel
theorem dX14_init_4 : decode cX14_init 4 = .ok (.aload_n 0, 1) := by decide +kernel
theorem dX14_init_5 : decode cX14_init 5 = .ok (.bipush 12, 2) := by decide +kernel
theorem dX14_init_7 : decode cX14_init 7 = .ok (.newarray .int, 2) := by decide +kernel
theorem dX14_init_9 : decode cX14_init 9 = .ok (.putfield 9, 3) := by decide +kernel
theorem dX14_init_12 : decode cX14_init 12 = .ok (.aload_n 0, 1) := by decide +kernel
theorem dX14_init_13 : decode cX14_init 13 = .ok (.bipush 12, 2) := by decide +kernel
theorem dX14_init_15 : decode cX14_init 15 = .ok (.iconst 2, 1) := by decide +kernel
theorem dX14_init_16 : decode cX14_init 16 = .ok (.multianewarray 13 2, 4) := by decide +kernel
theorem dX14_init_20 : decode cX14_init 20 = .ok (.putfield 15, 3) := by decide +kernel
theorem dX14_init_23 : decode cX14_init 23 = .ok (.aload_n 0, 1) := by decide +kernel
theorem dX14_init_24 : decode cX14_init 24 = .ok (.bipush 12, 2) := by decide +kernel
theorem dX14_init_26 : decode cX14_init 26 = .ok (.iconst 4, 1) := by decide +kernel
theorem dX14_init_27 : decode cX14_init 27 = .ok (.multianewarray 13 2, 4) := by decide +kernel
theorem dX14_init_31 : decode cX14_init 31 = .ok (.putfield 18, 3) := by decide +kernel
theorem dX14_init_34 : decode cX14_init 34 = .ok (.aload_n 0, 1) := by decide +kernel
theorem dX14_init_35 : decode cX14_init 35 = .ok (.bipush 12, 2) := by decide +kernel
theorem dX14_init_37 : decode cX14_init 37 = .ok (.anewarray 21, 3) := by decide +kernel
theorem dX14_init_40 : decode cX14_init 40 = .ok (.putfield 23, 3) := by decide +kernel
theorem dX14_init_43 : decode cX14_init 43 = .ok (.aload_n 0, 1) := by decide +kernel
theorem dX14_init_44 : decode cX14_init 44 = .ok (.bipush 12, 2) := by decide +kernel
theorem dX14_init_46 : decode cX14_init 46 = .ok (.newarray .boolean, 2) := by decide +kernel
theorem dX14_init_48 : decode cX14_init 48 = .ok (.putfield 27, 3) := by decide +kernel
theorem dX14_init_51 : decode cX14_init 51 = .ok (.aload_n 0, 1) := by decide +kernel
theorem dX14_init_52 : decode cX14_init 52 = .ok (.new 31, 3) := by decide +kernel
theorem dX14_init_55 : decode cX14_init 55 = .ok (.dup, 1) := by decide +kernel
theorem dX14_init_56 : decode cX14_init 56 = .ok (.aload_n 0, 1) := by decide +kernel
theorem dX14_init_57 : decode cX14_init 57 = .ok (.invokespecial 33, 3) := by decide +kernel
theorem dX13_init_0 : decode cX13_init 0 = .ok (.aload_n 0, 1) := by decide +kernel
theorem dX13_init_1 : decode cX13_init 1 = .ok (.aload_n 1, 1) := by decide +kernel
theorem dX13_init_2 : decode cX13_init 2 = .ok (.putfield 3, 3) := by decide +kernel
theorem dX13_init_5 : decode cX13_init 5 = .ok (.aload_n 0, 1) := by decide +kernel
theorem dX13_init_6 : decode cX13_init 6 = .ok (.invokespecial 9, 3) := by decide +kernel
theorem dX13_init_9 : decode cX13_init 9 = .ok (.aload_n 0, 1) := by decide +kernel
theorem dX13_init_10 : decode cX13_init 10 = .ok (.bipush 8, 2) := by decide +kernel
theorem dX13_init_12 : decode cX13_init 12 = .ok (.putfield 15, 3) := by decide +kernel
theorem dX13_init_15 : decode cX13_init 15 = .ok (.aload_n 0, 1) := by decide +kernel
theorem dX13_init_16 : decode cX13_init 16 = .ok (.iconst (-1), 1) := by decide +kernel
theorem dX13_init_17 : decode cX13_init 17 = .ok (.putfield 19, 3) := by decide +kernel
theorem dX13_init_20 : decode cX13_init 20 = .ok (.aload_n 0, 1) := by decide +kernel
theorem dX13_init_21 : decode cX13_init 21 = .ok (.bipush 12, 2) := by decide +kernel
theorem dX13_init_23 : decode cX13_init 23 = .ok (.anewarray 22, 3) := by decide +kernel
theorem dX13_init_26 : decode cX13_init 26 = .ok (.putfield 24, 3) := by decide +kernel
theorem dX13_init_29 : decode cX13_init 29 = .ok (.aload_n 0, 1) := by decide +kernel
theorem dX13_init_30 : decode cX13_init 30 = .ok (.bipush 12, 2) := by decide +kernel
theorem dX13_init_32 : decode cX13_init 32 = .ok (.anewarray 22, 3) := by decide +kernel
theorem dX13_init_35 : decode cX13_init 35 = .ok (.putfield 28, 3) := by decide +kernel
theorem dX13_init_38 : decode cX13_init 38 = .ok (.aload_n 0, 1) := by decide +kernel
theorem dX13_init_39 : decode cX13_init 39 = .ok (.bipush 12, 2) := by decide +kernel
theorem dX13_init_41 : decode cX13_init 41 = .ok (.anewarray 22, 3) := by decide +kernel
theorem dX13_init_44 : decode cX13_init 44 = .ok (.putfield 31, 3) := by decide +kernel
theorem dX13_init_47 : decode cX13_init 47 = .ok (.aload_n 0, 1) := by decide +kernel
theorem dX13_init_48 : decode cX13_init 48 = .ok (.bipush 12, 2) := by decide +kernel
theorem dX13_init_50 : decode cX13_init 50 = .ok (.newarray .boolean, 2) := by decide +kernel
theorem dX13_init_52 : decode cX13_init 52 = .ok (.putfield 34, 3) := by decide +kernel
theorem dX13_init_55 : decode cX13_init 55 = .ok (.aload_n 0, 1) := by decide +kernel
theorem dX13_init_56 : decode cX13_init 56 = .ok (.bipush 12, 2) := by decide +kernel
theorem dX13_init_58 : decode cX13_init 58 = .ok (.newarray .boolean, 2) := by decide +kernel
theorem dX13_init_60 : decode cX13_init 60 = .ok (.putfield 38, 3) := by decide +kernel
theorem dX13_init_63 : decode cX13_init 63 = .ok (.aload_n 0, 1) := by decide +kernel
theorem dX13_init_64 : decode cX13_init 64 = .ok (.bipush 12, 2) := by decide +kernel
theorem dX13_init_66 : decode cX13_init 66 = .ok (.iconst 2, 1) := by decide +kernel
theorem dX13_init_67 : decode cX13_init 67 = .ok (.multianewarray 41 2, 4) := by decide +kernel
theorem dX13_init_71 : decode cX13_init 71 = .ok (.putfield 43, 3) := by decide +kernel
theorem dX13_init_74 : decode cX13_init 74 = .ok (.aload_n 0, 1) := by decide +kernel
theorem dX13_init_75 : decode cX13_init 75 = .ok (.bipush 12, 2) := by decide +kernel
theorem dX13_init_77 : decode cX13_init 77 = .ok (.iconst 2, 1) := by decide +kernel
theorem dX13_init_78 : decode cX13_init 78 = .ok (.multianewarray 46 2, 4) := by decide +kernel
theorem dX13_init_82 : decode cX13_init 82 = .ok (.putfield 48, 3) := by decide +kernel
theorem dX13_init_85 : decode cX13_init 85 = .ok (.aload_n 0, 1) := by decide +kernel
theorem dX13_init_86 : decode cX13_init 86 = .ok (.bipush 12, 2) := by decide +kernel
theorem dX13_init_88 : decode cX13_init 88 = .ok (.anewarray 51, 3) := by decide +kernel
theorem dX13_init_91 : decode cX13_init 91 = .ok (.putfield 53, 3) := by decide +kernel
theorem dX13_init_94 : decode cX13_init 94 = .ok (.aload_n 0, 1) := by decide +kernel
theorem dX13_init_95 : decode cX13_init 95 = .ok (.bipush 12, 2) := by decide +kernel
theorem dX13_init_97 : decode cX13_init 97 = .ok (.newarray .int, 2) := by decide +kernel
theorem dX13_init_99 : decode cX13_init 99 = .ok (.putfield 57, 3) := by decide +kernel
theorem dX13_init_102 : decode cX13_init 102 = .ok (.iconst 0, 1) := by decide +kernel
theorem dX13_init_103 : decode cX13_init 103 = .ok (.istore_n 2, 1) := by decide +kernel
theorem dX13_init_104 : decode cX13_init 104 = .ok (.iload_n 2, 1) := by decide +kernel
theorem dX13_init_105 : decode cX13_init 105 = .ok (.bipush 12, 2) := by decide +kernel
theorem dX13_init_107 : decode cX13_init 107 = .ok (.if_icmp .ge 94, 3) := by decide +kernel
theorem dX13_init_110 : decode cX13_init 110 = .ok (.aload_n 0, 1) := by decide +kernel
theorem dX13_init_111 : decode cX13_init 111 = .ok (.getfield 24, 3) := by decide +kernel
theorem dX13_init_114 : decode cX13_init 114 = .ok (.iload_n 2, 1) := by decide +kernel
theorem dX13_init_115 : decode cX13_init 115 = .ok (.new 22, 3) := by decide +kernel
theorem dX13_init_118 : decode cX13_init 118 = .ok (.dup, 1) := by decide +kernel
theorem dX13_init_119 : decode cX13_init 119 = .ok (.invokespecial 61, 3) := by decide +kernel
theorem dX11_init_0 : decode cX11_init 0 = .ok (.aload_n 0, 1) := by decide +kernel
theorem dX11_init_1 : decode cX11_init 1 = .ok (.invokespecial 3, 3) := by decide +kernel
theorem dX11_init_4 : decode cX11_init 4 = .ok (.aload_n 0, 1) := by decide +kernel
theorem dX11_init_5 : decode cX11_init 5 = .ok (.new 9, 3) := by decide +kernel
theorem dX11_init_8 : decode cX11_init 8 = .ok (.dup, 1) := by decide +kernel
theorem dX11_init_9 : decode cX11_init 9 = .ok (.bipush 10, 2) := by decide +kernel
theorem dX11_init_11 : decode cX11_init 11 = .ok (.invokespecial 11, 3) := by decide +kernel
theorem dX12_init_0 : decode cX12_init 0 = .ok (.aload_n 0, 1) := by decide +kernel
theorem dX12_init_1 : decode cX12_init 1 = .ok (.invokespecial 1, 3) := by decide +kernel
theorem dX12_init_4 : decode cX12_init 4 = .ok (.aload_n 0, 1) := by decide +kernel
theorem dX12_init_5 : decode cX12_init 5 = .ok (.iload_n 1, 1) := by decide +kernel
theorem dX12_init_6 : decode cX12_init 6 = .ok (.putfield 7, 3) := by decide +kernel
theorem dX12_init_9 : decode cX12_init 9 = .ok (.aload_n 0, 1) := by decide +kernel
theorem dX12_init_10 : decode cX12_init 10 = .ok (.iconst 4, 1) := by decide +kernel
theorem dX12_init_11 : decode cX12_init 11 = .ok (.iload_n 1, 1) := by decide +kernel
theorem dX12_init_12 : decode cX12_init 12 = .ok (.imul, 1) := by decide +kernel
theorem dX12_init_13 : decode cX12_init 13 = .ok (.newarray .int, 2) := by decide +kernel
theorem dX12_init_15 : decode cX12_init 15 = .ok (.putfield 13, 3) := by decide +kernel
theorem dX12_init_18 : decode cX12_init 18 = .ok (.return_, 1) := by decide +kernel
theorem dX11_init_14 : decode cX11_init 14 = .ok (.putfield 14, 3) := by decide +kernel
theorem dX11_init_17 : decode cX11_init 17 = .ok (.aload_n 0, 1) := by decide +kernel
theorem dX11_init_18 : decode cX11_init 18 = .ok (.new 9, 3) := by decide +kernel
theorem dX11_init_21 : decode cX11_init 21 = .ok (.dup, 1) := by decide +kernel
theorem dX11_init_22 : decode cX11_init 22 = .ok (.iconst 3, 1) := by decide +kernel
theorem dX11_init_23 : decode cX11_init 23 = .ok (.invokespecial 11, 3) := by decide +kernel
theorem dX11_init_26 : decode cX11_init 26 = .ok (.putfield 20, 3) := by decide +kernel
theorem dX11_init_29 : decode cX11_init 29 = .ok (.aload_n 0, 1) := by decide +kernel
theorem dX11_init_30 : decode cX11_init 30 = .ok (.new 9, 3) := by decide +kernel
theorem dX11_init_33 : decode cX11_init 33 = .ok (.dup, 1) := by decide +kernel
theorem dX11_init_34 : decode cX11_init 34 = .ok (.iconst 3, 1) := by decide +kernel
theorem dX11_init_35 : decode cX11_init 35 = .ok (.invokespecial 11, 3) := by decide +kernel
theorem dX11_init_38 : decode cX11_init 38 = .ok (.putfield 23, 3) := by decide +kernel
theorem dX11_init_41 : decode cX11_init 41 = .ok (.aload_n 0, 1) := by decide +kernel
theorem dX11_init_42 : decode cX11_init 42 = .ok (.invokevirtual 26, 3) := by decide +kernel
theorem dX11_begin_0 : decode cX11_begin 0 = .ok (.aload_n 0, 1) := by decide +kernel
theorem dX11_begin_1 : decode cX11_begin 1 = .ok (.iconst (-1), 1) := by decide +kernel
theorem dX11_begin_2 : decode cX11_begin 2 = .ok (.putfield 29, 3) := by decide +kernel
theorem dX11_begin_5 : decode cX11_begin 5 = .ok (.aload_n 0, 1) := by decide +kernel
theorem dX11_begin_6 : decode cX11_begin 6 = .ok (.iconst (-1), 1) := by decide +kernel
theorem dX11_begin_7 : decode cX11_begin 7 = .ok (.putfield 33, 3) := by decide +kernel
theorem dX11_begin_10 : decode cX11_begin 10 = .ok (.aload_n 0, 1) := by decide +kernel
theorem dX11_begin_11 : decode cX11_begin 11 = .ok (.iconst (-1), 1) := by decide +kernel
theorem dX11_begin_12 : decode cX11_begin 12 = .ok (.putfield 36, 3) := by decide +kernel
theorem dX11_begin_15 : decode cX11_begin 15 = .ok (.aload_n 0, 1) := by decide +kernel
theorem dX11_begin_16 : decode cX11_begin 16 = .ok (.iconst (-1), 1) := by decide +kernel
theorem dX11_begin_17 : decode cX11_begin 17 = .ok (.putfield 39, 3) := by decide +kernel
theorem dX11_begin_20 : decode cX11_begin 20 = .ok (.aload_n 0, 1) := by decide +kernel
theorem dX11_begin_21 : decode cX11_begin 21 = .ok (.iconst 0, 1) := by decide +kernel
theorem dX11_begin_22 : decode cX11_begin 22 = .ok (.putfield 42, 3) := by decide +kernel
theorem dX11_begin_25 : decode cX11_begin 25 = .ok (.aload_n 0, 1) := by decide +kernel
theorem dX11_begin_26 : decode cX11_begin 26 = .ok (.iconst 0, 1) := by decide +kernel
theorem dX11_begin_27 : decode cX11_begin 27 = .ok (.putfield 45, 3) := by decide +kernel
theorem dX11_begin_30 : decode cX11_begin 30 = .ok (.aload_n 0, 1) := by decide +kernel
theorem dX11_begin_31 : decode cX11_begin 31 = .ok (.iconst 0, 1) := by decide +kernel
theorem dX11_begin_32 : decode cX11_begin 32 = .ok (.putfield 48, 3) := by decide +kernel
theorem dX11_begin_35 : decode cX11_begin 35 = .ok (.aload_n 0, 1) := by decide +kernel
theorem dX11_begin_36 : decode cX11_begin 36 = .ok (.iconst 0, 1) := by decide +kernel
theorem dX11_begin_37 : decode cX11_begin 37 = .ok (.putfield 51, 3) := by decide +kernel
theorem dX11_begin_40 : decode cX11_begin 40 = .ok (.aload_n 0, 1) := by decide +kernel
theorem dX11_begin_41 : decode cX11_begin 41 = .ok (.iconst 0, 1) := by decide +kernel
theorem dX11_begin_42 : decode cX11_begin 42 = .ok (.putfield 54, 3) := by decide +kernel
theorem dX11_begin_45 : decode cX11_begin 45 = .ok (.aload_n 0, 1) := by decide +kernel
theorem dX11_begin_46 : decode cX11_begin 46 = .ok (.getfield 14, 3) := by decide +kernel
theorem dX11_begin_49 : decode cX11_begin 49 = .ok (.iconst 0, 1) := by decide +kernel
theorem dX11_begin_50 : decode cX11_begin 50 = .ok (.putfield 57, 3) := by decide +kernel
theorem dX11_begin_53 : decode cX11_begin 53 = .ok (.aload_n 0, 1) := by decide +kernel
theorem dX11_begin_54 : decode cX11_begin 54 = .ok (.getfield 20, 3) := by decide +kernel
theorem dX11_begin_57 : decode cX11_begin 57 = .ok (.iconst 0, 1) := by decide +kernel
theorem dX11_begin_58 : decode cX11_begin 58 = .ok (.putfield 57, 3) := by decide +kernel
theorem dX11_begin_61 : decode cX11_begin 61 = .ok (.aload_n 0, 1) := by decide +kernel
theorem dX11_begin_62 : decode cX11_begin 62 = .ok (.getfield 23, 3) := by decide +kernel
theorem dX11_begin_65 : decode cX11_begin 65 = .ok (.iconst 0, 1) := by decide +kernel
theorem dX11_begin_66 : decode cX11_begin 66 = .ok (.putfield 57, 3) := by decide +kernel
theorem dX11_begin_69 : decode cX11_begin 69 = .ok (.return_, 1) := by decide +kernel
theorem dX11_init_45 : decode cX11_init 45 = .ok (.return_, 1) := by decide +kernel
theorem dX13_init_122 : decode cX13_init 122 = .ok (.aastore, 1) := by decide +kernel
theorem dX13_init_123 : decode cX13_init 123 = .ok (.aload_n 0, 1) := by decide +kernel
theorem dX13_init_124 : decode cX13_init 124 = .ok (.getfield 28, 3) := by decide +kernel
theorem dX13_init_127 : decode cX13_init 127 = .ok (.iload_n 2, 1) := by decide +kernel
theorem dX13_init_128 : decode cX13_init 128 = .ok (.new 22, 3) := by decide +kernel
theorem dX13_init_131 : decode cX13_init 131 = .ok (.dup, 1) := by decide +kernel
theorem dX13_init_132 : decode cX13_init 132 = .ok (.invokespecial 61, 3) := by decide +kernel
theorem dX13_init_135 : decode cX13_init 135 = .ok (.aastore, 1) := by decide +kernel
theorem dX13_init_136 : decode cX13_init 136 = .ok (.aload_n 0, 1) := by decide +kernel
theorem dX13_init_137 : decode cX13_init 137 = .ok (.getfield 31, 3) := by decide +kernel
theorem dX13_init_140 : decode cX13_init 140 = .ok (.iload_n 2, 1) := by decide +kernel
theorem dX13_init_141 : decode cX13_init 141 = .ok (.new 22, 3) := by decide +kernel
theorem dX13_init_144 : decode cX13_init 144 = .ok (.dup, 1) := by decide +kernel
theorem dX13_init_145 : decode cX13_init 145 = .ok (.invokespecial 61, 3) := by decide +kernel
theorem dX13_init_148 : decode cX13_init 148 = .ok (.aastore, 1) := by decide +kernel
theorem dX13_init_149 : decode cX13_init 149 = .ok (.aload_n 0, 1) := by decide +kernel
theorem dX13_init_150 : decode cX13_init 150 = .ok (.getfield 43, 3) := by decide +kernel
theorem dX13_init_153 : decode cX13_init 153 = .ok (.iload_n 2, 1) := by decide +kernel
theorem dX13_init_154 : decode cX13_init 154 = .ok (.aaload, 1) := by decide +kernel
theorem dX13_init_155 : decode cX13_init 155 = .ok (.iconst 0, 1) := by decide +kernel
theorem dX13_init_156 : decode cX13_init 156 = .ok (.new 51, 3) := by decide +kernel
theorem dX13_init_159 : decode cX13_init 159 = .ok (.dup, 1) := by decide +kernel
theorem dX13_init_160 : decode cX13_init 160 = .ok (.iconst 4, 1) := by decide +kernel
theorem dX13_init_161 : decode cX13_init 161 = .ok (.invokespecial 62, 3) := by decide +kernel
theorem dX13_init_164 : decode cX13_init 164 = .ok (.aastore, 1) := by decide +kernel
theorem dX13_init_165 : decode cX13_init 165 = .ok (.aload_n 0, 1) := by decide +kernel
theorem dX13_init_166 : decode cX13_init 166 = .ok (.getfield 43, 3) := by decide +kernel
theorem dX13_init_169 : decode cX13_init 169 = .ok (.iload_n 2, 1) := by decide +kernel
theorem dX13_init_170 : decode cX13_init 170 = .ok (.aaload, 1) := by decide +kernel
theorem dX13_init_171 : decode cX13_init 171 = .ok (.iconst 1, 1) := by decide +kernel
theorem dX13_init_172 : decode cX13_init 172 = .ok (.new 51, 3) := by decide +kernel
theorem dX13_init_175 : decode cX13_init 175 = .ok (.dup, 1) := by decide +kernel
theorem dX13_init_176 : decode cX13_init 176 = .ok (.iconst 4, 1) := by decide +kernel
theorem dX13_init_177 : decode cX13_init 177 = .ok (.invokespecial 62, 3) := by decide +kernel
theorem dX13_init_180 : decode cX13_init 180 = .ok (.aastore, 1) := by decide +kernel
theorem dX13_init_181 : decode cX13_init 181 = .ok (.aload_n 0, 1) := by decide +kernel
theorem dX13_init_182 : decode cX13_init 182 = .ok (.getfield 53, 3) := by decide +kernel
theorem dX13_init_185 : decode cX13_init 185 = .ok (.iload_n 2, 1) := by decide +kernel
theorem dX13_init_186 : decode cX13_init 186 = .ok (.new 51, 3) := by decide +kernel
theorem dX13_init_189 : decode cX13_init 189 = .ok (.dup, 1) := by decide +kernel
theorem dX13_init_190 : decode cX13_init 190 = .ok (.iconst 3, 1) := by decide +kernel
theorem dX13_init_191 : decode cX13_init 191 = .ok (.invokespecial 62, 3) := by decide +kernel
theorem dX13_init_194 : decode cX13_init 194 = .ok (.aastore, 1) := by decide +kernel
theorem dX13_init_195 : decode cX13_init 195 = .ok (.iinc 2 1, 3) := by decide +kernel
theorem dX13_init_198 : decode cX13_init 198 = .ok (.goto (-94), 3) := by decide +kernel
theorem dX13_init_201 : decode cX13_init 201 = .ok (.return_, 1) := by decide +kernel
theorem dX14_init_60 : decode cX14_init 60 = .ok (.putfield 36, 3) := by decide +kernel
theorem dX14_init_63 : decode cX14_init 63 = .ok (.aload_n 0, 1) := by decide +kernel
theorem dX14_init_64 : decode cX14_init 64 = .ok (.new 31, 3) := by decide +kernel
theorem dX14_init_67 : decode cX14_init 67 = .ok (.dup, 1) := by decide +kernel
theorem dX14_init_68 : decode cX14_init 68 = .ok (.aload_n 0, 1) := by decide +kernel
theorem dX14_init_69 : decode cX14_init 69 = .ok (.invokespecial 33, 3) := by decide +kernel
theorem dX14_init_72 : decode cX14_init 72 = .ok (.putfield 40, 3) := by decide +kernel
theorem dX14_init_75 : decode cX14_init 75 = .ok (.return_, 1) := by decide +kernel
theorem iX10 : ∀ w ∈ u_ws RX10 TX10 5, w ∈ lw_all := by
  intro w hw
  have h : w ∈ [(Jvm.Cond.laysFinal "WeirStream" "WeirStream" "live" "LWeirStream$Flow;"), (Jvm.Cond.laysFinal "WeirStream" "WeirStream" "trial" "LWeirStream$Flow;"), (Jvm.Cond.lays "WeirStream" "WeirStream" "hasStarted" "Z"), (Jvm.Cond.lays "WeirStream" "WeirStream" "crashCount" "I"), (Jvm.Cond.lays "WeirStream" "WeirStream" "workedCount" "I")] := hw
  simp only [List.mem_cons, List.not_mem_nil, or_false] at h
  rcases h with rfl | rfl | rfl | rfl | rfl
  · exact wq104
  · exact wq106
  · exact wq108
  · exact wq110
  · exact wq112
theorem dfX10 : ∀ j, j < 5 → defaultValue (tyX10 j) = vp_V [.null, .null, .int 0, .int 0, .int 0] j := by
  intro j hj
  rcases (show j = 0 ∨ j = 1 ∨ j = 2 ∨ j = 3 ∨ j = 4 by omega) with rfl | rfl | rfl | rfl | rfl <;> rfl
theorem iX2 : ∀ w ∈ u_ws RX2 TX2 8, w ∈ lw_all := by
  intro w hw
  have h : w ∈ [(Jvm.Cond.laysFinal "WeirStream$Flow" "WeirStream$Flow" "isTrial" "Z"), (Jvm.Cond.laysFinal "WeirStream$Flow" "WeirStream$Flow" "stages" "Ljava/util/ArrayList;"), (Jvm.Cond.lays "WeirStream$Flow" "WeirStream$Flow" "capacity" "I"), (Jvm.Cond.lays "WeirStream$Flow" "WeirStream$Flow" "lastWorked" "I"), (Jvm.Cond.lays "WeirStream$Flow" "WeirStream$Flow" "begunCount" "I"), (Jvm.Cond.lays "WeirStream$Flow" "WeirStream$Flow" "begunNumber" "I"), (Jvm.Cond.lays "WeirStream$Flow" "WeirStream$Flow" "completeNumber" "I"), (Jvm.Cond.lays "WeirStream$Flow" "WeirStream$Flow" "unsaved" "I")] := hw
  simp only [List.mem_cons, List.not_mem_nil, or_false] at h
  rcases h with rfl | rfl | rfl | rfl | rfl | rfl | rfl | rfl
  · exact wq82
  · exact wq84
  · exact wq86
  · exact wq88
  · exact wq90
  · exact wq92
  · exact wq94
  · exact wq96
theorem dfX2 : ∀ j, j < 8 → defaultValue (tyX2 j) = vp_V [.int 0, .null, .int 0, .int 0, .int 0, .int 0, .int 0, .int 0] j := by
  intro j hj
  rcases (show j = 0 ∨ j = 1 ∨ j = 2 ∨ j = 3 ∨ j = 4 ∨ j = 5 ∨ j = 6 ∨ j = 7 by omega) with rfl | rfl | rfl | rfl | rfl | rfl | rfl | rfl <;> rfl
theorem iX14 : ∀ w ∈ u_ws RX14 TX14 11, w ∈ lw_all := by
  intro w hw
  have h : w ∈ [(Jvm.Cond.lays "WeirStreamModel" "WeirStreamModel" "stages" "I"), (Jvm.Cond.lays "WeirStreamModel" "WeirStreamModel" "isStarted" "Z"), (Jvm.Cond.laysFinal "WeirStreamModel" "WeirStreamModel" "sort" "[I"), (Jvm.Cond.laysFinal "WeirStreamModel" "WeirStreamModel" "input" "[[I"), (Jvm.Cond.laysFinal "WeirStreamModel" "WeirStreamModel" "set" "[[I"), (Jvm.Cond.laysFinal "WeirStreamModel" "WeirStreamModel" "log" "[LWeirStreamModel$Rows;"), (Jvm.Cond.laysFinal "WeirStreamModel" "WeirStreamModel" "isClosed" "[Z"), (Jvm.Cond.laysFinal "WeirStreamModel" "WeirStreamModel" "now" "LWeirStreamModel$State;"), (Jvm.Cond.laysFinal "WeirStreamModel" "WeirStreamModel" "ahead" "LWeirStreamModel$State;"), (Jvm.Cond.lays "WeirStreamModel" "WeirStreamModel" "thrown" "I"), (Jvm.Cond.lays "WeirStreamModel" "WeirStreamModel" "sum" "J")] := hw
  simp only [List.mem_cons, List.not_mem_nil, or_false] at h
  rcases h with rfl | rfl | rfl | rfl | rfl | rfl | rfl | rfl | rfl | rfl | rfl
  · exact wq1544
  · exact wq1546
  · exact wq1548
  · exact wq1550
  · exact wq1552
  · exact wq1554
  · exact wq1556
  · exact wq1558
  · exact wq1560
  · exact wq1562
  · exact wq1564
theorem dfX14 : ∀ j, j < 11 → defaultValue (tyX14 j) = vp_V [.int 0, .int 0, .null, .null, .null, .null, .null, .null, .null, .int 0, .long 0] j := by
  intro j hj
  rcases (show j = 0 ∨ j = 1 ∨ j = 2 ∨ j = 3 ∨ j = 4 ∨ j = 5 ∨ j = 6 ∨ j = 7 ∨ j = 8 ∨ j = 9 ∨ j = 10 by omega) with rfl | rfl | rfl | rfl | rfl | rfl | rfl | rfl | rfl | rfl | rfl <;> rfl
theorem iX11 : ∀ w ∈ u_ws RX11 TX11 12, w ∈ lw_all := by
  intro w hw
  have h : w ∈ [(Jvm.Cond.lays "WeirStreamModel$Kept" "WeirStreamModel$Kept" "mark" "I"), (Jvm.Cond.lays "WeirStreamModel$Kept" "WeirStreamModel$Kept" "first" "I"), (Jvm.Cond.lays "WeirStreamModel$Kept" "WeirStreamModel$Kept" "second" "I"), (Jvm.Cond.lays "WeirStreamModel$Kept" "WeirStreamModel$Kept" "last" "I"), (Jvm.Cond.lays "WeirStreamModel$Kept" "WeirStreamModel$Kept" "position" "I"), (Jvm.Cond.lays "WeirStreamModel$Kept" "WeirStreamModel$Kept" "taken" "I"), (Jvm.Cond.lays "WeirStreamModel$Kept" "WeirStreamModel$Kept" "emitted" "I"), (Jvm.Cond.lays "WeirStreamModel$Kept" "WeirStreamModel$Kept" "late" "I"), (Jvm.Cond.lays "WeirStreamModel$Kept" "WeirStreamModel$Kept" "outputs" "I"), (Jvm.Cond.laysFinal "WeirStreamModel$Kept" "WeirStreamModel$Kept" "spans" "LWeirStreamModel$Rows;"), (Jvm.Cond.laysFinal "WeirStreamModel$Kept" "WeirStreamModel$Kept" "left" "LWeirStreamModel$Rows;"), (Jvm.Cond.laysFinal "WeirStreamModel$Kept" "WeirStreamModel$Kept" "right" "LWeirStreamModel$Rows;")] := hw
  simp only [List.mem_cons, List.not_mem_nil, or_false] at h
  rcases h with rfl | rfl | rfl | rfl | rfl | rfl | rfl | rfl | rfl | rfl | rfl | rfl
  · exact wq1438
  · exact wq1440
  · exact wq1442
  · exact wq1444
  · exact wq1446
  · exact wq1448
  · exact wq1450
  · exact wq1452
  · exact wq1454
  · exact wq1456
  · exact wq1458
  · exact wq1460
theorem dfX11 : ∀ j, j < 12 → defaultValue (tyX11 j) = vp_V [.int 0, .int 0, .int 0, .int 0, .int 0, .int 0, .int 0, .int 0, .int 0, .null, .null, .null] j := by
  intro j hj
  rcases (show j = 0 ∨ j = 1 ∨ j = 2 ∨ j = 3 ∨ j = 4 ∨ j = 5 ∨ j = 6 ∨ j = 7 ∨ j = 8 ∨ j = 9 ∨ j = 10 ∨ j = 11 by omega) with rfl | rfl | rfl | rfl | rfl | rfl | rfl | rfl | rfl | rfl | rfl | rfl <;> rfl
theorem iX12 : ∀ w ∈ u_ws RX12 TX12 3, w ∈ lw_all := by
  intro w hw
  have h : w ∈ [(Jvm.Cond.laysFinal "WeirStreamModel$Rows" "WeirStreamModel$Rows" "width" "I"), (Jvm.Cond.lays "WeirStreamModel$Rows" "WeirStreamModel$Rows" "many" "I"), (Jvm.Cond.lays "WeirStreamModel$Rows" "WeirStreamModel$Rows" "cells" "[I")] := hw
  simp only [List.mem_cons, List.not_mem_nil, or_false] at h
  rcases h with rfl | rfl | rfl
  · exact wq1393
  · exact wq1395
  · exact wq1397
theorem dfX12 : ∀ j, j < 3 → defaultValue (tyX12 j) = vp_V [.int 0, .int 0, .null] j := by
  intro j hj
  rcases (show j = 0 ∨ j = 1 ∨ j = 2 by omega) with rfl | rfl | rfl <;> rfl
theorem iX13 : ∀ w ∈ u_ws RX13 TX13 17, w ∈ lw_all := by
  intro w hw
  have h : w ∈ [(Jvm.Cond.lays "WeirStreamModel$State" "WeirStreamModel$State" "capacity" "I"), (Jvm.Cond.lays "WeirStreamModel$State" "WeirStreamModel$State" "latest" "I"), (Jvm.Cond.lays "WeirStreamModel$State" "WeirStreamModel$State" "begun" "I"), (Jvm.Cond.lays "WeirStreamModel$State" "WeirStreamModel$State" "complete" "I"), (Jvm.Cond.lays "WeirStreamModel$State" "WeirStreamModel$State" "numbers" "I"), (Jvm.Cond.lays "WeirStreamModel$State" "WeirStreamModel$State" "crashes" "I"), (Jvm.Cond.lays "WeirStreamModel$State" "WeirStreamModel$State" "worked" "I"), (Jvm.Cond.laysFinal "WeirStreamModel$State" "WeirStreamModel$State" "now" "[LWeirStreamModel$Kept;"), (Jvm.Cond.laysFinal "WeirStreamModel$State" "WeirStreamModel$State" "saved" "[LWeirStreamModel$Kept;"), (Jvm.Cond.laysFinal "WeirStreamModel$State" "WeirStreamModel$State" "done" "[LWeirStreamModel$Kept;"), (Jvm.Cond.laysFinal "WeirStreamModel$State" "WeirStreamModel$State" "isSaved" "[Z"), (Jvm.Cond.laysFinal "WeirStreamModel$State" "WeirStreamModel$State" "isToGive" "[Z"), (Jvm.Cond.laysFinal "WeirStreamModel$State" "WeirStreamModel$State" "queue" "[[LWeirStreamModel$Rows;"), (Jvm.Cond.laysFinal "WeirStreamModel$State" "WeirStreamModel$State" "isBlocked" "[[Z"), (Jvm.Cond.laysFinal "WeirStreamModel$State" "WeirStreamModel$State" "out" "[LWeirStreamModel$Rows;"), (Jvm.Cond.laysFinal "WeirStreamModel$State" "WeirStreamModel$State" "committed" "[I"), (Jvm.Cond.laysFinal "WeirStreamModel$State" "WeirStreamModel$State" "this$0" "LWeirStreamModel;")] := hw
  simp only [List.mem_cons, List.not_mem_nil, or_false] at h
  rcases h with rfl | rfl | rfl | rfl | rfl | rfl | rfl | rfl | rfl | rfl | rfl | rfl | rfl | rfl | rfl | rfl | rfl
  · exact wq1492
  · exact wq1494
  · exact wq1496
  · exact wq1498
  · exact wq1500
  · exact wq1502
  · exact wq1504
  · exact wq1506
  · exact wq1508
  · exact wq1510
  · exact wq1512
  · exact wq1514
  · exact wq1516
  · exact wq1518
  · exact wq1520
  · exact wq1522
  · exact wq1524
theorem dfX13 : ∀ j, j < 17 → defaultValue (tyX13 j) = vp_V [.int 0, .int 0, .int 0, .int 0, .int 0, .int 0, .int 0, .null, .null, .null, .null, .null, .null, .null, .null, .null, .null] j := by
  intro j hj
  rcases (show j = 0 ∨ j = 1 ∨ j = 2 ∨ j = 3 ∨ j = 4 ∨ j = 5 ∨ j = 6 ∨ j = 7 ∨ j = 8 ∨ j = 9 ∨ j = 10 ∨ j = 11 ∨ j = 12 ∨ j = 13 ∨ j = 14 ∨ j = 15 ∨ j = 16 by omega) with rfl | rfl | rfl | rfl | rfl | rfl | rfl | rfl | rfl | rfl | rfl | rfl | rfl | rfl | rfl | rfl | rfl <;> rfl
theorem iJx4a65c : ∀ w ∈ u_ws RJx4a65c TJx4a65c 3, w ∈ lw_all := by
  intro w hw
  have h : w ∈ [(Jvm.Cond.lays "java/util/ArrayList" "java/util/AbstractList" "modCount" "I"), (Jvm.Cond.lays "java/util/ArrayList" "java/util/ArrayList" "elementData" "[Ljava/lang/Object;"), (Jvm.Cond.lays "java/util/ArrayList" "java/util/ArrayList" "size" "I")] := hw
  simp only [List.mem_cons, List.not_mem_nil, or_false] at h
  rcases h with rfl | rfl | rfl
  · exact wq68
  · exact wq64
  · exact wq66
theorem dfJx4a65c : ∀ j, j < 3 → defaultValue (tyJx4a65c j) = vp_V [.int 0, .null, .int 0] j := by
  intro j hj
  rcases (show j = 0 ∨ j = 1 ∨ j = 2 by omega) with rfl | rfl | rfl <;> rfl
