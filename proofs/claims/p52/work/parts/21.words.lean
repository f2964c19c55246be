theorem wq322 : (Jvm.Cond.instanceMethod ({ cls := "WeirStream$Row", name := "remove", desc := "(II)V" } : Jvm.MethodName)) ∈ lw_all := lw_in (lw_tb (List.mem_of_getElem? (i := 322) (by decide +kernel))) rfl
theorem wq323 : (Jvm.Cond.selects "WeirStream$Row" ({ cls := "WeirStream$Row", name := "remove", desc := "(II)V" } : Jvm.MethodName) ({ cls := "WeirStream$Row", name := "remove", desc := "(II)V" } : Jvm.MethodName)) ∈ lw_all := lw_in (lw_tb (List.mem_of_getElem? (i := 323) (by decide +kernel))) rfl
theorem wq324 : (Jvm.Cond.code ({ cls := "WeirStream$Row", name := "remove", desc := "(II)V" } : Jvm.MethodName) prog_8_method_7_code (3 : Nat) (Option.none : Option Jvm.ClassFile.FieldType)) ∈ lw_all := lw_in (lw_tb (List.mem_of_getElem? (i := 324) (by decide +kernel))) rfl
theorem wq365 : (Jvm.Cond.methodLink "WeirStream$State" (57 : Nat) ({ cls := "WeirStream$Spans", name := "become", desc := "(LWeirStream$Spans;)V" } : Jvm.MethodName)) ∈ lw_all := lw_in (lw_tb (List.mem_of_getElem? (i := 365) (by decide +kernel))) rfl
theorem wq366 : (Jvm.Cond.instanceMethod ({ cls := "WeirStream$Spans", name := "become", desc := "(LWeirStream$Spans;)V" } : Jvm.MethodName)) ∈ lw_all := lw_in (lw_tb (List.mem_of_getElem? (i := 366) (by decide +kernel))) rfl
theorem wq367 : (Jvm.Cond.selects "WeirStream$Spans" ({ cls := "WeirStream$Spans", name := "become", desc := "(LWeirStream$Spans;)V" } : Jvm.MethodName) ({ cls := "WeirStream$Spans", name := "become", desc := "(LWeirStream$Spans;)V" } : Jvm.MethodName)) ∈ lw_all := lw_in (lw_tb (List.mem_of_getElem? (i := 367) (by decide +kernel))) rfl
theorem wq368 : (Jvm.Cond.code ({ cls := "WeirStream$Spans", name := "become", desc := "(LWeirStream$Spans;)V" } : Jvm.MethodName) prog_9_method_15_code (2 : Nat) (Option.none : Option Jvm.ClassFile.FieldType)) ∈ lw_all := lw_in (lw_tb (List.mem_of_getElem? (i := 368) (by decide +kernel))) rfl
theorem wq369 : (Jvm.Cond.methodLink "WeirStream$Spans" (58 : Nat) ({ cls := "WeirStream$Row", name := "become", desc := "(LWeirStream$Row;I)V" } : Jvm.MethodName)) ∈ lw_all := lw_in (lw_tb (List.mem_of_getElem? (i := 369) (by decide +kernel))) rfl
theorem wq370 : (Jvm.Cond.instanceMethod ({ cls := "WeirStream$Row", name := "become", desc := "(LWeirStream$Row;I)V" } : Jvm.MethodName)) ∈ lw_all := lw_in (lw_tb (List.mem_of_getElem? (i := 370) (by decide +kernel))) rfl
theorem wq371 : (Jvm.Cond.selects "WeirStream$Row" ({ cls := "WeirStream$Row", name := "become", desc := "(LWeirStream$Row;I)V" } : Jvm.MethodName) ({ cls := "WeirStream$Row", name := "become", desc := "(LWeirStream$Row;I)V" } : Jvm.MethodName)) ∈ lw_all := lw_in (lw_tb (List.mem_of_getElem? (i := 371) (by decide +kernel))) rfl
theorem wq372 : (Jvm.Cond.code ({ cls := "WeirStream$Row", name := "become", desc := "(LWeirStream$Row;I)V" } : Jvm.MethodName) prog_8_method_9_code (7 : Nat) (Option.none : Option Jvm.ClassFile.FieldType)) ∈ lw_all := lw_in (lw_tb (List.mem_of_getElem? (i := 372) (by decide +kernel))) rfl
theorem wq377 : (Jvm.Cond.methodLink "WeirStream$State" (61 : Nat) ({ cls := "WeirStream$Row", name := "become", desc := "(LWeirStream$Row;I)V" } : Jvm.MethodName)) ∈ lw_all := lw_in (lw_tb (List.mem_of_getElem? (i := 377) (by decide +kernel))) rfl
theorem wq452 : (Jvm.Cond.methodLink "WeirStream$Spans" (54 : Nat) ({ cls := "WeirStream$Row", name := "remove", desc := "(II)V" } : Jvm.MethodName)) ∈ lw_all := lw_in (lw_tb (List.mem_of_getElem? (i := 452) (by decide +kernel))) rfl
theorem wq474 : (Jvm.Cond.methodLink "WeirStream$Channel" (28 : Nat) ({ cls := "WeirStream$Row", name := "at", desc := "(I)J" } : Jvm.MethodName)) ∈ lw_all := lw_in (lw_tb (List.mem_of_getElem? (i := 474) (by decide +kernel))) rfl
theorem wq535 : (Jvm.Cond.methodLink "WeirStream$Spans" (51 : Nat) ({ cls := "WeirStream$Row", name := "put", desc := "(IJ)V" } : Jvm.MethodName)) ∈ lw_all := lw_in (lw_tb (List.mem_of_getElem? (i := 535) (by decide +kernel))) rfl
theorem wq536 : (Jvm.Cond.instanceMethod ({ cls := "WeirStream$Row", name := "put", desc := "(IJ)V" } : Jvm.MethodName)) ∈ lw_all := lw_in (lw_tb (List.mem_of_getElem? (i := 536) (by decide +kernel))) rfl
theorem wq537 : (Jvm.Cond.selects "WeirStream$Row" ({ cls := "WeirStream$Row", name := "put", desc := "(IJ)V" } : Jvm.MethodName) ({ cls := "WeirStream$Row", name := "put", desc := "(IJ)V" } : Jvm.MethodName)) ∈ lw_all := lw_in (lw_tb (List.mem_of_getElem? (i := 537) (by decide +kernel))) rfl
theorem wq538 : (Jvm.Cond.code ({ cls := "WeirStream$Row", name := "put", desc := "(IJ)V" } : Jvm.MethodName) prog_8_method_4_code (4 : Nat) (Option.none : Option Jvm.ClassFile.FieldType)) ∈ lw_all := lw_in (lw_tb (List.mem_of_getElem? (i := 538) (by decide +kernel))) rfl
theorem wq543 : (Jvm.Cond.methodLink "WeirStream$Spans" (47 : Nat) ({ cls := "WeirStream$Row", name := "insert", desc := "(IJ)V" } : Jvm.MethodName)) ∈ lw_all := lw_in (lw_tb (List.mem_of_getElem? (i := 543) (by decide +kernel))) rfl
theorem wq544 : (Jvm.Cond.instanceMethod ({ cls := "WeirStream$Row", name := "insert", desc := "(IJ)V" } : Jvm.MethodName)) ∈ lw_all := lw_in (lw_tb (List.mem_of_getElem? (i := 544) (by decide +kernel))) rfl
theorem wq545 : (Jvm.Cond.selects "WeirStream$Row" ({ cls := "WeirStream$Row", name := "insert", desc := "(IJ)V" } : Jvm.MethodName) ({ cls := "WeirStream$Row", name := "insert", desc := "(IJ)V" } : Jvm.MethodName)) ∈ lw_all := lw_in (lw_tb (List.mem_of_getElem? (i := 545) (by decide +kernel))) rfl
theorem wq546 : (Jvm.Cond.code ({ cls := "WeirStream$Row", name := "insert", desc := "(IJ)V" } : Jvm.MethodName) prog_8_method_6_code (4 : Nat) (Option.none : Option Jvm.ClassFile.FieldType)) ∈ lw_all := lw_in (lw_tb (List.mem_of_getElem? (i := 546) (by decide +kernel))) rfl
theorem wq1051 : (Jvm.Cond.fieldLink "WeirStream$State" (7 : Nat) "WeirStream$State" "mark" "I") ∈ lw_all := lw_in (lw_tb (List.mem_of_getElem? (i := 1051) (by decide +kernel))) rfl
theorem wq1054 : (Jvm.Cond.fieldLink "WeirStream$State" (13 : Nat) "WeirStream$State" "firstMark" "I") ∈ lw_all := lw_in (lw_tb (List.mem_of_getElem? (i := 1054) (by decide +kernel))) rfl
theorem wq1056 : (Jvm.Cond.fieldLink "WeirStream$State" (16 : Nat) "WeirStream$State" "secondMark" "I") ∈ lw_all := lw_in (lw_tb (List.mem_of_getElem? (i := 1056) (by decide +kernel))) rfl
theorem wq1058 : (Jvm.Cond.fieldLink "WeirStream$State" (19 : Nat) "WeirStream$State" "tookSecond" "Z") ∈ lw_all := lw_in (lw_tb (List.mem_of_getElem? (i := 1058) (by decide +kernel))) rfl
theorem wq1062 : (Jvm.Cond.fieldLink "WeirStream$State" (45 : Nat) "WeirStream$State" "taken" "I") ∈ lw_all := lw_in (lw_tb (List.mem_of_getElem? (i := 1062) (by decide +kernel))) rfl
theorem wq1064 : (Jvm.Cond.fieldLink "WeirStream$State" (48 : Nat) "WeirStream$State" "emitted" "I") ∈ lw_all := lw_in (lw_tb (List.mem_of_getElem? (i := 1064) (by decide +kernel))) rfl
theorem wq1067 : (Jvm.Cond.fieldLink "WeirStream$State" (51 : Nat) "WeirStream$State" "late" "I") ∈ lw_all := lw_in (lw_tb (List.mem_of_getElem? (i := 1067) (by decide +kernel))) rfl
theorem wq1070 : (Jvm.Cond.fieldLink "WeirStream$State" (54 : Nat) "WeirStream$State" "outputCount" "I") ∈ lw_all := lw_in (lw_tb (List.mem_of_getElem? (i := 1070) (by decide +kernel))) rfl
theorem dX1_give_0 : decode cX1_give 0 = .ok (.aload_n 0, 1) := by decide +kernel
theorem dX1_give_1 : decode cX1_give 1 = .ok (.getfield 7, 3) := by decide +kernel
theorem dX1_give_4 : decode cX1_give 4 = .ok (.aload_n 0, 1) := by decide +kernel
theorem dX1_give_5 : decode cX1_give 5 = .ok (.getfield 19, 3) := by decide +kernel
theorem dX1_give_8 : decode cX1_give 8 = .ok (.invokevirtual 28, 3) := by decide +kernel
theorem dX1_give_11 : decode cX1_give 11 = .ok (.lstore_n 1, 1) := by decide +kernel
theorem dX1_give_12 : decode cX1_give 12 = .ok (.aload_n 0, 1) := by decide +kernel
theorem dX1_give_13 : decode cX1_give 13 = .ok (.dup, 1) := by decide +kernel
theorem dX1_give_14 : decode cX1_give 14 = .ok (.getfield 19, 3) := by decide +kernel
theorem dX1_give_17 : decode cX1_give 17 = .ok (.iconst 1, 1) := by decide +kernel
theorem dX1_give_18 : decode cX1_give 18 = .ok (.iadd, 1) := by decide +kernel
theorem dX1_give_19 : decode cX1_give 19 = .ok (.putfield 19, 3) := by decide +kernel
theorem dX1_give_22 : decode cX1_give 22 = .ok (.lload_n 1, 1) := by decide +kernel
theorem dX1_give_23 : decode cX1_give 23 = .ok (.lreturn, 1) := by decide +kernel
theorem dX7_insert_0 : decode cX7_insert 0 = .ok (.aload_n 0, 1) := by decide +kernel
theorem dX7_insert_1 : decode cX7_insert 1 = .ok (.getfield 12, 3) := by decide +kernel
theorem dX7_insert_4 : decode cX7_insert 4 = .ok (.iload_n 1, 1) := by decide +kernel
theorem dX7_insert_5 : decode cX7_insert 5 = .ok (.lload_n 2, 1) := by decide +kernel
theorem dX7_insert_6 : decode cX7_insert 6 = .ok (.invokevirtual 47, 3) := by decide +kernel
theorem dX7_insert_9 : decode cX7_insert 9 = .ok (.aload_n 0, 1) := by decide +kernel
theorem dX7_insert_10 : decode cX7_insert 10 = .ok (.getfield 18, 3) := by decide +kernel
theorem dX7_insert_13 : decode cX7_insert 13 = .ok (.iload_n 1, 1) := by decide +kernel
theorem dX7_insert_14 : decode cX7_insert 14 = .ok (.lload 4, 2) := by decide +kernel
theorem dX7_insert_16 : decode cX7_insert 16 = .ok (.invokevirtual 47, 3) := by decide +kernel
theorem dX7_insert_19 : decode cX7_insert 19 = .ok (.return_, 1) := by decide +kernel
theorem dX7_setAccount_0 : decode cX7_setAccount 0 = .ok (.aload_n 0, 1) := by decide +kernel
theorem dX7_setAccount_1 : decode cX7_setAccount 1 = .ok (.getfield 18, 3) := by decide +kernel
theorem dX7_setAccount_4 : decode cX7_setAccount 4 = .ok (.iload_n 1, 1) := by decide +kernel
theorem dX7_setAccount_5 : decode cX7_setAccount 5 = .ok (.lload_n 2, 1) := by decide +kernel
theorem dX7_setAccount_6 : decode cX7_setAccount 6 = .ok (.invokevirtual 51, 3) := by decide +kernel
theorem dX7_setAccount_9 : decode cX7_setAccount 9 = .ok (.return_, 1) := by decide +kernel
theorem dX7_remove_0 : decode cX7_remove 0 = .ok (.aload_n 0, 1) := by decide +kernel
theorem dX7_remove_1 : decode cX7_remove 1 = .ok (.getfield 12, 3) := by decide +kernel
theorem dX7_remove_4 : decode cX7_remove 4 = .ok (.iload_n 1, 1) := by decide +kernel
theorem dX7_remove_5 : decode cX7_remove 5 = .ok (.iload_n 2, 1) := by decide +kernel
theorem dX7_remove_6 : decode cX7_remove 6 = .ok (.invokevirtual 54, 3) := by decide +kernel
theorem dX7_remove_9 : decode cX7_remove 9 = .ok (.aload_n 0, 1) := by decide +kernel
theorem dX7_remove_10 : decode cX7_remove 10 = .ok (.getfield 18, 3) := by decide +kernel
theorem dX7_remove_13 : decode cX7_remove 13 = .ok (.iload_n 1, 1) := by decide +kernel
theorem dX7_remove_14 : decode cX7_remove 14 = .ok (.iload_n 2, 1) := by decide +kernel
theorem dX7_remove_15 : decode cX7_remove 15 = .ok (.invokevirtual 54, 3) := by decide +kernel
theorem dX7_remove_18 : decode cX7_remove 18 = .ok (.return_, 1) := by decide +kernel
theorem dX7_become_0 : decode cX7_become 0 = .ok (.aload_n 0, 1) := by decide +kernel
theorem dX7_become_1 : decode cX7_become 1 = .ok (.getfield 12, 3) := by decide +kernel
theorem dX7_become_4 : decode cX7_become 4 = .ok (.aload_n 1, 1) := by decide +kernel
theorem dX7_become_5 : decode cX7_become 5 = .ok (.getfield 12, 3) := by decide +kernel
theorem dX7_become_8 : decode cX7_become 8 = .ok (.iconst 0, 1) := by decide +kernel
theorem dX7_become_9 : decode cX7_become 9 = .ok (.invokevirtual 58, 3) := by decide +kernel
theorem dX7_become_12 : decode cX7_become 12 = .ok (.aload_n 0, 1) := by decide +kernel
theorem dX7_become_13 : decode cX7_become 13 = .ok (.getfield 18, 3) := by decide +kernel
theorem dX7_become_16 : decode cX7_become 16 = .ok (.aload_n 1, 1) := by decide +kernel
theorem dX7_become_17 : decode cX7_become 17 = .ok (.getfield 18, 3) := by decide +kernel
theorem dX7_become_20 : decode cX7_become 20 = .ok (.iconst 0, 1) := by decide +kernel
theorem dX7_become_21 : decode cX7_become 21 = .ok (.invokevirtual 58, 3) := by decide +kernel
theorem dX7_become_24 : decode cX7_become 24 = .ok (.return_, 1) := by decide +kernel
theorem dX9_become_0 : decode cX9_become 0 = .ok (.aload_n 0, 1) := by decide +kernel
theorem dX9_become_1 : decode cX9_become 1 = .ok (.aload_n 1, 1) := by decide +kernel
theorem dX9_become_2 : decode cX9_become 2 = .ok (.getfield 7, 3) := by decide +kernel
theorem dX9_become_5 : decode cX9_become 5 = .ok (.putfield 7, 3) := by decide +kernel
theorem dX9_become_8 : decode cX9_become 8 = .ok (.aload_n 0, 1) := by decide +kernel
theorem dX9_become_9 : decode cX9_become 9 = .ok (.aload_n 1, 1) := by decide +kernel
theorem dX9_become_10 : decode cX9_become 10 = .ok (.getfield 13, 3) := by decide +kernel
theorem dX9_become_13 : decode cX9_become 13 = .ok (.putfield 13, 3) := by decide +kernel
theorem dX9_become_16 : decode cX9_become 16 = .ok (.aload_n 0, 1) := by decide +kernel
theorem dX9_become_17 : decode cX9_become 17 = .ok (.aload_n 1, 1) := by decide +kernel
theorem dX9_become_18 : decode cX9_become 18 = .ok (.getfield 16, 3) := by decide +kernel
theorem dX9_become_21 : decode cX9_become 21 = .ok (.putfield 16, 3) := by decide +kernel
theorem dX9_become_24 : decode cX9_become 24 = .ok (.aload_n 0, 1) := by decide +kernel
theorem dX9_become_25 : decode cX9_become 25 = .ok (.aload_n 1, 1) := by decide +kernel
theorem dX9_become_26 : decode cX9_become 26 = .ok (.getfield 19, 3) := by decide +kernel
theorem dX9_become_29 : decode cX9_become 29 = .ok (.putfield 19, 3) := by decide +kernel
theorem dX9_become_32 : decode cX9_become 32 = .ok (.aload_n 0, 1) := by decide +kernel
theorem dX9_become_33 : decode cX9_become 33 = .ok (.aload_n 1, 1) := by decide +kernel
theorem dX9_become_34 : decode cX9_become 34 = .ok (.getfield 45, 3) := by decide +kernel
theorem dX9_become_37 : decode cX9_become 37 = .ok (.putfield 45, 3) := by decide +kernel
theorem dX9_become_40 : decode cX9_become 40 = .ok (.aload_n 0, 1) := by decide +kernel
theorem dX9_become_41 : decode cX9_become 41 = .ok (.aload_n 1, 1) := by decide +kernel
theorem dX9_become_42 : decode cX9_become 42 = .ok (.getfield 48, 3) := by decide +kernel
theorem dX9_become_45 : decode cX9_become 45 = .ok (.putfield 48, 3) := by decide +kernel
theorem dX9_become_48 : decode cX9_become 48 = .ok (.aload_n 0, 1) := by decide +kernel
theorem dX9_become_49 : decode cX9_become 49 = .ok (.aload_n 1, 1) := by decide +kernel
theorem dX9_become_50 : decode cX9_become 50 = .ok (.getfield 51, 3) := by decide +kernel
theorem dX9_become_53 : decode cX9_become 53 = .ok (.putfield 51, 3) := by decide +kernel
theorem dX9_become_56 : decode cX9_become 56 = .ok (.aload_n 0, 1) := by decide +kernel
theorem dX9_become_57 : decode cX9_become 57 = .ok (.aload_n 1, 1) := by decide +kernel
theorem dX9_become_58 : decode cX9_become 58 = .ok (.getfield 54, 3) := by decide +kernel
theorem dX9_become_61 : decode cX9_become 61 = .ok (.putfield 54, 3) := by decide +kernel
theorem dX9_become_64 : decode cX9_become 64 = .ok (.aload_n 0, 1) := by decide +kernel
theorem dX9_become_65 : decode cX9_become 65 = .ok (.getfield 26, 3) := by decide +kernel
theorem dX9_become_68 : decode cX9_become 68 = .ok (.aload_n 1, 1) := by decide +kernel
theorem dX9_become_69 : decode cX9_become 69 = .ok (.getfield 26, 3) := by decide +kernel
theorem dX9_become_72 : decode cX9_become 72 = .ok (.invokevirtual 57, 3) := by decide +kernel
theorem dX9_become_75 : decode cX9_become 75 = .ok (.aload_n 0, 1) := by decide +kernel
theorem dX9_become_76 : decode cX9_become 76 = .ok (.getfield 33, 3) := by decide +kernel
theorem dX9_become_79 : decode cX9_become 79 = .ok (.aload_n 1, 1) := by decide +kernel
theorem dX9_become_80 : decode cX9_become 80 = .ok (.getfield 33, 3) := by decide +kernel
theorem dX9_become_83 : decode cX9_become 83 = .ok (.iconst 0, 1) := by decide +kernel
theorem dX9_become_84 : decode cX9_become 84 = .ok (.invokevirtual 61, 3) := by decide +kernel
theorem dX9_become_87 : decode cX9_become 87 = .ok (.aload_n 0, 1) := by decide +kernel
theorem dX9_become_88 : decode cX9_become 88 = .ok (.getfield 37, 3) := by decide +kernel
theorem dX9_become_91 : decode cX9_become 91 = .ok (.aload_n 1, 1) := by decide +kernel
theorem dX9_become_92 : decode cX9_become 92 = .ok (.getfield 37, 3) := by decide +kernel
theorem dX9_become_95 : decode cX9_become 95 = .ok (.iconst 0, 1) := by decide +kernel
theorem dX9_become_96 : decode cX9_become 96 = .ok (.invokevirtual 61, 3) := by decide +kernel
theorem dX9_become_99 : decode cX9_become 99 = .ok (.return_, 1) := by decide +kernel
