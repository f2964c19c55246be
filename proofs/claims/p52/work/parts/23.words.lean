theorem wq321 : (Jvm.Cond.methodLink "WeirStream$Outlet" (56 : Nat) ({ cls := "WeirStream$Row", name := "remove", desc := "(II)V" } : Jvm.MethodName)) ∈ lw_all := lw_in (lw_tb (List.mem_of_getElem? (i := 321) (by decide +kernel))) rfl
theorem wq337 : (Jvm.Cond.instanceMethod ({ cls := "WeirStream$Stage", name := "emit", desc := "(J)V" } : Jvm.MethodName)) ∈ lw_all := lw_in (lw_tb (List.mem_of_getElem? (i := 337) (by decide +kernel))) rfl
theorem wq338 : (Jvm.Cond.selects "WeirStream$Stage" ({ cls := "WeirStream$Stage", name := "emit", desc := "(J)V" } : Jvm.MethodName) ({ cls := "WeirStream$Stage", name := "emit", desc := "(J)V" } : Jvm.MethodName)) ∈ lw_all := lw_in (lw_tb (List.mem_of_getElem? (i := 338) (by decide +kernel))) rfl
theorem wq339 : (Jvm.Cond.code ({ cls := "WeirStream$Stage", name := "emit", desc := "(J)V" } : Jvm.MethodName) prog_10_method_6_code (3 : Nat) (Option.none : Option Jvm.ClassFile.FieldType)) ∈ lw_all := lw_in (lw_tb (List.mem_of_getElem? (i := 339) (by decide +kernel))) rfl
theorem wq340 : (Jvm.Cond.methodLink "WeirStream$Stage" (95 : Nat) ({ cls := "WeirStream$Item", name := "kind", desc := "(J)I" } : Jvm.MethodName)) ∈ lw_all := lw_in (lw_tb (List.mem_of_getElem? (i := 340) (by decide +kernel))) rfl
theorem wq341 : (Jvm.Cond.static ({ cls := "WeirStream$Item", name := "kind", desc := "(J)I" } : Jvm.MethodName)) ∈ lw_all := lw_in (lw_tb (List.mem_of_getElem? (i := 341) (by decide +kernel))) rfl
theorem wq342 : (Jvm.Cond.code ({ cls := "WeirStream$Item", name := "kind", desc := "(J)I" } : Jvm.MethodName) prog_5_method_5_code (2 : Nat) (Option.some Jvm.ClassFile.FieldType.int)) ∈ lw_all := lw_in (lw_tb (List.mem_of_getElem? (i := 342) (by decide +kernel))) rfl
theorem wq343 : (Jvm.Cond.methodLink "WeirStream$Stage" (108 : Nat) ({ cls := "java/util/ArrayList", name := "size", desc := "()I" } : Jvm.MethodName)) ∈ lw_all := lw_in (lw_tb (List.mem_of_getElem? (i := 343) (by decide +kernel))) rfl
theorem wq344 : (Jvm.Cond.methodLink "WeirStream$Stage" (116 : Nat) ({ cls := "WeirStream$Row", name := "add", desc := "(J)V" } : Jvm.MethodName)) ∈ lw_all := lw_in (lw_tb (List.mem_of_getElem? (i := 344) (by decide +kernel))) rfl
theorem wq345 : (Jvm.Cond.instanceMethod ({ cls := "WeirStream$Row", name := "add", desc := "(J)V" } : Jvm.MethodName)) ∈ lw_all := lw_in (lw_tb (List.mem_of_getElem? (i := 345) (by decide +kernel))) rfl
theorem wq346 : (Jvm.Cond.selects "WeirStream$Row" ({ cls := "WeirStream$Row", name := "add", desc := "(J)V" } : Jvm.MethodName) ({ cls := "WeirStream$Row", name := "add", desc := "(J)V" } : Jvm.MethodName)) ∈ lw_all := lw_in (lw_tb (List.mem_of_getElem? (i := 346) (by decide +kernel))) rfl
theorem wq347 : (Jvm.Cond.code ({ cls := "WeirStream$Row", name := "add", desc := "(J)V" } : Jvm.MethodName) prog_8_method_5_code (3 : Nat) (Option.none : Option Jvm.ClassFile.FieldType)) ∈ lw_all := lw_in (lw_tb (List.mem_of_getElem? (i := 347) (by decide +kernel))) rfl
theorem wq390 : (Jvm.Cond.methodLink "WeirStream$Stage" (120 : Nat) ({ cls := "WeirStream$Row", name := "at", desc := "(I)J" } : Jvm.MethodName)) ∈ lw_all := lw_in (lw_tb (List.mem_of_getElem? (i := 390) (by decide +kernel))) rfl
theorem wq394 : (Jvm.Cond.methodLink "WeirStream$Stage" (124 : Nat) ({ cls := "WeirStream$Stage", name := "emit", desc := "(J)V" } : Jvm.MethodName)) ∈ lw_all := lw_in (lw_tb (List.mem_of_getElem? (i := 394) (by decide +kernel))) rfl
theorem wq615 : (Jvm.Cond.instanceMethod ({ cls := "WeirStream$Row", name := "shorten", desc := "(I)V" } : Jvm.MethodName)) ∈ lw_all := lw_in (lw_tb (List.mem_of_getElem? (i := 615) (by decide +kernel))) rfl
theorem wq616 : (Jvm.Cond.selects "WeirStream$Row" ({ cls := "WeirStream$Row", name := "shorten", desc := "(I)V" } : Jvm.MethodName) ({ cls := "WeirStream$Row", name := "shorten", desc := "(I)V" } : Jvm.MethodName)) ∈ lw_all := lw_in (lw_tb (List.mem_of_getElem? (i := 616) (by decide +kernel))) rfl
theorem wq617 : (Jvm.Cond.code ({ cls := "WeirStream$Row", name := "shorten", desc := "(I)V" } : Jvm.MethodName) prog_8_method_8_code (2 : Nat) (Option.none : Option Jvm.ClassFile.FieldType)) ∈ lw_all := lw_in (lw_tb (List.mem_of_getElem? (i := 617) (by decide +kernel))) rfl
theorem wq622 : (Jvm.Cond.methodLink "WeirStream$Outlet" (60 : Nat) ({ cls := "WeirStream$Row", name := "shorten", desc := "(I)V" } : Jvm.MethodName)) ∈ lw_all := lw_in (lw_tb (List.mem_of_getElem? (i := 622) (by decide +kernel))) rfl
theorem wq703 : (Jvm.Cond.methodLink "WeirStream$Outlet" (68 : Nat) ({ cls := "WeirStream$Row", name := "become", desc := "(LWeirStream$Row;I)V" } : Jvm.MethodName)) ∈ lw_all := lw_in (lw_tb (List.mem_of_getElem? (i := 703) (by decide +kernel))) rfl
theorem wq1112 : (Jvm.Cond.fieldLink "WeirStream$Stage" (52 : Nat) "WeirStream$Stage" "isTrial" "Z") ∈ lw_all := lw_in (lw_tb (List.mem_of_getElem? (i := 1112) (by decide +kernel))) rfl
theorem wq1116 : (Jvm.Cond.fieldLink "WeirStream$Stage" (21 : Nat) "WeirStream$Stage" "output" "LWeirStream$Row;") ∈ lw_all := lw_in (lw_tb (List.mem_of_getElem? (i := 1116) (by decide +kernel))) rfl
theorem wr841 : (Jvm.Cond.fieldLinkNest "WeirStream$Stage" (130 : Nat) "WeirStream$Plan" "slack" "I" "WeirStream") ∈ lw_tbl := lw_tb (List.mem_of_getElem? (i := 841) (by decide +kernel))
theorem wr941 : (Jvm.Cond.fieldLinkNest "WeirStream$Outlet" (64 : Nat) "WeirStream$Channel" "isShut" "Z" "WeirStream") ∈ lw_tbl := lw_tb (List.mem_of_getElem? (i := 941) (by decide +kernel))
theorem wr1017 : (Jvm.Cond.fieldLinkNest "WeirStream$Stage" (113 : Nat) "WeirStream$Outlet" "items" "LWeirStream$Row;" "WeirStream") ∈ lw_tbl := lw_tb (List.mem_of_getElem? (i := 1017) (by decide +kernel))
theorem wr1019 : (Jvm.Cond.fieldLinkNest "WeirStream$Stage" (104 : Nat) "WeirStream$Outlet" "channels" "Ljava/util/ArrayList;" "WeirStream") ∈ lw_tbl := lw_tb (List.mem_of_getElem? (i := 1019) (by decide +kernel))
theorem wr1065 : (Jvm.Cond.fieldLinkNest "WeirStream$Stage" (101 : Nat) "WeirStream$State" "emitted" "I" "WeirStream") ∈ lw_tbl := lw_tb (List.mem_of_getElem? (i := 1065) (by decide +kernel))
theorem wr1071 : (Jvm.Cond.fieldLinkNest "WeirStream$Stage" (176 : Nat) "WeirStream$State" "outputCount" "I" "WeirStream") ∈ lw_tbl := lw_tb (List.mem_of_getElem? (i := 1071) (by decide +kernel))
theorem dX4_forgetGiven_33 : decode cX4_forgetGiven 33 = .ok (.iload_n 2, 1) := by decide +kernel
theorem dX4_forgetGiven_34 : decode cX4_forgetGiven 34 = .ok (.aload_n 0, 1) := by decide +kernel
theorem dX4_forgetGiven_35 : decode cX4_forgetGiven 35 = .ok (.getfield 19, 3) := by decide +kernel
theorem dX4_forgetGiven_38 : decode cX4_forgetGiven 38 = .ok (.invokevirtual 39, 3) := by decide +kernel
theorem dX4_forgetGiven_41 : decode cX4_forgetGiven 41 = .ok (.if_icmp .ge 29, 3) := by decide +kernel
theorem dX4_forgetGiven_44 : decode cX4_forgetGiven 44 = .ok (.aload_n 0, 1) := by decide +kernel
theorem dX4_forgetGiven_45 : decode cX4_forgetGiven 45 = .ok (.getfield 19, 3) := by decide +kernel
theorem dX4_forgetGiven_48 : decode cX4_forgetGiven 48 = .ok (.iload_n 2, 1) := by decide +kernel
theorem dX4_forgetGiven_49 : decode cX4_forgetGiven 49 = .ok (.invokevirtual 42, 3) := by decide +kernel
theorem dX4_forgetGiven_52 : decode cX4_forgetGiven 52 = .ok (.checkcast 23, 3) := by decide +kernel
theorem dX4_forgetGiven_55 : decode cX4_forgetGiven 55 = .ok (.dup, 1) := by decide +kernel
theorem dX4_forgetGiven_56 : decode cX4_forgetGiven 56 = .ok (.getfield 46, 3) := by decide +kernel
theorem dX4_forgetGiven_59 : decode cX4_forgetGiven 59 = .ok (.iload_n 1, 1) := by decide +kernel
theorem dX4_forgetGiven_60 : decode cX4_forgetGiven 60 = .ok (.isub, 1) := by decide +kernel
theorem dX4_forgetGiven_61 : decode cX4_forgetGiven 61 = .ok (.putfield 46, 3) := by decide +kernel
theorem dX4_forgetGiven_64 : decode cX4_forgetGiven 64 = .ok (.iinc 2 1, 3) := by decide +kernel
theorem dX4_forgetGiven_67 : decode cX4_forgetGiven 67 = .ok (.goto (-34), 3) := by decide +kernel
theorem dX4_forgetGiven_0 : decode cX4_forgetGiven 0 = .ok (.aload_n 0, 1) := by decide +kernel
theorem dX4_forgetGiven_1 : decode cX4_forgetGiven 1 = .ok (.invokevirtual 36, 3) := by decide +kernel
theorem dX4_forgetGiven_4 : decode cX4_forgetGiven 4 = .ok (.istore_n 1, 1) := by decide +kernel
theorem dX4_forgetGiven_5 : decode cX4_forgetGiven 5 = .ok (.iload_n 1, 1) := by decide +kernel
theorem dX4_forgetGiven_6 : decode cX4_forgetGiven 6 = .ok (.ifCond .le 64, 3) := by decide +kernel
theorem dX4_forgetGiven_70 : decode cX4_forgetGiven 70 = .ok (.return_, 1) := by decide +kernel
theorem dX4_forgetGiven_9 : decode cX4_forgetGiven 9 = .ok (.iload_n 1, 1) := by decide +kernel
theorem dX4_forgetGiven_10 : decode cX4_forgetGiven 10 = .ok (.aload_n 0, 1) := by decide +kernel
theorem dX4_forgetGiven_11 : decode cX4_forgetGiven 11 = .ok (.getfield 10, 3) := by decide +kernel
theorem dX4_forgetGiven_14 : decode cX4_forgetGiven 14 = .ok (.invokevirtual 32, 3) := by decide +kernel
theorem dX4_forgetGiven_17 : decode cX4_forgetGiven 17 = .ok (.iconst 2, 1) := by decide +kernel
theorem dX4_forgetGiven_18 : decode cX4_forgetGiven 18 = .ok (.idiv, 1) := by decide +kernel
theorem dX4_forgetGiven_19 : decode cX4_forgetGiven 19 = .ok (.if_icmp .lt 51, 3) := by decide +kernel
theorem dX4_forgetGiven_22 : decode cX4_forgetGiven 22 = .ok (.aload_n 0, 1) := by decide +kernel
theorem dX4_forgetGiven_23 : decode cX4_forgetGiven 23 = .ok (.getfield 10, 3) := by decide +kernel
theorem dX4_forgetGiven_26 : decode cX4_forgetGiven 26 = .ok (.iconst 0, 1) := by decide +kernel
theorem dX4_forgetGiven_27 : decode cX4_forgetGiven 27 = .ok (.iload_n 1, 1) := by decide +kernel
theorem dX4_forgetGiven_28 : decode cX4_forgetGiven 28 = .ok (.invokevirtual 56, 3) := by decide +kernel
theorem dX4_forgetGiven_31 : decode cX4_forgetGiven 31 = .ok (.iconst 0, 1) := by decide +kernel
theorem dX4_forgetGiven_32 : decode cX4_forgetGiven 32 = .ok (.istore_n 2, 1) := by decide +kernel
theorem dX4_empty_10 : decode cX4_empty 10 = .ok (.iload_n 1, 1) := by decide +kernel
theorem dX4_empty_11 : decode cX4_empty 11 = .ok (.aload_n 0, 1) := by decide +kernel
theorem dX4_empty_12 : decode cX4_empty 12 = .ok (.getfield 19, 3) := by decide +kernel
theorem dX4_empty_15 : decode cX4_empty 15 = .ok (.invokevirtual 39, 3) := by decide +kernel
theorem dX4_empty_18 : decode cX4_empty 18 = .ok (.if_icmp .ge 31, 3) := by decide +kernel
theorem dX4_empty_21 : decode cX4_empty 21 = .ok (.aload_n 0, 1) := by decide +kernel
theorem dX4_empty_22 : decode cX4_empty 22 = .ok (.getfield 19, 3) := by decide +kernel
theorem dX4_empty_25 : decode cX4_empty 25 = .ok (.iload_n 1, 1) := by decide +kernel
theorem dX4_empty_26 : decode cX4_empty 26 = .ok (.invokevirtual 42, 3) := by decide +kernel
theorem dX4_empty_29 : decode cX4_empty 29 = .ok (.checkcast 23, 3) := by decide +kernel
theorem dX4_empty_32 : decode cX4_empty 32 = .ok (.astore_n 2, 1) := by decide +kernel
theorem dX4_empty_33 : decode cX4_empty 33 = .ok (.aload_n 2, 1) := by decide +kernel
theorem dX4_empty_34 : decode cX4_empty 34 = .ok (.iconst 0, 1) := by decide +kernel
theorem dX4_empty_35 : decode cX4_empty 35 = .ok (.putfield 46, 3) := by decide +kernel
theorem dX4_empty_38 : decode cX4_empty 38 = .ok (.aload_n 2, 1) := by decide +kernel
theorem dX4_empty_39 : decode cX4_empty 39 = .ok (.iconst 0, 1) := by decide +kernel
theorem dX4_empty_40 : decode cX4_empty 40 = .ok (.putfield 64, 3) := by decide +kernel
theorem dX4_empty_43 : decode cX4_empty 43 = .ok (.iinc 1 1, 3) := by decide +kernel
theorem dX4_empty_46 : decode cX4_empty 46 = .ok (.goto (-36), 3) := by decide +kernel
theorem dX4_empty_0 : decode cX4_empty 0 = .ok (.aload_n 0, 1) := by decide +kernel
theorem dX4_empty_1 : decode cX4_empty 1 = .ok (.getfield 10, 3) := by decide +kernel
theorem dX4_empty_4 : decode cX4_empty 4 = .ok (.iconst 0, 1) := by decide +kernel
theorem dX4_empty_5 : decode cX4_empty 5 = .ok (.invokevirtual 60, 3) := by decide +kernel
theorem dX4_empty_8 : decode cX4_empty 8 = .ok (.iconst 0, 1) := by decide +kernel
theorem dX4_empty_9 : decode cX4_empty 9 = .ok (.istore_n 1, 1) := by decide +kernel
theorem dX4_empty_49 : decode cX4_empty 49 = .ok (.return_, 1) := by decide +kernel
theorem dX4_become_19 : decode cX4_become 19 = .ok (.iload_n 3, 1) := by decide +kernel
theorem dX4_become_20 : decode cX4_become 20 = .ok (.aload_n 0, 1) := by decide +kernel
theorem dX4_become_21 : decode cX4_become 21 = .ok (.getfield 19, 3) := by decide +kernel
theorem dX4_become_24 : decode cX4_become 24 = .ok (.invokevirtual 39, 3) := by decide +kernel
theorem dX4_become_27 : decode cX4_become 27 = .ok (.if_icmp .ge 68, 3) := by decide +kernel
theorem dX4_become_30 : decode cX4_become 30 = .ok (.iload_n 3, 1) := by decide +kernel
theorem dX4_become_31 : decode cX4_become 31 = .ok (.aload_n 1, 1) := by decide +kernel
theorem dX4_become_32 : decode cX4_become 32 = .ok (.getfield 19, 3) := by decide +kernel
theorem dX4_become_35 : decode cX4_become 35 = .ok (.invokevirtual 39, 3) := by decide +kernel
theorem dX4_become_38 : decode cX4_become 38 = .ok (.if_icmp .ge 57, 3) := by decide +kernel
theorem dX4_become_41 : decode cX4_become 41 = .ok (.aload_n 0, 1) := by decide +kernel
theorem dX4_become_42 : decode cX4_become 42 = .ok (.getfield 19, 3) := by decide +kernel
theorem dX4_become_45 : decode cX4_become 45 = .ok (.iload_n 3, 1) := by decide +kernel
theorem dX4_become_46 : decode cX4_become 46 = .ok (.invokevirtual 42, 3) := by decide +kernel
theorem dX4_become_49 : decode cX4_become 49 = .ok (.checkcast 23, 3) := by decide +kernel
theorem dX4_become_52 : decode cX4_become 52 = .ok (.astore 4, 2) := by decide +kernel
theorem dX4_become_54 : decode cX4_become 54 = .ok (.aload_n 1, 1) := by decide +kernel
theorem dX4_become_55 : decode cX4_become 55 = .ok (.getfield 19, 3) := by decide +kernel
theorem dX4_become_58 : decode cX4_become 58 = .ok (.iload_n 3, 1) := by decide +kernel
theorem dX4_become_59 : decode cX4_become 59 = .ok (.invokevirtual 42, 3) := by decide +kernel
theorem dX4_become_62 : decode cX4_become 62 = .ok (.checkcast 23, 3) := by decide +kernel
theorem dX4_become_65 : decode cX4_become 65 = .ok (.astore 5, 2) := by decide +kernel
theorem dX4_become_67 : decode cX4_become 67 = .ok (.aload 4, 2) := by decide +kernel
theorem dX4_become_69 : decode cX4_become 69 = .ok (.aload 5, 2) := by decide +kernel
theorem dX4_become_71 : decode cX4_become 71 = .ok (.getfield 46, 3) := by decide +kernel
theorem dX4_become_74 : decode cX4_become 74 = .ok (.iload_n 2, 1) := by decide +kernel
theorem dX4_become_75 : decode cX4_become 75 = .ok (.isub, 1) := by decide +kernel
theorem dX4_become_76 : decode cX4_become 76 = .ok (.putfield 46, 3) := by decide +kernel
theorem dX4_become_79 : decode cX4_become 79 = .ok (.aload 4, 2) := by decide +kernel
theorem dX4_become_81 : decode cX4_become 81 = .ok (.aload 5, 2) := by decide +kernel
theorem dX4_become_83 : decode cX4_become 83 = .ok (.getfield 64, 3) := by decide +kernel
theorem dX4_become_86 : decode cX4_become 86 = .ok (.putfield 64, 3) := by decide +kernel
theorem dX4_become_89 : decode cX4_become 89 = .ok (.iinc 3 1, 3) := by decide +kernel
theorem dX4_become_92 : decode cX4_become 92 = .ok (.goto (-73), 3) := by decide +kernel
theorem dX4_become_0 : decode cX4_become 0 = .ok (.aload_n 1, 1) := by decide +kernel
theorem dX4_become_1 : decode cX4_become 1 = .ok (.invokevirtual 36, 3) := by decide +kernel
theorem dX4_become_4 : decode cX4_become 4 = .ok (.istore_n 2, 1) := by decide +kernel
theorem dX4_become_5 : decode cX4_become 5 = .ok (.aload_n 0, 1) := by decide +kernel
theorem dX4_become_6 : decode cX4_become 6 = .ok (.getfield 10, 3) := by decide +kernel
theorem dX4_become_9 : decode cX4_become 9 = .ok (.aload_n 1, 1) := by decide +kernel
theorem dX4_become_10 : decode cX4_become 10 = .ok (.getfield 10, 3) := by decide +kernel
theorem dX4_become_13 : decode cX4_become 13 = .ok (.iload_n 2, 1) := by decide +kernel
theorem dX4_become_14 : decode cX4_become 14 = .ok (.invokevirtual 68, 3) := by decide +kernel
theorem dX4_become_17 : decode cX4_become 17 = .ok (.iconst 0, 1) := by decide +kernel
theorem dX4_become_18 : decode cX4_become 18 = .ok (.istore_n 3, 1) := by decide +kernel
theorem dX4_become_95 : decode cX4_become 95 = .ok (.return_, 1) := by decide +kernel
theorem dX8_emit_0 : decode cX8_emit 0 = .ok (.lload_n 1, 1) := by decide +kernel
theorem dX8_emit_1 : decode cX8_emit 1 = .ok (.invokestatic 95, 3) := by decide +kernel
theorem dX8_emit_4 : decode cX8_emit 4 = .ok (.ifCond .ne 16, 3) := by decide +kernel
theorem dX8_emit_7 : decode cX8_emit 7 = .ok (.aload_n 0, 1) := by decide +kernel
theorem dX8_emit_8 : decode cX8_emit 8 = .ok (.getfield 28, 3) := by decide +kernel
theorem dX8_emit_11 : decode cX8_emit 11 = .ok (.dup, 1) := by decide +kernel
theorem dX8_emit_12 : decode cX8_emit 12 = .ok (.getfield 101, 3) := by decide +kernel
theorem dX8_emit_15 : decode cX8_emit 15 = .ok (.iconst 1, 1) := by decide +kernel
theorem dX8_emit_16 : decode cX8_emit 16 = .ok (.iadd, 1) := by decide +kernel
theorem dX8_emit_17 : decode cX8_emit 17 = .ok (.putfield 101, 3) := by decide +kernel
theorem dX8_emit_20 : decode cX8_emit 20 = .ok (.aload_n 0, 1) := by decide +kernel
theorem dX8_emit_21 : decode cX8_emit 21 = .ok (.getfield 12, 3) := by decide +kernel
theorem dX8_emit_24 : decode cX8_emit 24 = .ok (.getfield 104, 3) := by decide +kernel
theorem dX8_emit_27 : decode cX8_emit 27 = .ok (.invokevirtual 108, 3) := by decide +kernel
theorem dX8_emit_30 : decode cX8_emit 30 = .ok (.ifCond .le 14, 3) := by decide +kernel
theorem dX8_emit_44 : decode cX8_emit 44 = .ok (.return_, 1) := by decide +kernel
theorem dX8_emit_33 : decode cX8_emit 33 = .ok (.aload_n 0, 1) := by decide +kernel
theorem dX8_emit_34 : decode cX8_emit 34 = .ok (.getfield 12, 3) := by decide +kernel
theorem dX8_emit_37 : decode cX8_emit 37 = .ok (.getfield 113, 3) := by decide +kernel
theorem dX8_emit_40 : decode cX8_emit 40 = .ok (.lload_n 1, 1) := by decide +kernel
theorem dX8_emit_41 : decode cX8_emit 41 = .ok (.invokevirtual 116, 3) := by decide +kernel
theorem dX8_read_0 : decode cX8_read 0 = .ok (.aload_n 0, 1) := by decide +kernel
theorem dX8_read_1 : decode cX8_read 1 = .ok (.invokevirtual 76, 3) := by decide +kernel
theorem dX8_read_4 : decode cX8_read 4 = .ok (.ifCond .gt 6, 3) := by decide +kernel
theorem dX8_read_10 : decode cX8_read 10 = .ok (.aload_n 0, 1) := by decide +kernel
theorem dX8_read_11 : decode cX8_read 11 = .ok (.getfield 42, 3) := by decide +kernel
theorem dX8_read_14 : decode cX8_read 14 = .ok (.aload_n 0, 1) := by decide +kernel
theorem dX8_read_15 : decode cX8_read 15 = .ok (.getfield 28, 3) := by decide +kernel
theorem dX8_read_18 : decode cX8_read 18 = .ok (.getfield 60, 3) := by decide +kernel
theorem dX8_read_21 : decode cX8_read 21 = .ok (.invokevirtual 120, 3) := by decide +kernel
theorem dX8_read_24 : decode cX8_read 24 = .ok (.lstore_n 1, 1) := by decide +kernel
theorem dX8_read_25 : decode cX8_read 25 = .ok (.aload_n 0, 1) := by decide +kernel
theorem dX8_read_26 : decode cX8_read 26 = .ok (.getfield 28, 3) := by decide +kernel
theorem dX8_read_29 : decode cX8_read 29 = .ok (.dup, 1) := by decide +kernel
theorem dX8_read_30 : decode cX8_read 30 = .ok (.getfield 60, 3) := by decide +kernel
theorem dX8_read_33 : decode cX8_read 33 = .ok (.iconst 1, 1) := by decide +kernel
theorem dX8_read_34 : decode cX8_read 34 = .ok (.iadd, 1) := by decide +kernel
theorem dX8_read_35 : decode cX8_read 35 = .ok (.putfield 60, 3) := by decide +kernel
theorem dX8_read_38 : decode cX8_read 38 = .ok (.aload_n 0, 1) := by decide +kernel
theorem dX8_read_39 : decode cX8_read 39 = .ok (.lload_n 1, 1) := by decide +kernel
theorem dX8_read_40 : decode cX8_read 40 = .ok (.invokevirtual 124, 3) := by decide +kernel
theorem dX8_read_43 : decode cX8_read 43 = .ok (.lload_n 1, 1) := by decide +kernel
theorem dX8_read_44 : decode cX8_read 44 = .ok (.invokestatic 127, 3) := by decide +kernel
theorem dX8_read_47 : decode cX8_read 47 = .ok (.aload_n 0, 1) := by decide +kernel
theorem dX8_read_48 : decode cX8_read 48 = .ok (.getfield 38, 3) := by decide +kernel
theorem dX8_read_51 : decode cX8_read 51 = .ok (.getfield 130, 3) := by decide +kernel
theorem dX8_read_54 : decode cX8_read 54 = .ok (.isub, 1) := by decide +kernel
theorem dX8_read_55 : decode cX8_read 55 = .ok (.ireturn, 1) := by decide +kernel
theorem dX8_read_7 : decode cX8_read 7 = .ok (.ldc 85, 2) := by decide +kernel
theorem dX8_read_9 : decode cX8_read 9 = .ok (.ireturn, 1) := by decide +kernel
theorem dX8_putOut_0 : decode cX8_putOut 0 = .ok (.aload_n 0, 1) := by decide +kernel
theorem dX8_putOut_1 : decode cX8_putOut 1 = .ok (.getfield 28, 3) := by decide +kernel
theorem dX8_putOut_4 : decode cX8_putOut 4 = .ok (.dup, 1) := by decide +kernel
theorem dX8_putOut_5 : decode cX8_putOut 5 = .ok (.getfield 176, 3) := by decide +kernel
theorem dX8_putOut_8 : decode cX8_putOut 8 = .ok (.iconst 1, 1) := by decide +kernel
theorem dX8_putOut_9 : decode cX8_putOut 9 = .ok (.iadd, 1) := by decide +kernel
theorem dX8_putOut_10 : decode cX8_putOut 10 = .ok (.putfield 176, 3) := by decide +kernel
theorem dX8_putOut_13 : decode cX8_putOut 13 = .ok (.aload_n 0, 1) := by decide +kernel
theorem dX8_putOut_14 : decode cX8_putOut 14 = .ok (.getfield 52, 3) := by decide +kernel
theorem dX8_putOut_17 : decode cX8_putOut 17 = .ok (.ifCond .ne 11, 3) := by decide +kernel
theorem dX8_putOut_20 : decode cX8_putOut 20 = .ok (.aload_n 0, 1) := by decide +kernel
theorem dX8_putOut_21 : decode cX8_putOut 21 = .ok (.getfield 21, 3) := by decide +kernel
theorem dX8_putOut_24 : decode cX8_putOut 24 = .ok (.lload_n 1, 1) := by decide +kernel
theorem dX8_putOut_25 : decode cX8_putOut 25 = .ok (.invokevirtual 116, 3) := by decide +kernel
theorem dX8_putOut_28 : decode cX8_putOut 28 = .ok (.return_, 1) := by decide +kernel
