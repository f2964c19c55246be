theorem wq19 : (Jvm.Cond.initialized "java/util/Arrays") ∈ lw_all := lw_in (lw_tb (List.mem_of_getElem? (i := 19) (by decide +kernel))) rfl
theorem wq20 : (Jvm.Cond.initialized "java/lang/System") ∈ lw_all := lw_in (lw_tb (List.mem_of_getElem? (i := 20) (by decide +kernel))) rfl
theorem wq325 : (Jvm.Cond.methodLink "WeirStream$Row" (24 : Nat) ({ cls := "java/lang/System", name := "arraycopy", desc := "(Ljava/lang/Object;ILjava/lang/Object;II)V" } : Jvm.MethodName)) ∈ lw_all := lw_in (lw_tb (List.mem_of_getElem? (i := 325) (by decide +kernel))) rfl
theorem wq326 : (Jvm.Cond.static ({ cls := "java/lang/System", name := "arraycopy", desc := "(Ljava/lang/Object;ILjava/lang/Object;II)V" } : Jvm.MethodName)) ∈ lw_all := lw_in (lw_tb (List.mem_of_getElem? (i := 326) (by decide +kernel))) rfl
theorem wq327 : (Jvm.Cond.native ({ cls := "java/lang/System", name := "arraycopy", desc := "(Ljava/lang/Object;ILjava/lang/Object;II)V" } : Jvm.MethodName)) ∈ lw_all := lw_in (lw_tb (List.mem_of_getElem? (i := 327) (by decide +kernel))) rfl
theorem wq348 : (Jvm.Cond.constant "WeirStream$Row" (17 : Nat) (8388608 : Int32)) ∈ lw_all := lw_in (lw_tb (List.mem_of_getElem? (i := 348) (by decide +kernel))) rfl
theorem wq349 : (Jvm.Cond.methodLink "WeirStream$Row" (18 : Nat) ({ cls := "java/util/Arrays", name := "copyOf", desc := "([JI)[J" } : Jvm.MethodName)) ∈ lw_all := lw_in (lw_tb (List.mem_of_getElem? (i := 349) (by decide +kernel))) rfl
theorem wq350 : (Jvm.Cond.static ({ cls := "java/util/Arrays", name := "copyOf", desc := "([JI)[J" } : Jvm.MethodName)) ∈ lw_all := lw_in (lw_tb (List.mem_of_getElem? (i := 350) (by decide +kernel))) rfl
theorem wq351 : (Jvm.Cond.code ({ cls := "java/util/Arrays", name := "copyOf", desc := "([JI)[J" } : Jvm.MethodName) prog_31_method_124_code (3 : Nat) (Option.some (Jvm.ClassFile.FieldType.array Jvm.ClassFile.FieldType.long))) ∈ lw_all := lw_in (lw_tb (List.mem_of_getElem? (i := 351) (by decide +kernel))) rfl
theorem wq359 : (Jvm.Cond.methodLink "java/util/Arrays" (304 : Nat) ({ cls := "java/lang/Math", name := "min", desc := "(II)I" } : Jvm.MethodName)) ∈ lw_all := lw_in (lw_tb (List.mem_of_getElem? (i := 359) (by decide +kernel))) rfl
theorem wq360 : (Jvm.Cond.methodLink "java/util/Arrays" (150 : Nat) ({ cls := "java/lang/System", name := "arraycopy", desc := "(Ljava/lang/Object;ILjava/lang/Object;II)V" } : Jvm.MethodName)) ∈ lw_all := lw_in (lw_tb (List.mem_of_getElem? (i := 360) (by decide +kernel))) rfl
theorem wq373 : (Jvm.Cond.methodLink "WeirStream$Row" (30 : Nat) ({ cls := "java/lang/Math", name := "min", desc := "(II)I" } : Jvm.MethodName)) ∈ lw_all := lw_in (lw_tb (List.mem_of_getElem? (i := 373) (by decide +kernel))) rfl
theorem wq374 : (Jvm.Cond.methodLink "WeirStream$Row" (36 : Nat) ({ cls := "java/lang/Math", name := "max", desc := "(II)I" } : Jvm.MethodName)) ∈ lw_all := lw_in (lw_tb (List.mem_of_getElem? (i := 374) (by decide +kernel))) rfl
theorem wq587 : (Jvm.Cond.arrayClass Jvm.ClassFile.FieldType.long) ∈ lw_all := lw_in (lw_tb (List.mem_of_getElem? (i := 587) (by decide +kernel))) rfl
theorem dJ7_copyOf_c38d5_0 : decode cJ7_copyOf_c38d5 0 = .ok (.iload_n 1, 1) := by decide +kernel
theorem dJ7_copyOf_c38d5_1 : decode cJ7_copyOf_c38d5 1 = .ok (.aload_n 0, 1) := by decide +kernel
theorem dJ7_copyOf_c38d5_2 : decode cJ7_copyOf_c38d5 2 = .ok (.arraylength, 1) := by decide +kernel
theorem dJ7_copyOf_c38d5_3 : decode cJ7_copyOf_c38d5 3 = .ok (.if_icmp .ne 11, 3) := by decide +kernel
theorem dJ7_copyOf_c38d5_14 : decode cJ7_copyOf_c38d5 14 = .ok (.iload_n 1, 1) := by decide +kernel
theorem dJ7_copyOf_c38d5_15 : decode cJ7_copyOf_c38d5 15 = .ok (.newarray .long, 2) := by decide +kernel
theorem dJ7_copyOf_c38d5_17 : decode cJ7_copyOf_c38d5 17 = .ok (.astore_n 2, 1) := by decide +kernel
theorem dJ7_copyOf_c38d5_18 : decode cJ7_copyOf_c38d5 18 = .ok (.aload_n 0, 1) := by decide +kernel
theorem dJ7_copyOf_c38d5_19 : decode cJ7_copyOf_c38d5 19 = .ok (.iconst 0, 1) := by decide +kernel
theorem dJ7_copyOf_c38d5_20 : decode cJ7_copyOf_c38d5 20 = .ok (.aload_n 2, 1) := by decide +kernel
theorem dJ7_copyOf_c38d5_21 : decode cJ7_copyOf_c38d5 21 = .ok (.iconst 0, 1) := by decide +kernel
theorem dJ7_copyOf_c38d5_22 : decode cJ7_copyOf_c38d5 22 = .ok (.aload_n 0, 1) := by decide +kernel
theorem dJ7_copyOf_c38d5_23 : decode cJ7_copyOf_c38d5 23 = .ok (.arraylength, 1) := by decide +kernel
theorem dJ7_copyOf_c38d5_24 : decode cJ7_copyOf_c38d5 24 = .ok (.iload_n 1, 1) := by decide +kernel
theorem dJ7_copyOf_c38d5_25 : decode cJ7_copyOf_c38d5 25 = .ok (.invokestatic 304, 3) := by decide +kernel
theorem dJ7_copyOf_c38d5_28 : decode cJ7_copyOf_c38d5 28 = .ok (.invokestatic 150, 3) := by decide +kernel
theorem dJ7_copyOf_c38d5_31 : decode cJ7_copyOf_c38d5 31 = .ok (.aload_n 2, 1) := by decide +kernel
theorem dJ7_copyOf_c38d5_32 : decode cJ7_copyOf_c38d5 32 = .ok (.areturn, 1) := by decide +kernel
theorem dX6_put_0 : decode cX6_put 0 = .ok (.iload_n 1, 1) := by decide +kernel
theorem dX6_put_1 : decode cX6_put 1 = .ok (.ifCond .lt 27, 3) := by decide +kernel
theorem dX6_put_4 : decode cX6_put 4 = .ok (.iload_n 1, 1) := by decide +kernel
theorem dX6_put_5 : decode cX6_put 5 = .ok (.aload_n 0, 1) := by decide +kernel
theorem dX6_put_6 : decode cX6_put 6 = .ok (.getfield 13, 3) := by decide +kernel
theorem dX6_put_9 : decode cX6_put 9 = .ok (.if_icmp .ge 19, 3) := by decide +kernel
theorem dX6_put_12 : decode cX6_put 12 = .ok (.iload_n 1, 1) := by decide +kernel
theorem dX6_put_13 : decode cX6_put 13 = .ok (.aload_n 0, 1) := by decide +kernel
theorem dX6_put_14 : decode cX6_put 14 = .ok (.getfield 9, 3) := by decide +kernel
theorem dX6_put_17 : decode cX6_put 17 = .ok (.arraylength, 1) := by decide +kernel
theorem dX6_put_18 : decode cX6_put 18 = .ok (.if_icmp .ge 10, 3) := by decide +kernel
theorem dX6_put_21 : decode cX6_put 21 = .ok (.aload_n 0, 1) := by decide +kernel
theorem dX6_put_22 : decode cX6_put 22 = .ok (.getfield 9, 3) := by decide +kernel
theorem dX6_put_25 : decode cX6_put 25 = .ok (.iload_n 1, 1) := by decide +kernel
theorem dX6_put_26 : decode cX6_put 26 = .ok (.lload_n 2, 1) := by decide +kernel
theorem dX6_put_27 : decode cX6_put 27 = .ok (.lastore, 1) := by decide +kernel
theorem dX6_put_28 : decode cX6_put 28 = .ok (.return_, 1) := by decide +kernel
theorem dX6_add_0 : decode cX6_add 0 = .ok (.aload_n 0, 1) := by decide +kernel
theorem dX6_add_1 : decode cX6_add 1 = .ok (.getfield 13, 3) := by decide +kernel
theorem dX6_add_4 : decode cX6_add 4 = .ok (.aload_n 0, 1) := by decide +kernel
theorem dX6_add_5 : decode cX6_add 5 = .ok (.getfield 9, 3) := by decide +kernel
theorem dX6_add_8 : decode cX6_add 8 = .ok (.arraylength, 1) := by decide +kernel
theorem dX6_add_9 : decode cX6_add 9 = .ok (.if_icmp .lt 31, 3) := by decide +kernel
theorem dX6_add_40 : decode cX6_add 40 = .ok (.aload_n 0, 1) := by decide +kernel
theorem dX6_add_41 : decode cX6_add 41 = .ok (.getfield 13, 3) := by decide +kernel
theorem dX6_add_44 : decode cX6_add 44 = .ok (.ifCond .lt 35, 3) := by decide +kernel
theorem dX6_add_47 : decode cX6_add 47 = .ok (.aload_n 0, 1) := by decide +kernel
theorem dX6_add_48 : decode cX6_add 48 = .ok (.getfield 13, 3) := by decide +kernel
theorem dX6_add_51 : decode cX6_add 51 = .ok (.aload_n 0, 1) := by decide +kernel
theorem dX6_add_52 : decode cX6_add 52 = .ok (.getfield 9, 3) := by decide +kernel
theorem dX6_add_55 : decode cX6_add 55 = .ok (.arraylength, 1) := by decide +kernel
theorem dX6_add_56 : decode cX6_add 56 = .ok (.if_icmp .ge 23, 3) := by decide +kernel
theorem dX6_add_59 : decode cX6_add 59 = .ok (.aload_n 0, 1) := by decide +kernel
theorem dX6_add_60 : decode cX6_add 60 = .ok (.getfield 9, 3) := by decide +kernel
theorem dX6_add_63 : decode cX6_add 63 = .ok (.aload_n 0, 1) := by decide +kernel
theorem dX6_add_64 : decode cX6_add 64 = .ok (.getfield 13, 3) := by decide +kernel
theorem dX6_add_67 : decode cX6_add 67 = .ok (.lload_n 1, 1) := by decide +kernel
theorem dX6_add_68 : decode cX6_add 68 = .ok (.lastore, 1) := by decide +kernel
theorem dX6_add_69 : decode cX6_add 69 = .ok (.aload_n 0, 1) := by decide +kernel
theorem dX6_add_70 : decode cX6_add 70 = .ok (.dup, 1) := by decide +kernel
theorem dX6_add_71 : decode cX6_add 71 = .ok (.getfield 13, 3) := by decide +kernel
theorem dX6_add_74 : decode cX6_add 74 = .ok (.iconst 1, 1) := by decide +kernel
theorem dX6_add_75 : decode cX6_add 75 = .ok (.iadd, 1) := by decide +kernel
theorem dX6_add_76 : decode cX6_add 76 = .ok (.putfield 13, 3) := by decide +kernel
theorem dX6_add_79 : decode cX6_add 79 = .ok (.return_, 1) := by decide +kernel
theorem dX6_add_12 : decode cX6_add 12 = .ok (.aload_n 0, 1) := by decide +kernel
theorem dX6_add_13 : decode cX6_add 13 = .ok (.getfield 9, 3) := by decide +kernel
theorem dX6_add_16 : decode cX6_add 16 = .ok (.arraylength, 1) := by decide +kernel
theorem dX6_add_17 : decode cX6_add 17 = .ok (.ldc 17, 2) := by decide +kernel
theorem dX6_add_19 : decode cX6_add 19 = .ok (.if_icmp .ge 21, 3) := by decide +kernel
theorem dX6_add_22 : decode cX6_add 22 = .ok (.aload_n 0, 1) := by decide +kernel
theorem dX6_add_23 : decode cX6_add 23 = .ok (.aload_n 0, 1) := by decide +kernel
theorem dX6_add_24 : decode cX6_add 24 = .ok (.getfield 9, 3) := by decide +kernel
theorem dX6_add_27 : decode cX6_add 27 = .ok (.aload_n 0, 1) := by decide +kernel
theorem dX6_add_28 : decode cX6_add 28 = .ok (.getfield 9, 3) := by decide +kernel
theorem dX6_add_31 : decode cX6_add 31 = .ok (.arraylength, 1) := by decide +kernel
theorem dX6_add_32 : decode cX6_add 32 = .ok (.iconst 2, 1) := by decide +kernel
theorem dX6_add_33 : decode cX6_add 33 = .ok (.imul, 1) := by decide +kernel
theorem dX6_add_34 : decode cX6_add 34 = .ok (.invokestatic 18, 3) := by decide +kernel
theorem dX6_add_37 : decode cX6_add 37 = .ok (.putfield 9, 3) := by decide +kernel
theorem dX6_insert_0 : decode cX6_insert 0 = .ok (.aload_n 0, 1) := by decide +kernel
theorem dX6_insert_1 : decode cX6_insert 1 = .ok (.getfield 13, 3) := by decide +kernel
theorem dX6_insert_4 : decode cX6_insert 4 = .ok (.aload_n 0, 1) := by decide +kernel
theorem dX6_insert_5 : decode cX6_insert 5 = .ok (.getfield 9, 3) := by decide +kernel
theorem dX6_insert_8 : decode cX6_insert 8 = .ok (.arraylength, 1) := by decide +kernel
theorem dX6_insert_9 : decode cX6_insert 9 = .ok (.if_icmp .lt 31, 3) := by decide +kernel
theorem dX6_insert_40 : decode cX6_insert 40 = .ok (.iload_n 1, 1) := by decide +kernel
theorem dX6_insert_41 : decode cX6_insert 41 = .ok (.ifCond .lt 61, 3) := by decide +kernel
theorem dX6_insert_44 : decode cX6_insert 44 = .ok (.iload_n 1, 1) := by decide +kernel
theorem dX6_insert_45 : decode cX6_insert 45 = .ok (.aload_n 0, 1) := by decide +kernel
theorem dX6_insert_46 : decode cX6_insert 46 = .ok (.getfield 13, 3) := by decide +kernel
theorem dX6_insert_49 : decode cX6_insert 49 = .ok (.if_icmp .gt 53, 3) := by decide +kernel
theorem dX6_insert_52 : decode cX6_insert 52 = .ok (.aload_n 0, 1) := by decide +kernel
theorem dX6_insert_53 : decode cX6_insert 53 = .ok (.getfield 13, 3) := by decide +kernel
theorem dX6_insert_56 : decode cX6_insert 56 = .ok (.aload_n 0, 1) := by decide +kernel
theorem dX6_insert_57 : decode cX6_insert 57 = .ok (.getfield 9, 3) := by decide +kernel
theorem dX6_insert_60 : decode cX6_insert 60 = .ok (.arraylength, 1) := by decide +kernel
theorem dX6_insert_61 : decode cX6_insert 61 = .ok (.if_icmp .ge 41, 3) := by decide +kernel
theorem dX6_insert_64 : decode cX6_insert 64 = .ok (.aload_n 0, 1) := by decide +kernel
theorem dX6_insert_65 : decode cX6_insert 65 = .ok (.getfield 9, 3) := by decide +kernel
theorem dX6_insert_68 : decode cX6_insert 68 = .ok (.iload_n 1, 1) := by decide +kernel
theorem dX6_insert_69 : decode cX6_insert 69 = .ok (.aload_n 0, 1) := by decide +kernel
theorem dX6_insert_70 : decode cX6_insert 70 = .ok (.getfield 9, 3) := by decide +kernel
theorem dX6_insert_73 : decode cX6_insert 73 = .ok (.iload_n 1, 1) := by decide +kernel
theorem dX6_insert_74 : decode cX6_insert 74 = .ok (.iconst 1, 1) := by decide +kernel
theorem dX6_insert_75 : decode cX6_insert 75 = .ok (.iadd, 1) := by decide +kernel
theorem dX6_insert_76 : decode cX6_insert 76 = .ok (.aload_n 0, 1) := by decide +kernel
theorem dX6_insert_77 : decode cX6_insert 77 = .ok (.getfield 13, 3) := by decide +kernel
theorem dX6_insert_80 : decode cX6_insert 80 = .ok (.iload_n 1, 1) := by decide +kernel
theorem dX6_insert_81 : decode cX6_insert 81 = .ok (.isub, 1) := by decide +kernel
theorem dX6_insert_82 : decode cX6_insert 82 = .ok (.invokestatic 24, 3) := by decide +kernel
theorem dX6_insert_85 : decode cX6_insert 85 = .ok (.aload_n 0, 1) := by decide +kernel
theorem dX6_insert_86 : decode cX6_insert 86 = .ok (.getfield 9, 3) := by decide +kernel
theorem dX6_insert_89 : decode cX6_insert 89 = .ok (.iload_n 1, 1) := by decide +kernel
theorem dX6_insert_90 : decode cX6_insert 90 = .ok (.lload_n 2, 1) := by decide +kernel
theorem dX6_insert_91 : decode cX6_insert 91 = .ok (.lastore, 1) := by decide +kernel
theorem dX6_insert_92 : decode cX6_insert 92 = .ok (.aload_n 0, 1) := by decide +kernel
theorem dX6_insert_93 : decode cX6_insert 93 = .ok (.dup, 1) := by decide +kernel
theorem dX6_insert_94 : decode cX6_insert 94 = .ok (.getfield 13, 3) := by decide +kernel
theorem dX6_insert_97 : decode cX6_insert 97 = .ok (.iconst 1, 1) := by decide +kernel
theorem dX6_insert_98 : decode cX6_insert 98 = .ok (.iadd, 1) := by decide +kernel
theorem dX6_insert_99 : decode cX6_insert 99 = .ok (.putfield 13, 3) := by decide +kernel
theorem dX6_insert_102 : decode cX6_insert 102 = .ok (.return_, 1) := by decide +kernel
theorem dX6_insert_12 : decode cX6_insert 12 = .ok (.aload_n 0, 1) := by decide +kernel
theorem dX6_insert_13 : decode cX6_insert 13 = .ok (.getfield 9, 3) := by decide +kernel
theorem dX6_insert_16 : decode cX6_insert 16 = .ok (.arraylength, 1) := by decide +kernel
theorem dX6_insert_17 : decode cX6_insert 17 = .ok (.ldc 17, 2) := by decide +kernel
theorem dX6_insert_19 : decode cX6_insert 19 = .ok (.if_icmp .ge 21, 3) := by decide +kernel
theorem dX6_insert_22 : decode cX6_insert 22 = .ok (.aload_n 0, 1) := by decide +kernel
theorem dX6_insert_23 : decode cX6_insert 23 = .ok (.aload_n 0, 1) := by decide +kernel
theorem dX6_insert_24 : decode cX6_insert 24 = .ok (.getfield 9, 3) := by decide +kernel
theorem dX6_insert_27 : decode cX6_insert 27 = .ok (.aload_n 0, 1) := by decide +kernel
theorem dX6_insert_28 : decode cX6_insert 28 = .ok (.getfield 9, 3) := by decide +kernel
theorem dX6_insert_31 : decode cX6_insert 31 = .ok (.arraylength, 1) := by decide +kernel
theorem dX6_insert_32 : decode cX6_insert 32 = .ok (.iconst 2, 1) := by decide +kernel
theorem dX6_insert_33 : decode cX6_insert 33 = .ok (.imul, 1) := by decide +kernel
theorem dX6_insert_34 : decode cX6_insert 34 = .ok (.invokestatic 18, 3) := by decide +kernel
theorem dX6_insert_37 : decode cX6_insert 37 = .ok (.putfield 9, 3) := by decide +kernel
theorem dX6_remove_0 : decode cX6_remove 0 = .ok (.iload_n 1, 1) := by decide +kernel
theorem dX6_remove_1 : decode cX6_remove 1 = .ok (.ifCond .lt 62, 3) := by decide +kernel
theorem dX6_remove_4 : decode cX6_remove 4 = .ok (.iload_n 2, 1) := by decide +kernel
theorem dX6_remove_5 : decode cX6_remove 5 = .ok (.ifCond .le 58, 3) := by decide +kernel
theorem dX6_remove_8 : decode cX6_remove 8 = .ok (.iload_n 1, 1) := by decide +kernel
theorem dX6_remove_9 : decode cX6_remove 9 = .ok (.aload_n 0, 1) := by decide +kernel
theorem dX6_remove_10 : decode cX6_remove 10 = .ok (.getfield 13, 3) := by decide +kernel
theorem dX6_remove_13 : decode cX6_remove 13 = .ok (.iload_n 2, 1) := by decide +kernel
theorem dX6_remove_14 : decode cX6_remove 14 = .ok (.isub, 1) := by decide +kernel
theorem dX6_remove_15 : decode cX6_remove 15 = .ok (.if_icmp .gt 48, 3) := by decide +kernel
theorem dX6_remove_18 : decode cX6_remove 18 = .ok (.aload_n 0, 1) := by decide +kernel
theorem dX6_remove_19 : decode cX6_remove 19 = .ok (.getfield 13, 3) := by decide +kernel
theorem dX6_remove_22 : decode cX6_remove 22 = .ok (.aload_n 0, 1) := by decide +kernel
theorem dX6_remove_23 : decode cX6_remove 23 = .ok (.getfield 9, 3) := by decide +kernel
theorem dX6_remove_26 : decode cX6_remove 26 = .ok (.arraylength, 1) := by decide +kernel
theorem dX6_remove_27 : decode cX6_remove 27 = .ok (.if_icmp .gt 36, 3) := by decide +kernel
theorem dX6_remove_30 : decode cX6_remove 30 = .ok (.aload_n 0, 1) := by decide +kernel
theorem dX6_remove_31 : decode cX6_remove 31 = .ok (.getfield 9, 3) := by decide +kernel
theorem dX6_remove_34 : decode cX6_remove 34 = .ok (.iload_n 1, 1) := by decide +kernel
theorem dX6_remove_35 : decode cX6_remove 35 = .ok (.iload_n 2, 1) := by decide +kernel
theorem dX6_remove_36 : decode cX6_remove 36 = .ok (.iadd, 1) := by decide +kernel
theorem dX6_remove_37 : decode cX6_remove 37 = .ok (.aload_n 0, 1) := by decide +kernel
theorem dX6_remove_38 : decode cX6_remove 38 = .ok (.getfield 9, 3) := by decide +kernel
theorem dX6_remove_41 : decode cX6_remove 41 = .ok (.iload_n 1, 1) := by decide +kernel
theorem dX6_remove_42 : decode cX6_remove 42 = .ok (.aload_n 0, 1) := by decide +kernel
theorem dX6_remove_43 : decode cX6_remove 43 = .ok (.getfield 13, 3) := by decide +kernel
theorem dX6_remove_46 : decode cX6_remove 46 = .ok (.iload_n 1, 1) := by decide +kernel
theorem dX6_remove_47 : decode cX6_remove 47 = .ok (.isub, 1) := by decide +kernel
theorem dX6_remove_48 : decode cX6_remove 48 = .ok (.iload_n 2, 1) := by decide +kernel
theorem dX6_remove_49 : decode cX6_remove 49 = .ok (.isub, 1) := by decide +kernel
theorem dX6_remove_50 : decode cX6_remove 50 = .ok (.invokestatic 24, 3) := by decide +kernel
theorem dX6_remove_53 : decode cX6_remove 53 = .ok (.aload_n 0, 1) := by decide +kernel
theorem dX6_remove_54 : decode cX6_remove 54 = .ok (.dup, 1) := by decide +kernel
theorem dX6_remove_55 : decode cX6_remove 55 = .ok (.getfield 13, 3) := by decide +kernel
theorem dX6_remove_58 : decode cX6_remove 58 = .ok (.iload_n 2, 1) := by decide +kernel
theorem dX6_remove_59 : decode cX6_remove 59 = .ok (.isub, 1) := by decide +kernel
theorem dX6_remove_60 : decode cX6_remove 60 = .ok (.putfield 13, 3) := by decide +kernel
theorem dX6_remove_63 : decode cX6_remove 63 = .ok (.return_, 1) := by decide +kernel
theorem dX6_shorten_0 : decode cX6_shorten 0 = .ok (.iload_n 1, 1) := by decide +kernel
theorem dX6_shorten_1 : decode cX6_shorten 1 = .ok (.ifCond .lt 16, 3) := by decide +kernel
theorem dX6_shorten_4 : decode cX6_shorten 4 = .ok (.iload_n 1, 1) := by decide +kernel
theorem dX6_shorten_5 : decode cX6_shorten 5 = .ok (.aload_n 0, 1) := by decide +kernel
theorem dX6_shorten_6 : decode cX6_shorten 6 = .ok (.getfield 13, 3) := by decide +kernel
theorem dX6_shorten_9 : decode cX6_shorten 9 = .ok (.if_icmp .ge 8, 3) := by decide +kernel
theorem dX6_shorten_12 : decode cX6_shorten 12 = .ok (.aload_n 0, 1) := by decide +kernel
theorem dX6_shorten_13 : decode cX6_shorten 13 = .ok (.iload_n 1, 1) := by decide +kernel
theorem dX6_shorten_14 : decode cX6_shorten 14 = .ok (.putfield 13, 3) := by decide +kernel
theorem dX6_shorten_17 : decode cX6_shorten 17 = .ok (.return_, 1) := by decide +kernel
theorem dX6_become_45 : decode cX6_become 45 = .ok (.iload 6, 2) := by decide +kernel
theorem dX6_become_47 : decode cX6_become 47 = .ok (.bipush 30, 2) := by decide +kernel
theorem dX6_become_49 : decode cX6_become 49 = .ok (.if_icmp .ge 22, 3) := by decide +kernel
theorem dX6_become_52 : decode cX6_become 52 = .ok (.iload 5, 2) := by decide +kernel
theorem dX6_become_54 : decode cX6_become 54 = .ok (.iload 4, 2) := by decide +kernel
theorem dX6_become_56 : decode cX6_become 56 = .ok (.if_icmp .ge 15, 3) := by decide +kernel
theorem dX6_become_59 : decode cX6_become 59 = .ok (.iload 5, 2) := by decide +kernel
theorem dX6_become_61 : decode cX6_become 61 = .ok (.iconst 2, 1) := by decide +kernel
theorem dX6_become_62 : decode cX6_become 62 = .ok (.imul, 1) := by decide +kernel
theorem dX6_become_63 : decode cX6_become 63 = .ok (.istore 5, 2) := by decide +kernel
theorem dX6_become_65 : decode cX6_become 65 = .ok (.iinc 6 1, 3) := by decide +kernel
theorem dX6_become_68 : decode cX6_become 68 = .ok (.goto (-23), 3) := by decide +kernel
theorem dX6_become_0 : decode cX6_become 0 = .ok (.iconst 0, 1) := by decide +kernel
theorem dX6_become_1 : decode cX6_become 1 = .ok (.iload_n 2, 1) := by decide +kernel
theorem dX6_become_2 : decode cX6_become 2 = .ok (.aload_n 1, 1) := by decide +kernel
theorem dX6_become_3 : decode cX6_become 3 = .ok (.getfield 13, 3) := by decide +kernel
theorem dX6_become_6 : decode cX6_become 6 = .ok (.invokestatic 30, 3) := by decide +kernel
theorem dX6_become_9 : decode cX6_become 9 = .ok (.invokestatic 36, 3) := by decide +kernel
theorem dX6_become_12 : decode cX6_become 12 = .ok (.istore_n 3, 1) := by decide +kernel
theorem dX6_become_13 : decode cX6_become 13 = .ok (.aload_n 1, 1) := by decide +kernel
theorem dX6_become_14 : decode cX6_become 14 = .ok (.getfield 13, 3) := by decide +kernel
theorem dX6_become_17 : decode cX6_become 17 = .ok (.iload_n 3, 1) := by decide +kernel
theorem dX6_become_18 : decode cX6_become 18 = .ok (.isub, 1) := by decide +kernel
theorem dX6_become_19 : decode cX6_become 19 = .ok (.istore 4, 2) := by decide +kernel
theorem dX6_become_21 : decode cX6_become 21 = .ok (.iload 4, 2) := by decide +kernel
theorem dX6_become_23 : decode cX6_become 23 = .ok (.aload_n 0, 1) := by decide +kernel
theorem dX6_become_24 : decode cX6_become 24 = .ok (.getfield 9, 3) := by decide +kernel
theorem dX6_become_27 : decode cX6_become 27 = .ok (.arraylength, 1) := by decide +kernel
theorem dX6_become_28 : decode cX6_become 28 = .ok (.if_icmp .le 51, 3) := by decide +kernel
theorem dX6_become_79 : decode cX6_become 79 = .ok (.iload 4, 2) := by decide +kernel
theorem dX6_become_81 : decode cX6_become 81 = .ok (.aload_n 0, 1) := by decide +kernel
theorem dX6_become_82 : decode cX6_become 82 = .ok (.getfield 9, 3) := by decide +kernel
theorem dX6_become_85 : decode cX6_become 85 = .ok (.arraylength, 1) := by decide +kernel
theorem dX6_become_86 : decode cX6_become 86 = .ok (.if_icmp .gt 36, 3) := by decide +kernel
theorem dX6_become_89 : decode cX6_become 89 = .ok (.aload_n 1, 1) := by decide +kernel
theorem dX6_become_90 : decode cX6_become 90 = .ok (.getfield 13, 3) := by decide +kernel
theorem dX6_become_93 : decode cX6_become 93 = .ok (.aload_n 1, 1) := by decide +kernel
theorem dX6_become_94 : decode cX6_become 94 = .ok (.getfield 9, 3) := by decide +kernel
theorem dX6_become_97 : decode cX6_become 97 = .ok (.arraylength, 1) := by decide +kernel
theorem dX6_become_98 : decode cX6_become 98 = .ok (.if_icmp .gt 24, 3) := by decide +kernel
theorem dX6_become_101 : decode cX6_become 101 = .ok (.aload_n 1, 1) := by decide +kernel
theorem dX6_become_102 : decode cX6_become 102 = .ok (.getfield 9, 3) := by decide +kernel
theorem dX6_become_105 : decode cX6_become 105 = .ok (.iload_n 3, 1) := by decide +kernel
theorem dX6_become_106 : decode cX6_become 106 = .ok (.aload_n 0, 1) := by decide +kernel
theorem dX6_become_107 : decode cX6_become 107 = .ok (.getfield 9, 3) := by decide +kernel
theorem dX6_become_110 : decode cX6_become 110 = .ok (.iconst 0, 1) := by decide +kernel
theorem dX6_become_111 : decode cX6_become 111 = .ok (.iload 4, 2) := by decide +kernel
theorem dX6_become_113 : decode cX6_become 113 = .ok (.invokestatic 24, 3) := by decide +kernel
theorem dX6_become_116 : decode cX6_become 116 = .ok (.aload_n 0, 1) := by decide +kernel
theorem dX6_become_117 : decode cX6_become 117 = .ok (.iload 4, 2) := by decide +kernel
theorem dX6_become_119 : decode cX6_become 119 = .ok (.putfield 13, 3) := by decide +kernel
theorem dX6_become_122 : decode cX6_become 122 = .ok (.return_, 1) := by decide +kernel
theorem dX6_become_31 : decode cX6_become 31 = .ok (.iload 4, 2) := by decide +kernel
theorem dX6_become_33 : decode cX6_become 33 = .ok (.ldc 17, 2) := by decide +kernel
theorem dX6_become_35 : decode cX6_become 35 = .ok (.if_icmp .gt 44, 3) := by decide +kernel
theorem dX6_become_38 : decode cX6_become 38 = .ok (.bipush 8, 2) := by decide +kernel
theorem dX6_become_40 : decode cX6_become 40 = .ok (.istore 5, 2) := by decide +kernel
theorem dX6_become_42 : decode cX6_become 42 = .ok (.iconst 0, 1) := by decide +kernel
theorem dX6_become_43 : decode cX6_become 43 = .ok (.istore 6, 2) := by decide +kernel
theorem dX6_become_71 : decode cX6_become 71 = .ok (.aload_n 0, 1) := by decide +kernel
theorem dX6_become_72 : decode cX6_become 72 = .ok (.iload 5, 2) := by decide +kernel
theorem dX6_become_74 : decode cX6_become 74 = .ok (.newarray .long, 2) := by decide +kernel
theorem dX6_become_76 : decode cX6_become 76 = .ok (.putfield 9, 3) := by decide +kernel
