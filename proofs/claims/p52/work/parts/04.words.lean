theorem wq14 : (Jvm.Cond.initialized "java/lang/Math") ∈ lw_all := lw_in (lw_tb (List.mem_of_getElem? (i := 14) (by decide +kernel))) rfl
theorem wq25 : (Jvm.Cond.initialized "WeirStream$Item") ∈ lw_all := lw_in (lw_tb (List.mem_of_getElem? (i := 25) (by decide +kernel))) rfl
theorem wq26 : (Jvm.Cond.initialized "WeirStream$Account") ∈ lw_all := lw_in (lw_tb (List.mem_of_getElem? (i := 26) (by decide +kernel))) rfl
theorem wq300 : (Jvm.Cond.static ({ cls := "java/lang/Math", name := "min", desc := "(II)I" } : Jvm.MethodName)) ∈ lw_all := lw_in (lw_tb (List.mem_of_getElem? (i := 300) (by decide +kernel))) rfl
theorem wq301 : (Jvm.Cond.code ({ cls := "java/lang/Math", name := "min", desc := "(II)I" } : Jvm.MethodName) prog_24_method_69_code (2 : Nat) (Option.some Jvm.ClassFile.FieldType.int)) ∈ lw_all := lw_in (lw_tb (List.mem_of_getElem? (i := 301) (by decide +kernel))) rfl
theorem wq335 : (Jvm.Cond.constantLong "WeirStream$Item" (13 : Nat) (2305843009213693952 : Int64)) ∈ lw_all := lw_in (lw_tb (List.mem_of_getElem? (i := 335) (by decide +kernel))) rfl
theorem wq375 : (Jvm.Cond.static ({ cls := "java/lang/Math", name := "max", desc := "(II)I" } : Jvm.MethodName)) ∈ lw_all := lw_in (lw_tb (List.mem_of_getElem? (i := 375) (by decide +kernel))) rfl
theorem wq376 : (Jvm.Cond.code ({ cls := "java/lang/Math", name := "max", desc := "(II)I" } : Jvm.MethodName) prog_24_method_65_code (2 : Nat) (Option.some Jvm.ClassFile.FieldType.int)) ∈ lw_all := lw_in (lw_tb (List.mem_of_getElem? (i := 376) (by decide +kernel))) rfl
theorem wq396 : (Jvm.Cond.static ({ cls := "WeirStream$Item", name := "time", desc := "(J)I" } : Jvm.MethodName)) ∈ lw_all := lw_in (lw_tb (List.mem_of_getElem? (i := 396) (by decide +kernel))) rfl
theorem wq397 : (Jvm.Cond.code ({ cls := "WeirStream$Item", name := "time", desc := "(J)I" } : Jvm.MethodName) prog_5_method_6_code (2 : Nat) (Option.some Jvm.ClassFile.FieldType.int)) ∈ lw_all := lw_in (lw_tb (List.mem_of_getElem? (i := 397) (by decide +kernel))) rfl
theorem wq398 : (Jvm.Cond.constantLong "WeirStream$Item" (15 : Nat) (1048575 : Int64)) ∈ lw_all := lw_in (lw_tb (List.mem_of_getElem? (i := 398) (by decide +kernel))) rfl
theorem wq429 : (Jvm.Cond.methodLink "WeirStream$Account" (25 : Nat) ({ cls := "WeirStream$Account", name := "beside", desc := "(J)I" } : Jvm.MethodName)) ∈ lw_all := lw_in (lw_tb (List.mem_of_getElem? (i := 429) (by decide +kernel))) rfl
theorem wq430 : (Jvm.Cond.static ({ cls := "WeirStream$Account", name := "beside", desc := "(J)I" } : Jvm.MethodName)) ∈ lw_all := lw_in (lw_tb (List.mem_of_getElem? (i := 430) (by decide +kernel))) rfl
theorem wq431 : (Jvm.Cond.code ({ cls := "WeirStream$Account", name := "beside", desc := "(J)I" } : Jvm.MethodName) prog_2_method_4_code (2 : Nat) (Option.some Jvm.ClassFile.FieldType.int)) ∈ lw_all := lw_in (lw_tb (List.mem_of_getElem? (i := 431) (by decide +kernel))) rfl
theorem wq432 : (Jvm.Cond.methodLink "WeirStream$Account" (24 : Nat) ({ cls := "WeirStream$Account", name := "value", desc := "(J)I" } : Jvm.MethodName)) ∈ lw_all := lw_in (lw_tb (List.mem_of_getElem? (i := 432) (by decide +kernel))) rfl
theorem wq433 : (Jvm.Cond.static ({ cls := "WeirStream$Account", name := "value", desc := "(J)I" } : Jvm.MethodName)) ∈ lw_all := lw_in (lw_tb (List.mem_of_getElem? (i := 433) (by decide +kernel))) rfl
theorem wq434 : (Jvm.Cond.code ({ cls := "WeirStream$Account", name := "value", desc := "(J)I" } : Jvm.MethodName) prog_2_method_3_code (2 : Nat) (Option.some Jvm.ClassFile.FieldType.int)) ∈ lw_all := lw_in (lw_tb (List.mem_of_getElem? (i := 434) (by decide +kernel))) rfl
theorem wq447 : (Jvm.Cond.constantLong "WeirStream$Item" (7 : Nat) (4294967295 : Int64)) ∈ lw_all := lw_in (lw_tb (List.mem_of_getElem? (i := 447) (by decide +kernel))) rfl
theorem wq460 : (Jvm.Cond.constantLong "WeirStream$Item" (11 : Nat) (1152921504606846976 : Int64)) ∈ lw_all := lw_in (lw_tb (List.mem_of_getElem? (i := 460) (by decide +kernel))) rfl
theorem wq485 : (Jvm.Cond.static ({ cls := "WeirStream$Item", name := "value", desc := "(J)I" } : Jvm.MethodName)) ∈ lw_all := lw_in (lw_tb (List.mem_of_getElem? (i := 485) (by decide +kernel))) rfl
theorem wq486 : (Jvm.Cond.code ({ cls := "WeirStream$Item", name := "value", desc := "(J)I" } : Jvm.MethodName) prog_5_method_8_code (2 : Nat) (Option.some Jvm.ClassFile.FieldType.int)) ∈ lw_all := lw_in (lw_tb (List.mem_of_getElem? (i := 486) (by decide +kernel))) rfl
theorem wq490 : (Jvm.Cond.constantLong "WeirStream$Item" (17 : Nat) (255 : Int64)) ∈ lw_all := lw_in (lw_tb (List.mem_of_getElem? (i := 490) (by decide +kernel))) rfl
theorem wq516 : (Jvm.Cond.methodLink "WeirStream$Account" (9 : Nat) ({ cls := "WeirStream$Item", name := "value", desc := "(J)I" } : Jvm.MethodName)) ∈ lw_all := lw_in (lw_tb (List.mem_of_getElem? (i := 516) (by decide +kernel))) rfl
theorem wq517 : (Jvm.Cond.methodLink "WeirStream$Account" (17 : Nat) ({ cls := "WeirStream$Item", name := "time", desc := "(J)I" } : Jvm.MethodName)) ∈ lw_all := lw_in (lw_tb (List.mem_of_getElem? (i := 517) (by decide +kernel))) rfl
theorem wq518 : (Jvm.Cond.methodLink "WeirStream$Account" (20 : Nat) ({ cls := "WeirStream$Account", name := "cell", desc := "(II)J" } : Jvm.MethodName)) ∈ lw_all := lw_in (lw_tb (List.mem_of_getElem? (i := 518) (by decide +kernel))) rfl
theorem wq519 : (Jvm.Cond.static ({ cls := "WeirStream$Account", name := "cell", desc := "(II)J" } : Jvm.MethodName)) ∈ lw_all := lw_in (lw_tb (List.mem_of_getElem? (i := 519) (by decide +kernel))) rfl
theorem wq520 : (Jvm.Cond.code ({ cls := "WeirStream$Account", name := "cell", desc := "(II)J" } : Jvm.MethodName) prog_2_method_2_code (2 : Nat) (Option.some Jvm.ClassFile.FieldType.long)) ∈ lw_all := lw_in (lw_tb (List.mem_of_getElem? (i := 520) (by decide +kernel))) rfl
theorem wq521 : (Jvm.Cond.constantLong "WeirStream$Account" (7 : Nat) (4294967295 : Int64)) ∈ lw_all := lw_in (lw_tb (List.mem_of_getElem? (i := 521) (by decide +kernel))) rfl
theorem wq529 : (Jvm.Cond.methodLink "WeirStream$Account" (28 : Nat) ({ cls := "java/lang/Math", name := "min", desc := "(II)I" } : Jvm.MethodName)) ∈ lw_all := lw_in (lw_tb (List.mem_of_getElem? (i := 529) (by decide +kernel))) rfl
theorem wq530 : (Jvm.Cond.methodLink "WeirStream$Account" (34 : Nat) ({ cls := "java/lang/Math", name := "max", desc := "(II)I" } : Jvm.MethodName)) ∈ lw_all := lw_in (lw_tb (List.mem_of_getElem? (i := 530) (by decide +kernel))) rfl
theorem dX3_event_0 : decode cX3_event 0 = .ok (.iload_n 2, 1) := by decide +kernel
theorem dX3_event_1 : decode cX3_event 1 = .ok (.i2l, 1) := by decide +kernel
theorem dX3_event_2 : decode cX3_event 2 = .ok (.bipush 40, 2) := by decide +kernel
theorem dX3_event_4 : decode cX3_event 4 = .ok (.lshl, 1) := by decide +kernel
theorem dX3_event_5 : decode cX3_event 5 = .ok (.iload_n 0, 1) := by decide +kernel
theorem dX3_event_6 : decode cX3_event 6 = .ok (.i2l, 1) := by decide +kernel
theorem dX3_event_7 : decode cX3_event 7 = .ok (.bipush 32, 2) := by decide +kernel
theorem dX3_event_9 : decode cX3_event 9 = .ok (.lshl, 1) := by decide +kernel
theorem dX3_event_10 : decode cX3_event 10 = .ok (.lor, 1) := by decide +kernel
theorem dX3_event_11 : decode cX3_event 11 = .ok (.iload_n 1, 1) := by decide +kernel
theorem dX3_event_12 : decode cX3_event 12 = .ok (.i2l, 1) := by decide +kernel
theorem dX3_event_13 : decode cX3_event 13 = .ok (.ldc2_w 7, 3) := by decide +kernel
theorem dX3_event_16 : decode cX3_event 16 = .ok (.land, 1) := by decide +kernel
theorem dX3_event_17 : decode cX3_event 17 = .ok (.lor, 1) := by decide +kernel
theorem dX3_event_18 : decode cX3_event 18 = .ok (.lreturn, 1) := by decide +kernel
theorem dX3_mark_0 : decode cX3_mark 0 = .ok (.ldc2_w 11, 3) := by decide +kernel
theorem dX3_mark_3 : decode cX3_mark 3 = .ok (.iload_n 0, 1) := by decide +kernel
theorem dX3_mark_4 : decode cX3_mark 4 = .ok (.i2l, 1) := by decide +kernel
theorem dX3_mark_5 : decode cX3_mark 5 = .ok (.bipush 40, 2) := by decide +kernel
theorem dX3_mark_7 : decode cX3_mark 7 = .ok (.lshl, 1) := by decide +kernel
theorem dX3_mark_8 : decode cX3_mark 8 = .ok (.lor, 1) := by decide +kernel
theorem dX3_mark_9 : decode cX3_mark 9 = .ok (.lreturn, 1) := by decide +kernel
theorem dX3_barrier_0 : decode cX3_barrier 0 = .ok (.ldc2_w 13, 3) := by decide +kernel
theorem dX3_barrier_3 : decode cX3_barrier 3 = .ok (.lreturn, 1) := by decide +kernel
theorem dX3_kind_0 : decode cX3_kind 0 = .ok (.lload_n 0, 1) := by decide +kernel
theorem dX3_kind_1 : decode cX3_kind 1 = .ok (.bipush 60, 2) := by decide +kernel
theorem dX3_kind_3 : decode cX3_kind 3 = .ok (.lushr, 1) := by decide +kernel
theorem dX3_kind_4 : decode cX3_kind 4 = .ok (.l2i, 1) := by decide +kernel
theorem dX3_kind_5 : decode cX3_kind 5 = .ok (.ireturn, 1) := by decide +kernel
theorem dX3_time_0 : decode cX3_time 0 = .ok (.lload_n 0, 1) := by decide +kernel
theorem dX3_time_1 : decode cX3_time 1 = .ok (.bipush 40, 2) := by decide +kernel
theorem dX3_time_3 : decode cX3_time 3 = .ok (.lushr, 1) := by decide +kernel
theorem dX3_time_4 : decode cX3_time 4 = .ok (.ldc2_w 15, 3) := by decide +kernel
theorem dX3_time_7 : decode cX3_time 7 = .ok (.land, 1) := by decide +kernel
theorem dX3_time_8 : decode cX3_time 8 = .ok (.l2i, 1) := by decide +kernel
theorem dX3_time_9 : decode cX3_time 9 = .ok (.ireturn, 1) := by decide +kernel
theorem dX3_key_0 : decode cX3_key 0 = .ok (.lload_n 0, 1) := by decide +kernel
theorem dX3_key_1 : decode cX3_key 1 = .ok (.bipush 32, 2) := by decide +kernel
theorem dX3_key_3 : decode cX3_key 3 = .ok (.lushr, 1) := by decide +kernel
theorem dX3_key_4 : decode cX3_key 4 = .ok (.ldc2_w 17, 3) := by decide +kernel
theorem dX3_key_7 : decode cX3_key 7 = .ok (.land, 1) := by decide +kernel
theorem dX3_key_8 : decode cX3_key 8 = .ok (.l2i, 1) := by decide +kernel
theorem dX3_key_9 : decode cX3_key 9 = .ok (.ireturn, 1) := by decide +kernel
theorem dX3_value_0 : decode cX3_value 0 = .ok (.lload_n 0, 1) := by decide +kernel
theorem dX3_value_1 : decode cX3_value 1 = .ok (.l2i, 1) := by decide +kernel
theorem dX3_value_2 : decode cX3_value 2 = .ok (.ireturn, 1) := by decide +kernel
theorem dX0_cell_0 : decode cX0_cell 0 = .ok (.iload_n 1, 1) := by decide +kernel
theorem dX0_cell_1 : decode cX0_cell 1 = .ok (.i2l, 1) := by decide +kernel
theorem dX0_cell_2 : decode cX0_cell 2 = .ok (.bipush 32, 2) := by decide +kernel
theorem dX0_cell_4 : decode cX0_cell 4 = .ok (.lshl, 1) := by decide +kernel
theorem dX0_cell_5 : decode cX0_cell 5 = .ok (.iload_n 0, 1) := by decide +kernel
theorem dX0_cell_6 : decode cX0_cell 6 = .ok (.i2l, 1) := by decide +kernel
theorem dX0_cell_7 : decode cX0_cell 7 = .ok (.ldc2_w 7, 3) := by decide +kernel
theorem dX0_cell_10 : decode cX0_cell 10 = .ok (.land, 1) := by decide +kernel
theorem dX0_cell_11 : decode cX0_cell 11 = .ok (.lor, 1) := by decide +kernel
theorem dX0_cell_12 : decode cX0_cell 12 = .ok (.lreturn, 1) := by decide +kernel
theorem dX0_value_0 : decode cX0_value 0 = .ok (.lload_n 0, 1) := by decide +kernel
theorem dX0_value_1 : decode cX0_value 1 = .ok (.l2i, 1) := by decide +kernel
theorem dX0_value_2 : decode cX0_value 2 = .ok (.ireturn, 1) := by decide +kernel
theorem dX0_beside_0 : decode cX0_beside 0 = .ok (.lload_n 0, 1) := by decide +kernel
theorem dX0_beside_1 : decode cX0_beside 1 = .ok (.bipush 32, 2) := by decide +kernel
theorem dX0_beside_3 : decode cX0_beside 3 = .ok (.lshr, 1) := by decide +kernel
theorem dX0_beside_4 : decode cX0_beside 4 = .ok (.l2i, 1) := by decide +kernel
theorem dX0_beside_5 : decode cX0_beside 5 = .ok (.ireturn, 1) := by decide +kernel
theorem dX0_ofOne_0 : decode cX0_ofOne 0 = .ok (.iload_n 0, 1) := by decide +kernel
theorem dX0_ofOne_1 : decode cX0_ofOne 1 = .ok (.ifCond .ne 7, 3) := by decide +kernel
theorem dX0_ofOne_4 : decode cX0_ofOne 4 = .ok (.iconst 1, 1) := by decide +kernel
theorem dX0_ofOne_5 : decode cX0_ofOne 5 = .ok (.goto 7, 3) := by decide +kernel
theorem dX0_ofOne_12 : decode cX0_ofOne 12 = .ok (.istore_n 3, 1) := by decide +kernel
theorem dX0_ofOne_13 : decode cX0_ofOne 13 = .ok (.iload_n 3, 1) := by decide +kernel
theorem dX0_ofOne_14 : decode cX0_ofOne 14 = .ok (.iload_n 0, 1) := by decide +kernel
theorem dX0_ofOne_15 : decode cX0_ofOne 15 = .ok (.iconst 4, 1) := by decide +kernel
theorem dX0_ofOne_16 : decode cX0_ofOne 16 = .ok (.if_icmp .ne 10, 3) := by decide +kernel
theorem dX0_ofOne_19 : decode cX0_ofOne 19 = .ok (.lload_n 1, 1) := by decide +kernel
theorem dX0_ofOne_20 : decode cX0_ofOne 20 = .ok (.invokestatic 17, 3) := by decide +kernel
theorem dX0_ofOne_23 : decode cX0_ofOne 23 = .ok (.goto 4, 3) := by decide +kernel
theorem dX0_ofOne_27 : decode cX0_ofOne 27 = .ok (.invokestatic 20, 3) := by decide +kernel
theorem dX0_ofOne_30 : decode cX0_ofOne 30 = .ok (.lreturn, 1) := by decide +kernel
theorem dX0_ofOne_26 : decode cX0_ofOne 26 = .ok (.iconst 1, 1) := by decide +kernel
theorem dX0_ofOne_8 : decode cX0_ofOne 8 = .ok (.lload_n 1, 1) := by decide +kernel
theorem dX0_ofOne_9 : decode cX0_ofOne 9 = .ok (.invokestatic 9, 3) := by decide +kernel
theorem dX0_ofBoth_0 : decode cX0_ofBoth 0 = .ok (.lload_n 1, 1) := by decide +kernel
theorem dX0_ofBoth_1 : decode cX0_ofBoth 1 = .ok (.invokestatic 24, 3) := by decide +kernel
theorem dX0_ofBoth_4 : decode cX0_ofBoth 4 = .ok (.istore 5, 2) := by decide +kernel
theorem dX0_ofBoth_6 : decode cX0_ofBoth 6 = .ok (.lload_n 3, 1) := by decide +kernel
theorem dX0_ofBoth_7 : decode cX0_ofBoth 7 = .ok (.invokestatic 24, 3) := by decide +kernel
theorem dX0_ofBoth_10 : decode cX0_ofBoth 10 = .ok (.istore 6, 2) := by decide +kernel
theorem dX0_ofBoth_12 : decode cX0_ofBoth 12 = .ok (.lload_n 1, 1) := by decide +kernel
theorem dX0_ofBoth_13 : decode cX0_ofBoth 13 = .ok (.invokestatic 25, 3) := by decide +kernel
theorem dX0_ofBoth_16 : decode cX0_ofBoth 16 = .ok (.lload_n 3, 1) := by decide +kernel
theorem dX0_ofBoth_17 : decode cX0_ofBoth 17 = .ok (.invokestatic 25, 3) := by decide +kernel
theorem dX0_ofBoth_20 : decode cX0_ofBoth 20 = .ok (.iadd, 1) := by decide +kernel
theorem dX0_ofBoth_21 : decode cX0_ofBoth 21 = .ok (.istore 7, 2) := by decide +kernel
theorem dX0_ofBoth_23 : decode cX0_ofBoth 23 = .ok (.iload_n 0, 1) := by decide +kernel
theorem dX0_ofBoth_24 : decode cX0_ofBoth 24 = .ok (.tableswitch 71 2 4 #[28, 41, 54], 28) := by decide +kernel
theorem dX0_ofBoth_52 : decode cX0_ofBoth 52 = .ok (.iload 5, 2) := by decide +kernel
theorem dX0_ofBoth_54 : decode cX0_ofBoth 54 = .ok (.iload 6, 2) := by decide +kernel
theorem dX0_ofBoth_56 : decode cX0_ofBoth 56 = .ok (.invokestatic 28, 3) := by decide +kernel
theorem dX0_ofBoth_59 : decode cX0_ofBoth 59 = .ok (.iload 7, 2) := by decide +kernel
theorem dX0_ofBoth_61 : decode cX0_ofBoth 61 = .ok (.invokestatic 20, 3) := by decide +kernel
theorem dX0_ofBoth_64 : decode cX0_ofBoth 64 = .ok (.lreturn, 1) := by decide +kernel
theorem dX0_ofBoth_65 : decode cX0_ofBoth 65 = .ok (.iload 5, 2) := by decide +kernel
theorem dX0_ofBoth_67 : decode cX0_ofBoth 67 = .ok (.iload 6, 2) := by decide +kernel
theorem dX0_ofBoth_69 : decode cX0_ofBoth 69 = .ok (.invokestatic 34, 3) := by decide +kernel
theorem dX0_ofBoth_72 : decode cX0_ofBoth 72 = .ok (.iload 7, 2) := by decide +kernel
theorem dX0_ofBoth_74 : decode cX0_ofBoth 74 = .ok (.invokestatic 20, 3) := by decide +kernel
theorem dX0_ofBoth_77 : decode cX0_ofBoth 77 = .ok (.lreturn, 1) := by decide +kernel
theorem dX0_ofBoth_78 : decode cX0_ofBoth 78 = .ok (.lload_n 3, 1) := by decide +kernel
theorem dX0_ofBoth_79 : decode cX0_ofBoth 79 = .ok (.invokestatic 25, 3) := by decide +kernel
theorem dX0_ofBoth_82 : decode cX0_ofBoth 82 = .ok (.lload_n 1, 1) := by decide +kernel
theorem dX0_ofBoth_83 : decode cX0_ofBoth 83 = .ok (.invokestatic 25, 3) := by decide +kernel
theorem dX0_ofBoth_86 : decode cX0_ofBoth 86 = .ok (.if_icmp .lt 7, 3) := by decide +kernel
theorem dX0_ofBoth_93 : decode cX0_ofBoth 93 = .ok (.lload_n 1, 1) := by decide +kernel
theorem dX0_ofBoth_94 : decode cX0_ofBoth 94 = .ok (.lreturn, 1) := by decide +kernel
theorem dX0_ofBoth_89 : decode cX0_ofBoth 89 = .ok (.lload_n 3, 1) := by decide +kernel
theorem dX0_ofBoth_90 : decode cX0_ofBoth 90 = .ok (.goto 4, 3) := by decide +kernel
theorem dX0_ofBoth_95 : decode cX0_ofBoth 95 = .ok (.iload 5, 2) := by decide +kernel
theorem dX0_ofBoth_97 : decode cX0_ofBoth 97 = .ok (.iload 6, 2) := by decide +kernel
theorem dX0_ofBoth_99 : decode cX0_ofBoth 99 = .ok (.iadd, 1) := by decide +kernel
theorem dX0_ofBoth_100 : decode cX0_ofBoth 100 = .ok (.iload 7, 2) := by decide +kernel
theorem dX0_ofBoth_102 : decode cX0_ofBoth 102 = .ok (.invokestatic 20, 3) := by decide +kernel
theorem dX0_ofBoth_105 : decode cX0_ofBoth 105 = .ok (.lreturn, 1) := by decide +kernel
theorem dX0_answer_0 : decode cX0_answer 0 = .ok (.lload_n 1, 1) := by decide +kernel
theorem dX0_answer_1 : decode cX0_answer 1 = .ok (.invokestatic 25, 3) := by decide +kernel
theorem dX0_answer_4 : decode cX0_answer 4 = .ok (.istore_n 3, 1) := by decide +kernel
theorem dX0_answer_5 : decode cX0_answer 5 = .ok (.iload_n 0, 1) := by decide +kernel
theorem dX0_answer_6 : decode cX0_answer 6 = .ok (.iconst 5, 1) := by decide +kernel
theorem dX0_answer_7 : decode cX0_answer 7 = .ok (.if_icmp .ne 16, 3) := by decide +kernel
theorem dX0_answer_10 : decode cX0_answer 10 = .ok (.iload_n 3, 1) := by decide +kernel
theorem dX0_answer_11 : decode cX0_answer 11 = .ok (.ifCond .eq 12, 3) := by decide +kernel
theorem dX0_answer_23 : decode cX0_answer 23 = .ok (.lload_n 1, 1) := by decide +kernel
theorem dX0_answer_24 : decode cX0_answer 24 = .ok (.invokestatic 24, 3) := by decide +kernel
theorem dX0_answer_27 : decode cX0_answer 27 = .ok (.ireturn, 1) := by decide +kernel
theorem dX0_answer_14 : decode cX0_answer 14 = .ok (.lload_n 1, 1) := by decide +kernel
theorem dX0_answer_15 : decode cX0_answer 15 = .ok (.invokestatic 24, 3) := by decide +kernel
theorem dX0_answer_18 : decode cX0_answer 18 = .ok (.iload_n 3, 1) := by decide +kernel
theorem dX0_answer_19 : decode cX0_answer 19 = .ok (.idiv, 1) := by decide +kernel
theorem dX0_answer_20 : decode cX0_answer 20 = .ok (.goto 7, 3) := by decide +kernel
theorem dX7_name_0 : decode cX7_name 0 = .ok (.iload_n 0, 1) := by decide +kernel
theorem dX7_name_1 : decode cX7_name 1 = .ok (.i2l, 1) := by decide +kernel
theorem dX7_name_2 : decode cX7_name 2 = .ok (.bipush 29, 2) := by decide +kernel
theorem dX7_name_4 : decode cX7_name 4 = .ok (.lshl, 1) := by decide +kernel
theorem dX7_name_5 : decode cX7_name 5 = .ok (.iload_n 1, 1) := by decide +kernel
theorem dX7_name_6 : decode cX7_name 6 = .ok (.i2l, 1) := by decide +kernel
theorem dX7_name_7 : decode cX7_name 7 = .ok (.bipush 21, 2) := by decide +kernel
theorem dX7_name_9 : decode cX7_name 9 = .ok (.lshl, 1) := by decide +kernel
theorem dX7_name_10 : decode cX7_name 10 = .ok (.lor, 1) := by decide +kernel
theorem dX7_name_11 : decode cX7_name 11 = .ok (.iload_n 2, 1) := by decide +kernel
theorem dX7_name_12 : decode cX7_name 12 = .ok (.sipush 1000, 3) := by decide +kernel
theorem dX7_name_15 : decode cX7_name 15 = .ok (.iadd, 1) := by decide +kernel
theorem dX7_name_16 : decode cX7_name 16 = .ok (.i2l, 1) := by decide +kernel
theorem dX7_name_17 : decode cX7_name 17 = .ok (.lor, 1) := by decide +kernel
theorem dX7_name_18 : decode cX7_name 18 = .ok (.lreturn, 1) := by decide +kernel
