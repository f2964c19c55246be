theorem wq96 : (Jvm.Cond.fieldLink "WeirStream" (18 : Nat) "WeirStream" "trial" "LWeirStream$Flow;") ∈ lw_all := lw_in (lw_tb (List.mem_of_getElem? (i := 96) (by decide +kernel))) rfl
theorem wq190 : (Jvm.Cond.methodLink "WeirStream" (21 : Nat) ({ cls := "WeirStream", name := "isWithin", desc := "(III)Z" } : Jvm.MethodName)) ∈ lw_all := lw_in (lw_tb (List.mem_of_getElem? (i := 190) (by decide +kernel))) rfl
theorem wq191 : (Jvm.Cond.static ({ cls := "WeirStream", name := "isWithin", desc := "(III)Z" } : Jvm.MethodName)) ∈ lw_all := lw_in (lw_tb (List.mem_of_getElem? (i := 191) (by decide +kernel))) rfl
theorem wq192 : (Jvm.Cond.code ({ cls := "WeirStream", name := "isWithin", desc := "(III)Z" } : Jvm.MethodName) prog_1_method_54_code (3 : Nat) (Option.some Jvm.ClassFile.FieldType.boolean)) ∈ lw_all := lw_in (lw_tb (List.mem_of_getElem? (i := 192) (by decide +kernel))) rfl
theorem wq257 : (Jvm.Cond.methodLink "WeirStream" (101 : Nat) ({ cls := "WeirStream", name := "refuseUnlessOpen", desc := "(LWeirStream$Stage;)V" } : Jvm.MethodName)) ∈ lw_all := lw_in (lw_tb (List.mem_of_getElem? (i := 257) (by decide +kernel))) rfl
theorem wq259 : (Jvm.Cond.instanceMethod ({ cls := "WeirStream", name := "refuseUnlessOpen", desc := "(LWeirStream$Stage;)V" } : Jvm.MethodName)) ∈ lw_all := lw_in (lw_tb (List.mem_of_getElem? (i := 259) (by decide +kernel))) rfl
theorem wq260 : (Jvm.Cond.code ({ cls := "WeirStream", name := "refuseUnlessOpen", desc := "(LWeirStream$Stage;)V" } : Jvm.MethodName) prog_1_method_58_code (2 : Nat) (Option.none : Option Jvm.ClassFile.FieldType)) ∈ lw_all := lw_in (lw_tb (List.mem_of_getElem? (i := 260) (by decide +kernel))) rfl
theorem wq273 : (Jvm.Cond.methodLink "WeirStream" (130 : Nat) ({ cls := "WeirStream", name := "refuseUnlessStarted", desc := "()V" } : Jvm.MethodName)) ∈ lw_all := lw_in (lw_tb (List.mem_of_getElem? (i := 273) (by decide +kernel))) rfl
theorem wq275 : (Jvm.Cond.instanceMethod ({ cls := "WeirStream", name := "refuseUnlessStarted", desc := "()V" } : Jvm.MethodName)) ∈ lw_all := lw_in (lw_tb (List.mem_of_getElem? (i := 275) (by decide +kernel))) rfl
theorem wq276 : (Jvm.Cond.code ({ cls := "WeirStream", name := "refuseUnlessStarted", desc := "()V" } : Jvm.MethodName) prog_1_method_57_code (1 : Nat) (Option.none : Option Jvm.ClassFile.FieldType)) ∈ lw_all := lw_in (lw_tb (List.mem_of_getElem? (i := 276) (by decide +kernel))) rfl
theorem wq313 : (Jvm.Cond.methodLink "WeirStream" (136 : Nat) ({ cls := "WeirStream$Flow", name := "step", desc := "(I)Z" } : Jvm.MethodName)) ∈ lw_all := lw_in (lw_tb (List.mem_of_getElem? (i := 313) (by decide +kernel))) rfl
theorem wq314 : (Jvm.Cond.instanceMethod ({ cls := "WeirStream$Flow", name := "step", desc := "(I)Z" } : Jvm.MethodName)) ∈ lw_all := lw_in (lw_tb (List.mem_of_getElem? (i := 314) (by decide +kernel))) rfl
theorem wq315 : (Jvm.Cond.selects "WeirStream$Flow" ({ cls := "WeirStream$Flow", name := "step", desc := "(I)Z" } : Jvm.MethodName) ({ cls := "WeirStream$Flow", name := "step", desc := "(I)Z" } : Jvm.MethodName)) ∈ lw_all := lw_in (lw_tb (List.mem_of_getElem? (i := 315) (by decide +kernel))) rfl
theorem wq316 : (Jvm.Cond.code ({ cls := "WeirStream$Flow", name := "step", desc := "(I)Z" } : Jvm.MethodName) prog_4_method_9_code (8 : Nat) (Option.some Jvm.ClassFile.FieldType.boolean)) ∈ lw_all := lw_in (lw_tb (List.mem_of_getElem? (i := 316) (by decide +kernel))) rfl
theorem wq597 : (Jvm.Cond.methodLink "WeirStream" (148 : Nat) ({ cls := "WeirStream$Flow", name := "beginCheckpoint", desc := "()I" } : Jvm.MethodName)) ∈ lw_all := lw_in (lw_tb (List.mem_of_getElem? (i := 597) (by decide +kernel))) rfl
theorem wq598 : (Jvm.Cond.instanceMethod ({ cls := "WeirStream$Flow", name := "beginCheckpoint", desc := "()I" } : Jvm.MethodName)) ∈ lw_all := lw_in (lw_tb (List.mem_of_getElem? (i := 598) (by decide +kernel))) rfl
theorem wq599 : (Jvm.Cond.selects "WeirStream$Flow" ({ cls := "WeirStream$Flow", name := "beginCheckpoint", desc := "()I" } : Jvm.MethodName) ({ cls := "WeirStream$Flow", name := "beginCheckpoint", desc := "()I" } : Jvm.MethodName)) ∈ lw_all := lw_in (lw_tb (List.mem_of_getElem? (i := 599) (by decide +kernel))) rfl
theorem wq600 : (Jvm.Cond.code ({ cls := "WeirStream$Flow", name := "beginCheckpoint", desc := "()I" } : Jvm.MethodName) prog_4_method_13_code (3 : Nat) (Option.some Jvm.ClassFile.FieldType.int)) ∈ lw_all := lw_in (lw_tb (List.mem_of_getElem? (i := 600) (by decide +kernel))) rfl
theorem wq605 : (Jvm.Cond.methodLink "WeirStream" (154 : Nat) ({ cls := "WeirStream$Flow", name := "goBack", desc := "()I" } : Jvm.MethodName)) ∈ lw_all := lw_in (lw_tb (List.mem_of_getElem? (i := 605) (by decide +kernel))) rfl
theorem wq606 : (Jvm.Cond.instanceMethod ({ cls := "WeirStream$Flow", name := "goBack", desc := "()I" } : Jvm.MethodName)) ∈ lw_all := lw_in (lw_tb (List.mem_of_getElem? (i := 606) (by decide +kernel))) rfl
theorem wq607 : (Jvm.Cond.selects "WeirStream$Flow" ({ cls := "WeirStream$Flow", name := "goBack", desc := "()I" } : Jvm.MethodName) ({ cls := "WeirStream$Flow", name := "goBack", desc := "()I" } : Jvm.MethodName)) ∈ lw_all := lw_in (lw_tb (List.mem_of_getElem? (i := 607) (by decide +kernel))) rfl
theorem wq608 : (Jvm.Cond.code ({ cls := "WeirStream$Flow", name := "goBack", desc := "()I" } : Jvm.MethodName) prog_4_method_14_code (2 : Nat) (Option.some Jvm.ClassFile.FieldType.int)) ∈ lw_all := lw_in (lw_tb (List.mem_of_getElem? (i := 608) (by decide +kernel))) rfl
theorem wq691 : (Jvm.Cond.methodLink "WeirStream" (266 : Nat) ({ cls := "WeirStream$Flow", name := "become", desc := "(LWeirStream$Flow;)V" } : Jvm.MethodName)) ∈ lw_all := lw_in (lw_tb (List.mem_of_getElem? (i := 691) (by decide +kernel))) rfl
theorem wq692 : (Jvm.Cond.instanceMethod ({ cls := "WeirStream$Flow", name := "become", desc := "(LWeirStream$Flow;)V" } : Jvm.MethodName)) ∈ lw_all := lw_in (lw_tb (List.mem_of_getElem? (i := 692) (by decide +kernel))) rfl
theorem wq693 : (Jvm.Cond.selects "WeirStream$Flow" ({ cls := "WeirStream$Flow", name := "become", desc := "(LWeirStream$Flow;)V" } : Jvm.MethodName) ({ cls := "WeirStream$Flow", name := "become", desc := "(LWeirStream$Flow;)V" } : Jvm.MethodName)) ∈ lw_all := lw_in (lw_tb (List.mem_of_getElem? (i := 693) (by decide +kernel))) rfl
theorem wq694 : (Jvm.Cond.code ({ cls := "WeirStream$Flow", name := "become", desc := "(LWeirStream$Flow;)V" } : Jvm.MethodName) prog_4_method_15_code (3 : Nat) (Option.none : Option Jvm.ClassFile.FieldType)) ∈ lw_all := lw_in (lw_tb (List.mem_of_getElem? (i := 694) (by decide +kernel))) rfl
theorem wq809 : (Jvm.Cond.constant "WeirStream" (100 : Nat) (100000 : Int32)) ∈ lw_all := lw_in (lw_tb (List.mem_of_getElem? (i := 809) (by decide +kernel))) rfl
theorem wq810 : (Jvm.Cond.methodLink "WeirStream" (109 : Nat) ({ cls := "WeirStream$Row", name := "length", desc := "()I" } : Jvm.MethodName)) ∈ lw_all := lw_in (lw_tb (List.mem_of_getElem? (i := 810) (by decide +kernel))) rfl
theorem wq811 : (Jvm.Cond.methodLink "WeirStream" (114 : Nat) ({ cls := "WeirStream$Item", name := "event", desc := "(III)J" } : Jvm.MethodName)) ∈ lw_all := lw_in (lw_tb (List.mem_of_getElem? (i := 811) (by decide +kernel))) rfl
theorem wq812 : (Jvm.Cond.methodLink "WeirStream" (120 : Nat) ({ cls := "WeirStream$Row", name := "add", desc := "(J)V" } : Jvm.MethodName)) ∈ lw_all := lw_in (lw_tb (List.mem_of_getElem? (i := 812) (by decide +kernel))) rfl
theorem wr1107 : (Jvm.Cond.fieldLinkNest "WeirStream" (105 : Nat) "WeirStream$Stage" "log" "LWeirStream$Row;" "WeirStream") ∈ lw_tbl := lw_tb (List.mem_of_getElem? (i := 1107) (by decide +kernel))
theorem wr1126 : (Jvm.Cond.fieldLinkNest "WeirStream" (124 : Nat) "WeirStream$Stage" "isClosed" "Z" "WeirStream") ∈ lw_tbl := lw_tb (List.mem_of_getElem? (i := 1126) (by decide +kernel))
theorem ws3 : Cond.selects "WeirStream" ⟨"WeirStream", "refuseUnlessOpen", "(LWeirStream$Stage;)V"⟩ ⟨"WeirStream", "refuseUnlessOpen", "(LWeirStream$Stage;)V"⟩ ∈ lw_all := lw_in (lw_ps (List.mem_of_getElem? (i := 3) (by decide +kernel))) rfl
theorem ws4 : Cond.selects "WeirStream" ⟨"WeirStream", "refuseUnlessStarted", "()V"⟩ ⟨"WeirStream", "refuseUnlessStarted", "()V"⟩ ∈ lw_all := lw_in (lw_ps (List.mem_of_getElem? (i := 4) (by decide +kernel))) rfl
theorem dX10_refuseUnlessStarted_0 : decode cX10_refuseUnlessStarted 0 = .ok (.aload_n 0, 1) := by decide +kernel
theorem dX10_refuseUnlessStarted_1 : decode cX10_refuseUnlessStarted 1 = .ok (.getfield 84, 3) := by decide +kernel
theorem dX10_refuseUnlessStarted_4 : decode cX10_refuseUnlessStarted 4 = .ok (.ifCond .ne 11, 3) := by decide +kernel
theorem dX10_refuseUnlessStarted_15 : decode cX10_refuseUnlessStarted 15 = .ok (.return_, 1) := by decide +kernel
theorem dX10_refuseUnlessOpen_0 : decode cX10_refuseUnlessOpen 0 = .ok (.aload_n 0, 1) := by decide +kernel
theorem dX10_refuseUnlessOpen_1 : decode cX10_refuseUnlessOpen 1 = .ok (.getfield 84, 3) := by decide +kernel
theorem dX10_refuseUnlessOpen_4 : decode cX10_refuseUnlessOpen 4 = .ok (.ifCond .eq 10, 3) := by decide +kernel
theorem dX10_refuseUnlessOpen_7 : decode cX10_refuseUnlessOpen 7 = .ok (.aload_n 1, 1) := by decide +kernel
theorem dX10_refuseUnlessOpen_8 : decode cX10_refuseUnlessOpen 8 = .ok (.getfield 124, 3) := by decide +kernel
theorem dX10_refuseUnlessOpen_11 : decode cX10_refuseUnlessOpen 11 = .ok (.ifCond .eq 11, 3) := by decide +kernel
theorem dX10_refuseUnlessOpen_22 : decode cX10_refuseUnlessOpen 22 = .ok (.return_, 1) := by decide +kernel
theorem dX10_refuseMoreStages_0 : decode cX10_refuseMoreStages 0 = .ok (.aload_n 0, 1) := by decide +kernel
theorem dX10_refuseMoreStages_1 : decode cX10_refuseMoreStages 1 = .ok (.getfield 84, 3) := by decide +kernel
theorem dX10_refuseMoreStages_4 : decode cX10_refuseMoreStages 4 = .ok (.ifCond .ne 15, 3) := by decide +kernel
theorem dX10_refuseMoreStages_7 : decode cX10_refuseMoreStages 7 = .ok (.aload_n 0, 1) := by decide +kernel
theorem dX10_refuseMoreStages_8 : decode cX10_refuseMoreStages 8 = .ok (.getfield 12, 3) := by decide +kernel
theorem dX10_refuseMoreStages_11 : decode cX10_refuseMoreStages 11 = .ok (.invokevirtual 88, 3) := by decide +kernel
theorem dX10_refuseMoreStages_14 : decode cX10_refuseMoreStages 14 = .ok (.bipush 12, 2) := by decide +kernel
theorem dX10_refuseMoreStages_16 : decode cX10_refuseMoreStages 16 = .ok (.if_icmp .lt 11, 3) := by decide +kernel
theorem dX10_refuseMoreStages_27 : decode cX10_refuseMoreStages 27 = .ok (.return_, 1) := by decide +kernel
theorem dX10_start_0 : decode cX10_start 0 = .ok (.aload_n 0, 1) := by decide +kernel
theorem dX10_start_1 : decode cX10_start 1 = .ok (.getfield 84, 3) := by decide +kernel
theorem dX10_start_4 : decode cX10_start 4 = .ok (.ifCond .ne 13, 3) := by decide +kernel
theorem dX10_start_7 : decode cX10_start 7 = .ok (.aload_n 0, 1) := by decide +kernel
theorem dX10_start_8 : decode cX10_start 8 = .ok (.getfield 12, 3) := by decide +kernel
theorem dX10_start_11 : decode cX10_start 11 = .ok (.invokevirtual 88, 3) := by decide +kernel
theorem dX10_start_14 : decode cX10_start 14 = .ok (.ifCond .ne 11, 3) := by decide +kernel
theorem dX10_start_25 : decode cX10_start 25 = .ok (.aload_n 0, 1) := by decide +kernel
theorem dX10_start_26 : decode cX10_start 26 = .ok (.iconst 1, 1) := by decide +kernel
theorem dX10_start_27 : decode cX10_start 27 = .ok (.putfield 84, 3) := by decide +kernel
theorem dX10_start_30 : decode cX10_start 30 = .ok (.aload_n 0, 1) := by decide +kernel
theorem dX10_start_31 : decode cX10_start 31 = .ok (.getfield 12, 3) := by decide +kernel
theorem dX10_start_34 : decode cX10_start 34 = .ok (.invokevirtual 88, 3) := by decide +kernel
theorem dX10_start_37 : decode cX10_start 37 = .ok (.ireturn, 1) := by decide +kernel
theorem dX10_setCapacity_0 : decode cX10_setCapacity 0 = .ok (.iload_n 1, 1) := by decide +kernel
theorem dX10_setCapacity_1 : decode cX10_setCapacity 1 = .ok (.iconst 1, 1) := by decide +kernel
theorem dX10_setCapacity_2 : decode cX10_setCapacity 2 = .ok (.bipush 20, 2) := by decide +kernel
theorem dX10_setCapacity_4 : decode cX10_setCapacity 4 = .ok (.invokestatic 21, 3) := by decide +kernel
theorem dX10_setCapacity_7 : decode cX10_setCapacity 7 = .ok (.invokestatic 25, 3) := by decide +kernel
theorem dX10_setCapacity_10 : decode cX10_setCapacity 10 = .ok (.aload_n 0, 1) := by decide +kernel
theorem dX10_setCapacity_11 : decode cX10_setCapacity 11 = .ok (.getfield 12, 3) := by decide +kernel
theorem dX10_setCapacity_14 : decode cX10_setCapacity 14 = .ok (.getfield 94, 3) := by decide +kernel
theorem dX10_setCapacity_17 : decode cX10_setCapacity 17 = .ok (.istore_n 2, 1) := by decide +kernel
theorem dX10_setCapacity_18 : decode cX10_setCapacity 18 = .ok (.aload_n 0, 1) := by decide +kernel
theorem dX10_setCapacity_19 : decode cX10_setCapacity 19 = .ok (.getfield 12, 3) := by decide +kernel
theorem dX10_setCapacity_22 : decode cX10_setCapacity 22 = .ok (.iload_n 1, 1) := by decide +kernel
theorem dX10_setCapacity_23 : decode cX10_setCapacity 23 = .ok (.putfield 94, 3) := by decide +kernel
theorem dX10_setCapacity_26 : decode cX10_setCapacity 26 = .ok (.iload_n 2, 1) := by decide +kernel
theorem dX10_setCapacity_27 : decode cX10_setCapacity 27 = .ok (.ireturn, 1) := by decide +kernel
theorem dX10_offer_0 : decode cX10_offer 0 = .ok (.aload_n 0, 1) := by decide +kernel
theorem dX10_offer_1 : decode cX10_offer 1 = .ok (.iload_n 1, 1) := by decide +kernel
theorem dX10_offer_2 : decode cX10_offer 2 = .ok (.invokevirtual 97, 3) := by decide +kernel
theorem dX10_offer_5 : decode cX10_offer 5 = .ok (.astore 5, 2) := by decide +kernel
theorem dX10_offer_7 : decode cX10_offer 7 = .ok (.iload_n 2, 1) := by decide +kernel
theorem dX10_offer_8 : decode cX10_offer 8 = .ok (.iconst 0, 1) := by decide +kernel
theorem dX10_offer_9 : decode cX10_offer 9 = .ok (.bipush 99, 2) := by decide +kernel
theorem dX10_offer_11 : decode cX10_offer 11 = .ok (.invokestatic 21, 3) := by decide +kernel
theorem dX10_offer_14 : decode cX10_offer 14 = .ok (.ifCond .eq 18, 3) := by decide +kernel
theorem dX10_offer_17 : decode cX10_offer 17 = .ok (.iload 4, 2) := by decide +kernel
theorem dX10_offer_19 : decode cX10_offer 19 = .ok (.iconst 0, 1) := by decide +kernel
theorem dX10_offer_20 : decode cX10_offer 20 = .ok (.ldc 100, 2) := by decide +kernel
theorem dX10_offer_22 : decode cX10_offer 22 = .ok (.invokestatic 21, 3) := by decide +kernel
theorem dX10_offer_25 : decode cX10_offer 25 = .ok (.ifCond .eq 7, 3) := by decide +kernel
theorem dX10_offer_28 : decode cX10_offer 28 = .ok (.iconst 1, 1) := by decide +kernel
theorem dX10_offer_29 : decode cX10_offer 29 = .ok (.goto 4, 3) := by decide +kernel
theorem dX10_offer_33 : decode cX10_offer 33 = .ok (.invokestatic 25, 3) := by decide +kernel
theorem dX10_offer_36 : decode cX10_offer 36 = .ok (.aload_n 0, 1) := by decide +kernel
theorem dX10_offer_37 : decode cX10_offer 37 = .ok (.aload 5, 2) := by decide +kernel
theorem dX10_offer_39 : decode cX10_offer 39 = .ok (.invokevirtual 101, 3) := by decide +kernel
theorem dX10_offer_42 : decode cX10_offer 42 = .ok (.aload 5, 2) := by decide +kernel
theorem dX10_offer_44 : decode cX10_offer 44 = .ok (.getfield 105, 3) := by decide +kernel
theorem dX10_offer_47 : decode cX10_offer 47 = .ok (.invokevirtual 109, 3) := by decide +kernel
theorem dX10_offer_50 : decode cX10_offer 50 = .ok (.sipush 150, 3) := by decide +kernel
theorem dX10_offer_53 : decode cX10_offer 53 = .ok (.if_icmp .lt 11, 3) := by decide +kernel
theorem dX10_offer_64 : decode cX10_offer 64 = .ok (.aload 5, 2) := by decide +kernel
theorem dX10_offer_66 : decode cX10_offer 66 = .ok (.getfield 105, 3) := by decide +kernel
theorem dX10_offer_69 : decode cX10_offer 69 = .ok (.iload_n 2, 1) := by decide +kernel
theorem dX10_offer_70 : decode cX10_offer 70 = .ok (.iload_n 3, 1) := by decide +kernel
theorem dX10_offer_71 : decode cX10_offer 71 = .ok (.iload 4, 2) := by decide +kernel
theorem dX10_offer_73 : decode cX10_offer 73 = .ok (.invokestatic 114, 3) := by decide +kernel
theorem dX10_offer_76 : decode cX10_offer 76 = .ok (.invokevirtual 120, 3) := by decide +kernel
theorem dX10_offer_79 : decode cX10_offer 79 = .ok (.aload 5, 2) := by decide +kernel
theorem dX10_offer_81 : decode cX10_offer 81 = .ok (.getfield 105, 3) := by decide +kernel
theorem dX10_offer_84 : decode cX10_offer 84 = .ok (.invokevirtual 109, 3) := by decide +kernel
theorem dX10_offer_87 : decode cX10_offer 87 = .ok (.ireturn, 1) := by decide +kernel
theorem dX10_close_0 : decode cX10_close 0 = .ok (.aload_n 0, 1) := by decide +kernel
theorem dX10_close_1 : decode cX10_close 1 = .ok (.iload_n 1, 1) := by decide +kernel
theorem dX10_close_2 : decode cX10_close 2 = .ok (.invokevirtual 97, 3) := by decide +kernel
theorem dX10_close_5 : decode cX10_close 5 = .ok (.astore_n 2, 1) := by decide +kernel
theorem dX10_close_6 : decode cX10_close 6 = .ok (.aload_n 0, 1) := by decide +kernel
theorem dX10_close_7 : decode cX10_close 7 = .ok (.aload_n 2, 1) := by decide +kernel
theorem dX10_close_8 : decode cX10_close 8 = .ok (.invokevirtual 101, 3) := by decide +kernel
theorem dX10_close_11 : decode cX10_close 11 = .ok (.aload_n 2, 1) := by decide +kernel
theorem dX10_close_12 : decode cX10_close 12 = .ok (.iconst 1, 1) := by decide +kernel
theorem dX10_close_13 : decode cX10_close 13 = .ok (.putfield 124, 3) := by decide +kernel
theorem dX10_close_16 : decode cX10_close 16 = .ok (.aload_n 2, 1) := by decide +kernel
theorem dX10_close_17 : decode cX10_close 17 = .ok (.invokevirtual 127, 3) := by decide +kernel
theorem dX10_close_20 : decode cX10_close 20 = .ok (.ireturn, 1) := by decide +kernel
theorem dX10_work_17 : decode cX10_work 17 = .ok (.iload_n 2, 1) := by decide +kernel
theorem dX10_work_18 : decode cX10_work 18 = .ok (.iload_n 1, 1) := by decide +kernel
theorem dX10_work_19 : decode cX10_work 19 = .ok (.if_icmp .ge 26, 3) := by decide +kernel
theorem dX10_work_22 : decode cX10_work 22 = .ok (.aload_n 0, 1) := by decide +kernel
theorem dX10_work_23 : decode cX10_work 23 = .ok (.getfield 12, 3) := by decide +kernel
theorem dX10_work_26 : decode cX10_work 26 = .ok (.aload_n 0, 1) := by decide +kernel
theorem dX10_work_27 : decode cX10_work 27 = .ok (.getfield 12, 3) := by decide +kernel
theorem dX10_work_30 : decode cX10_work 30 = .ok (.invokevirtual 133, 3) := by decide +kernel
theorem dX10_work_33 : decode cX10_work 33 = .ok (.invokevirtual 136, 3) := by decide +kernel
theorem dX10_work_36 : decode cX10_work 36 = .ok (.ifCond .eq 9, 3) := by decide +kernel
theorem dX10_work_39 : decode cX10_work 39 = .ok (.iinc 2 1, 3) := by decide +kernel
theorem dX10_work_42 : decode cX10_work 42 = .ok (.goto (-25), 3) := by decide +kernel
theorem dX10_work_0 : decode cX10_work 0 = .ok (.iload_n 1, 1) := by decide +kernel
theorem dX10_work_1 : decode cX10_work 1 = .ok (.iconst 1, 1) := by decide +kernel
theorem dX10_work_2 : decode cX10_work 2 = .ok (.sipush 200, 3) := by decide +kernel
theorem dX10_work_5 : decode cX10_work 5 = .ok (.invokestatic 21, 3) := by decide +kernel
theorem dX10_work_8 : decode cX10_work 8 = .ok (.invokestatic 25, 3) := by decide +kernel
theorem dX10_work_11 : decode cX10_work 11 = .ok (.aload_n 0, 1) := by decide +kernel
theorem dX10_work_12 : decode cX10_work 12 = .ok (.invokevirtual 130, 3) := by decide +kernel
theorem dX10_work_15 : decode cX10_work 15 = .ok (.iconst 0, 1) := by decide +kernel
theorem dX10_work_16 : decode cX10_work 16 = .ok (.istore_n 2, 1) := by decide +kernel
theorem dX10_work_45 : decode cX10_work 45 = .ok (.aload_n 0, 1) := by decide +kernel
theorem dX10_work_46 : decode cX10_work 46 = .ok (.dup, 1) := by decide +kernel
theorem dX10_work_47 : decode cX10_work 47 = .ok (.getfield 139, 3) := by decide +kernel
theorem dX10_work_50 : decode cX10_work 50 = .ok (.iload_n 2, 1) := by decide +kernel
theorem dX10_work_51 : decode cX10_work 51 = .ok (.iadd, 1) := by decide +kernel
theorem dX10_work_52 : decode cX10_work 52 = .ok (.putfield 139, 3) := by decide +kernel
theorem dX10_work_55 : decode cX10_work 55 = .ok (.iload_n 2, 1) := by decide +kernel
theorem dX10_work_56 : decode cX10_work 56 = .ok (.ireturn, 1) := by decide +kernel
theorem dX10_workAt_0 : decode cX10_workAt 0 = .ok (.aload_n 0, 1) := by decide +kernel
theorem dX10_workAt_1 : decode cX10_workAt 1 = .ok (.iload_n 1, 1) := by decide +kernel
theorem dX10_workAt_2 : decode cX10_workAt 2 = .ok (.invokevirtual 44, 3) := by decide +kernel
theorem dX10_workAt_5 : decode cX10_workAt 5 = .ok (.astore_n 2, 1) := by decide +kernel
theorem dX10_workAt_6 : decode cX10_workAt 6 = .ok (.aload_n 0, 1) := by decide +kernel
theorem dX10_workAt_7 : decode cX10_workAt 7 = .ok (.invokevirtual 130, 3) := by decide +kernel
theorem dX10_workAt_10 : decode cX10_workAt 10 = .ok (.aload_n 2, 1) := by decide +kernel
theorem dX10_workAt_11 : decode cX10_workAt 11 = .ok (.aload_n 0, 1) := by decide +kernel
theorem dX10_workAt_12 : decode cX10_workAt 12 = .ok (.getfield 12, 3) := by decide +kernel
theorem dX10_workAt_15 : decode cX10_workAt 15 = .ok (.getfield 94, 3) := by decide +kernel
theorem dX10_workAt_18 : decode cX10_workAt 18 = .ok (.invokevirtual 142, 3) := by decide +kernel
theorem dX10_workAt_21 : decode cX10_workAt 21 = .ok (.ifCond .eq 14, 3) := by decide +kernel
theorem dX10_workAt_35 : decode cX10_workAt 35 = .ok (.iconst 0, 1) := by decide +kernel
theorem dX10_workAt_36 : decode cX10_workAt 36 = .ok (.ireturn, 1) := by decide +kernel
theorem dX10_workAt_24 : decode cX10_workAt 24 = .ok (.aload_n 0, 1) := by decide +kernel
theorem dX10_workAt_25 : decode cX10_workAt 25 = .ok (.getfield 12, 3) := by decide +kernel
theorem dX10_workAt_28 : decode cX10_workAt 28 = .ok (.iload_n 1, 1) := by decide +kernel
theorem dX10_workAt_29 : decode cX10_workAt 29 = .ok (.invokevirtual 136, 3) := by decide +kernel
theorem dX10_workAt_32 : decode cX10_workAt 32 = .ok (.ifCond .ne 5, 3) := by decide +kernel
theorem dX10_workAt_37 : decode cX10_workAt 37 = .ok (.aload_n 0, 1) := by decide +kernel
theorem dX10_workAt_38 : decode cX10_workAt 38 = .ok (.dup, 1) := by decide +kernel
theorem dX10_workAt_39 : decode cX10_workAt 39 = .ok (.getfield 139, 3) := by decide +kernel
theorem dX10_workAt_42 : decode cX10_workAt 42 = .ok (.iconst 1, 1) := by decide +kernel
theorem dX10_workAt_43 : decode cX10_workAt 43 = .ok (.iadd, 1) := by decide +kernel
theorem dX10_workAt_44 : decode cX10_workAt 44 = .ok (.putfield 139, 3) := by decide +kernel
theorem dX10_workAt_47 : decode cX10_workAt 47 = .ok (.iconst 1, 1) := by decide +kernel
theorem dX10_workAt_48 : decode cX10_workAt 48 = .ok (.ireturn, 1) := by decide +kernel
theorem dX10_checkpoint_0 : decode cX10_checkpoint 0 = .ok (.aload_n 0, 1) := by decide +kernel
theorem dX10_checkpoint_1 : decode cX10_checkpoint 1 = .ok (.invokevirtual 130, 3) := by decide +kernel
theorem dX10_checkpoint_4 : decode cX10_checkpoint 4 = .ok (.aload_n 0, 1) := by decide +kernel
theorem dX10_checkpoint_5 : decode cX10_checkpoint 5 = .ok (.getfield 12, 3) := by decide +kernel
theorem dX10_checkpoint_8 : decode cX10_checkpoint 8 = .ok (.getfield 145, 3) := by decide +kernel
theorem dX10_checkpoint_11 : decode cX10_checkpoint 11 = .ok (.ifCond .eq 11, 3) := by decide +kernel
theorem dX10_checkpoint_22 : decode cX10_checkpoint 22 = .ok (.aload_n 0, 1) := by decide +kernel
theorem dX10_checkpoint_23 : decode cX10_checkpoint 23 = .ok (.getfield 12, 3) := by decide +kernel
theorem dX10_checkpoint_26 : decode cX10_checkpoint 26 = .ok (.invokevirtual 148, 3) := by decide +kernel
theorem dX10_checkpoint_29 : decode cX10_checkpoint 29 = .ok (.ireturn, 1) := by decide +kernel
theorem dX10_crash_0 : decode cX10_crash 0 = .ok (.aload_n 0, 1) := by decide +kernel
theorem dX10_crash_1 : decode cX10_crash 1 = .ok (.invokevirtual 130, 3) := by decide +kernel
theorem dX10_crash_4 : decode cX10_crash 4 = .ok (.aload_n 0, 1) := by decide +kernel
theorem dX10_crash_5 : decode cX10_crash 5 = .ok (.dup, 1) := by decide +kernel
theorem dX10_crash_6 : decode cX10_crash 6 = .ok (.getfield 151, 3) := by decide +kernel
theorem dX10_crash_9 : decode cX10_crash 9 = .ok (.iconst 1, 1) := by decide +kernel
theorem dX10_crash_10 : decode cX10_crash 10 = .ok (.iadd, 1) := by decide +kernel
theorem dX10_crash_11 : decode cX10_crash 11 = .ok (.putfield 151, 3) := by decide +kernel
theorem dX10_crash_14 : decode cX10_crash 14 = .ok (.aload_n 0, 1) := by decide +kernel
theorem dX10_crash_15 : decode cX10_crash 15 = .ok (.getfield 12, 3) := by decide +kernel
theorem dX10_crash_18 : decode cX10_crash 18 = .ok (.invokevirtual 154, 3) := by decide +kernel
theorem dX10_crash_21 : decode cX10_crash 21 = .ok (.ireturn, 1) := by decide +kernel
theorem dX10_itemsToRest_24 : decode cX10_itemsToRest 24 = .ok (.iload_n 2, 1) := by decide +kernel
theorem dX10_itemsToRest_25 : decode cX10_itemsToRest 25 = .ok (.iload_n 1, 1) := by decide +kernel
theorem dX10_itemsToRest_26 : decode cX10_itemsToRest 26 = .ok (.if_icmp .ge 26, 3) := by decide +kernel
theorem dX10_itemsToRest_29 : decode cX10_itemsToRest 29 = .ok (.aload_n 0, 1) := by decide +kernel
theorem dX10_itemsToRest_30 : decode cX10_itemsToRest 30 = .ok (.getfield 18, 3) := by decide +kernel
theorem dX10_itemsToRest_33 : decode cX10_itemsToRest 33 = .ok (.aload_n 0, 1) := by decide +kernel
theorem dX10_itemsToRest_34 : decode cX10_itemsToRest 34 = .ok (.getfield 18, 3) := by decide +kernel
theorem dX10_itemsToRest_37 : decode cX10_itemsToRest 37 = .ok (.invokevirtual 133, 3) := by decide +kernel
theorem dX10_itemsToRest_40 : decode cX10_itemsToRest 40 = .ok (.invokevirtual 136, 3) := by decide +kernel
theorem dX10_itemsToRest_43 : decode cX10_itemsToRest 43 = .ok (.ifCond .eq 9, 3) := by decide +kernel
theorem dX10_itemsToRest_46 : decode cX10_itemsToRest 46 = .ok (.iinc 2 1, 3) := by decide +kernel
theorem dX10_itemsToRest_49 : decode cX10_itemsToRest 49 = .ok (.goto (-25), 3) := by decide +kernel
theorem dX10_itemsToRest_0 : decode cX10_itemsToRest 0 = .ok (.iload_n 1, 1) := by decide +kernel
theorem dX10_itemsToRest_1 : decode cX10_itemsToRest 1 = .ok (.iconst 1, 1) := by decide +kernel
theorem dX10_itemsToRest_2 : decode cX10_itemsToRest 2 = .ok (.sipush 200, 3) := by decide +kernel
theorem dX10_itemsToRest_5 : decode cX10_itemsToRest 5 = .ok (.invokestatic 21, 3) := by decide +kernel
theorem dX10_itemsToRest_8 : decode cX10_itemsToRest 8 = .ok (.invokestatic 25, 3) := by decide +kernel
theorem dX10_itemsToRest_11 : decode cX10_itemsToRest 11 = .ok (.aload_n 0, 1) := by decide +kernel
theorem dX10_itemsToRest_12 : decode cX10_itemsToRest 12 = .ok (.getfield 18, 3) := by decide +kernel
theorem dX10_itemsToRest_15 : decode cX10_itemsToRest 15 = .ok (.aload_n 0, 1) := by decide +kernel
theorem dX10_itemsToRest_16 : decode cX10_itemsToRest 16 = .ok (.getfield 12, 3) := by decide +kernel
theorem dX10_itemsToRest_19 : decode cX10_itemsToRest 19 = .ok (.invokevirtual 266, 3) := by decide +kernel
theorem dX10_itemsToRest_22 : decode cX10_itemsToRest 22 = .ok (.iconst 0, 1) := by decide +kernel
theorem dX10_itemsToRest_23 : decode cX10_itemsToRest 23 = .ok (.istore_n 2, 1) := by decide +kernel
theorem dX10_itemsToRest_52 : decode cX10_itemsToRest 52 = .ok (.aload_n 0, 1) := by decide +kernel
theorem dX10_itemsToRest_53 : decode cX10_itemsToRest 53 = .ok (.getfield 18, 3) := by decide +kernel
theorem dX10_itemsToRest_56 : decode cX10_itemsToRest 56 = .ok (.invokevirtual 133, 3) := by decide +kernel
theorem dX10_itemsToRest_59 : decode cX10_itemsToRest 59 = .ok (.iconst (-1), 1) := by decide +kernel
theorem dX10_itemsToRest_60 : decode cX10_itemsToRest 60 = .ok (.if_icmp .ne 7, 3) := by decide +kernel
theorem dX10_itemsToRest_63 : decode cX10_itemsToRest 63 = .ok (.iload_n 2, 1) := by decide +kernel
theorem dX10_itemsToRest_64 : decode cX10_itemsToRest 64 = .ok (.goto 4, 3) := by decide +kernel
theorem dX10_itemsToRest_68 : decode cX10_itemsToRest 68 = .ok (.ireturn, 1) := by decide +kernel
theorem dX10_itemsToRest_67 : decode cX10_itemsToRest 67 = .ok (.iconst (-1), 1) := by decide +kernel
