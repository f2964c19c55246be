theorem wq820 : (Jvm.Cond.methodLink "WeirStream" (28 : Nat) ({ cls := "WeirStream", name := "refuseMoreStages", desc := "()V" } : Jvm.MethodName)) ∈ lw_all := lw_in (lw_tb (List.mem_of_getElem? (i := 820) (by decide +kernel))) rfl
theorem wq822 : (Jvm.Cond.instanceMethod ({ cls := "WeirStream", name := "refuseMoreStages", desc := "()V" } : Jvm.MethodName)) ∈ lw_all := lw_in (lw_tb (List.mem_of_getElem? (i := 822) (by decide +kernel))) rfl
theorem wq823 : (Jvm.Cond.code ({ cls := "WeirStream", name := "refuseMoreStages", desc := "()V" } : Jvm.MethodName) prog_1_method_56_code (1 : Nat) (Option.none : Option Jvm.ClassFile.FieldType)) ∈ lw_all := lw_in (lw_tb (List.mem_of_getElem? (i := 823) (by decide +kernel))) rfl
theorem wq824 : (Jvm.Cond.classLink "WeirStream" (31 : Nat) "WeirStream$Plan") ∈ lw_all := lw_in (lw_tb (List.mem_of_getElem? (i := 824) (by decide +kernel))) rfl
theorem wq825 : (Jvm.Cond.instantiable "WeirStream$Plan" (15 : Nat)) ∈ lw_all := lw_in (lw_tb (List.mem_of_getElem? (i := 825) (by decide +kernel))) rfl
theorem wq826 : (Jvm.Cond.methodLink "WeirStream" (33 : Nat) ({ cls := "WeirStream$Plan", name := "<init>", desc := "(III)V" } : Jvm.MethodName)) ∈ lw_all := lw_in (lw_tb (List.mem_of_getElem? (i := 826) (by decide +kernel))) rfl
theorem wq827 : (Jvm.Cond.instanceMethod ({ cls := "WeirStream$Plan", name := "<init>", desc := "(III)V" } : Jvm.MethodName)) ∈ lw_all := lw_in (lw_tb (List.mem_of_getElem? (i := 827) (by decide +kernel))) rfl
theorem wq828 : (Jvm.Cond.code ({ cls := "WeirStream$Plan", name := "<init>", desc := "(III)V" } : Jvm.MethodName) prog_7_method_1_code (4 : Nat) (Option.none : Option Jvm.ClassFile.FieldType)) ∈ lw_all := lw_in (lw_tb (List.mem_of_getElem? (i := 828) (by decide +kernel))) rfl
theorem wq894 : (Jvm.Cond.methodLink "WeirStream" (40 : Nat) ({ cls := "WeirStream", name := "wire", desc := "(LWeirStream$Plan;)I" } : Jvm.MethodName)) ∈ lw_all := lw_in (lw_tb (List.mem_of_getElem? (i := 894) (by decide +kernel))) rfl
theorem wq896 : (Jvm.Cond.instanceMethod ({ cls := "WeirStream", name := "wire", desc := "(LWeirStream$Plan;)I" } : Jvm.MethodName)) ∈ lw_all := lw_in (lw_tb (List.mem_of_getElem? (i := 896) (by decide +kernel))) rfl
theorem wq897 : (Jvm.Cond.code ({ cls := "WeirStream", name := "wire", desc := "(LWeirStream$Plan;)I" } : Jvm.MethodName) prog_1_method_64_code (4 : Nat) (Option.some Jvm.ClassFile.FieldType.int)) ∈ lw_all := lw_in (lw_tb (List.mem_of_getElem? (i := 897) (by decide +kernel))) rfl
theorem wr840 : (Jvm.Cond.fieldLinkNest "WeirStream" (36 : Nat) "WeirStream$Plan" "slack" "I" "WeirStream") ∈ lw_tbl := lw_tb (List.mem_of_getElem? (i := 840) (by decide +kernel))
theorem wr842 : (Jvm.Cond.fieldLinkNest "WeirStream" (57 : Nat) "WeirStream$Plan" "rule" "I" "WeirStream") ∈ lw_tbl := lw_tb (List.mem_of_getElem? (i := 842) (by decide +kernel))
theorem wr844 : (Jvm.Cond.fieldLinkNest "WeirStream" (60 : Nat) "WeirStream$Plan" "n" "I" "WeirStream") ∈ lw_tbl := lw_tb (List.mem_of_getElem? (i := 844) (by decide +kernel))
theorem wr846 : (Jvm.Cond.fieldLinkNest "WeirStream" (63 : Nat) "WeirStream$Plan" "size" "I" "WeirStream") ∈ lw_tbl := lw_tb (List.mem_of_getElem? (i := 846) (by decide +kernel))
theorem wr848 : (Jvm.Cond.fieldLinkNest "WeirStream" (66 : Nat) "WeirStream$Plan" "step" "I" "WeirStream") ∈ lw_tbl := lw_tb (List.mem_of_getElem? (i := 848) (by decide +kernel))
theorem wr850 : (Jvm.Cond.fieldLinkNest "WeirStream" (72 : Nat) "WeirStream$Plan" "lateness" "I" "WeirStream") ∈ lw_tbl := lw_tb (List.mem_of_getElem? (i := 850) (by decide +kernel))
theorem wr852 : (Jvm.Cond.fieldLinkNest "WeirStream" (75 : Nat) "WeirStream$Plan" "gap" "I" "WeirStream") ∈ lw_tbl := lw_tb (List.mem_of_getElem? (i := 852) (by decide +kernel))
theorem wr854 : (Jvm.Cond.fieldLinkNest "WeirStream" (78 : Nat) "WeirStream$Plan" "before" "I" "WeirStream") ∈ lw_tbl := lw_tb (List.mem_of_getElem? (i := 854) (by decide +kernel))
theorem wr856 : (Jvm.Cond.fieldLinkNest "WeirStream" (81 : Nat) "WeirStream$Plan" "after" "I" "WeirStream") ∈ lw_tbl := lw_tb (List.mem_of_getElem? (i := 856) (by decide +kernel))
theorem wr858 : (Jvm.Cond.fieldLinkNest "WeirStream" (69 : Nat) "WeirStream$Plan" "account" "I" "WeirStream") ∈ lw_tbl := lw_tb (List.mem_of_getElem? (i := 858) (by decide +kernel))
theorem ws25 : Cond.selects "WeirStream" ⟨"WeirStream", "refuseMoreStages", "()V"⟩ ⟨"WeirStream", "refuseMoreStages", "()V"⟩ ∈ lw_all := lw_in (lw_ps (List.mem_of_getElem? (i := 25) (by decide +kernel))) rfl
theorem ws26 : Cond.selects "WeirStream" ⟨"WeirStream", "wire", "(LWeirStream$Plan;)I"⟩ ⟨"WeirStream", "wire", "(LWeirStream$Plan;)I"⟩ ∈ lw_all := lw_in (lw_ps (List.mem_of_getElem? (i := 26) (by decide +kernel))) rfl
theorem dX10_addSource_0 : decode cX10_addSource 0 = .ok (.iload_n 1, 1) := by decide +kernel
theorem dX10_addSource_1 : decode cX10_addSource 1 = .ok (.iconst 0, 1) := by decide +kernel
theorem dX10_addSource_2 : decode cX10_addSource 2 = .ok (.sipush 1000, 3) := by decide +kernel
theorem dX10_addSource_5 : decode cX10_addSource 5 = .ok (.invokestatic 21, 3) := by decide +kernel
theorem dX10_addSource_8 : decode cX10_addSource 8 = .ok (.invokestatic 25, 3) := by decide +kernel
theorem dX10_addSource_11 : decode cX10_addSource 11 = .ok (.aload_n 0, 1) := by decide +kernel
theorem dX10_addSource_12 : decode cX10_addSource 12 = .ok (.invokevirtual 28, 3) := by decide +kernel
theorem dX10_addSource_15 : decode cX10_addSource 15 = .ok (.new 31, 3) := by decide +kernel
theorem dX10_addSource_18 : decode cX10_addSource 18 = .ok (.dup, 1) := by decide +kernel
theorem dX10_addSource_19 : decode cX10_addSource 19 = .ok (.iconst 0, 1) := by decide +kernel
theorem dX10_addSource_20 : decode cX10_addSource 20 = .ok (.iconst (-1), 1) := by decide +kernel
theorem dX10_addSource_21 : decode cX10_addSource 21 = .ok (.iconst (-1), 1) := by decide +kernel
theorem dX10_addSource_22 : decode cX10_addSource 22 = .ok (.invokespecial 33, 3) := by decide +kernel
theorem dX10_addSource_25 : decode cX10_addSource 25 = .ok (.astore_n 2, 1) := by decide +kernel
theorem dX10_addSource_26 : decode cX10_addSource 26 = .ok (.aload_n 2, 1) := by decide +kernel
theorem dX10_addSource_27 : decode cX10_addSource 27 = .ok (.iload_n 1, 1) := by decide +kernel
theorem dX10_addSource_28 : decode cX10_addSource 28 = .ok (.putfield 36, 3) := by decide +kernel
theorem dX10_addSource_31 : decode cX10_addSource 31 = .ok (.aload_n 0, 1) := by decide +kernel
theorem dX10_addSource_32 : decode cX10_addSource 32 = .ok (.aload_n 2, 1) := by decide +kernel
theorem dX10_addSource_33 : decode cX10_addSource 33 = .ok (.invokevirtual 40, 3) := by decide +kernel
theorem dX10_addSource_36 : decode cX10_addSource 36 = .ok (.ireturn, 1) := by decide +kernel
theorem dX10_addFilter_0 : decode cX10_addFilter 0 = .ok (.aload_n 0, 1) := by decide +kernel
theorem dX10_addFilter_1 : decode cX10_addFilter 1 = .ok (.iload_n 1, 1) := by decide +kernel
theorem dX10_addFilter_2 : decode cX10_addFilter 2 = .ok (.invokevirtual 44, 3) := by decide +kernel
theorem dX10_addFilter_5 : decode cX10_addFilter 5 = .ok (.astore 4, 2) := by decide +kernel
theorem dX10_addFilter_7 : decode cX10_addFilter 7 = .ok (.aload 4, 2) := by decide +kernel
theorem dX10_addFilter_9 : decode cX10_addFilter 9 = .ok (.getfield 48, 3) := by decide +kernel
theorem dX10_addFilter_12 : decode cX10_addFilter 12 = .ok (.getfield 54, 3) := by decide +kernel
theorem dX10_addFilter_15 : decode cX10_addFilter 15 = .ok (.bipush 7, 2) := by decide +kernel
theorem dX10_addFilter_17 : decode cX10_addFilter 17 = .ok (.if_icmp .eq 25, 3) := by decide +kernel
theorem dX10_addFilter_20 : decode cX10_addFilter 20 = .ok (.iload_n 2, 1) := by decide +kernel
theorem dX10_addFilter_21 : decode cX10_addFilter 21 = .ok (.iconst 0, 1) := by decide +kernel
theorem dX10_addFilter_22 : decode cX10_addFilter 22 = .ok (.iconst 3, 1) := by decide +kernel
theorem dX10_addFilter_23 : decode cX10_addFilter 23 = .ok (.invokestatic 21, 3) := by decide +kernel
theorem dX10_addFilter_26 : decode cX10_addFilter 26 = .ok (.ifCond .eq 16, 3) := by decide +kernel
theorem dX10_addFilter_29 : decode cX10_addFilter 29 = .ok (.iload_n 2, 1) := by decide +kernel
theorem dX10_addFilter_30 : decode cX10_addFilter 30 = .ok (.iconst 3, 1) := by decide +kernel
theorem dX10_addFilter_31 : decode cX10_addFilter 31 = .ok (.if_icmp .ne 7, 3) := by decide +kernel
theorem dX10_addFilter_38 : decode cX10_addFilter 38 = .ok (.iconst 1, 1) := by decide +kernel
theorem dX10_addFilter_39 : decode cX10_addFilter 39 = .ok (.goto 4, 3) := by decide +kernel
theorem dX10_addFilter_43 : decode cX10_addFilter 43 = .ok (.invokestatic 25, 3) := by decide +kernel
theorem dX10_addFilter_46 : decode cX10_addFilter 46 = .ok (.aload_n 0, 1) := by decide +kernel
theorem dX10_addFilter_47 : decode cX10_addFilter 47 = .ok (.invokevirtual 28, 3) := by decide +kernel
theorem dX10_addFilter_50 : decode cX10_addFilter 50 = .ok (.new 31, 3) := by decide +kernel
theorem dX10_addFilter_53 : decode cX10_addFilter 53 = .ok (.dup, 1) := by decide +kernel
theorem dX10_addFilter_54 : decode cX10_addFilter 54 = .ok (.iconst 1, 1) := by decide +kernel
theorem dX10_addFilter_55 : decode cX10_addFilter 55 = .ok (.iload_n 1, 1) := by decide +kernel
theorem dX10_addFilter_56 : decode cX10_addFilter 56 = .ok (.iconst (-1), 1) := by decide +kernel
theorem dX10_addFilter_57 : decode cX10_addFilter 57 = .ok (.invokespecial 33, 3) := by decide +kernel
theorem dX10_addFilter_60 : decode cX10_addFilter 60 = .ok (.astore 5, 2) := by decide +kernel
theorem dX10_addFilter_62 : decode cX10_addFilter 62 = .ok (.aload 5, 2) := by decide +kernel
theorem dX10_addFilter_64 : decode cX10_addFilter 64 = .ok (.iload_n 2, 1) := by decide +kernel
theorem dX10_addFilter_65 : decode cX10_addFilter 65 = .ok (.putfield 57, 3) := by decide +kernel
theorem dX10_addFilter_68 : decode cX10_addFilter 68 = .ok (.aload 5, 2) := by decide +kernel
theorem dX10_addFilter_70 : decode cX10_addFilter 70 = .ok (.iload_n 3, 1) := by decide +kernel
theorem dX10_addFilter_71 : decode cX10_addFilter 71 = .ok (.putfield 60, 3) := by decide +kernel
theorem dX10_addFilter_74 : decode cX10_addFilter 74 = .ok (.aload_n 0, 1) := by decide +kernel
theorem dX10_addFilter_75 : decode cX10_addFilter 75 = .ok (.aload 5, 2) := by decide +kernel
theorem dX10_addFilter_77 : decode cX10_addFilter 77 = .ok (.invokevirtual 40, 3) := by decide +kernel
theorem dX10_addFilter_80 : decode cX10_addFilter 80 = .ok (.ireturn, 1) := by decide +kernel
theorem dX10_addMap_0 : decode cX10_addMap 0 = .ok (.aload_n 0, 1) := by decide +kernel
theorem dX10_addMap_1 : decode cX10_addMap 1 = .ok (.iload_n 1, 1) := by decide +kernel
theorem dX10_addMap_2 : decode cX10_addMap 2 = .ok (.invokevirtual 44, 3) := by decide +kernel
theorem dX10_addMap_5 : decode cX10_addMap 5 = .ok (.astore 4, 2) := by decide +kernel
theorem dX10_addMap_7 : decode cX10_addMap 7 = .ok (.aload 4, 2) := by decide +kernel
theorem dX10_addMap_9 : decode cX10_addMap 9 = .ok (.getfield 48, 3) := by decide +kernel
theorem dX10_addMap_12 : decode cX10_addMap 12 = .ok (.getfield 54, 3) := by decide +kernel
theorem dX10_addMap_15 : decode cX10_addMap 15 = .ok (.bipush 7, 2) := by decide +kernel
theorem dX10_addMap_17 : decode cX10_addMap 17 = .ok (.if_icmp .eq 31, 3) := by decide +kernel
theorem dX10_addMap_20 : decode cX10_addMap 20 = .ok (.iload_n 2, 1) := by decide +kernel
theorem dX10_addMap_21 : decode cX10_addMap 21 = .ok (.iconst 0, 1) := by decide +kernel
theorem dX10_addMap_22 : decode cX10_addMap 22 = .ok (.iconst 3, 1) := by decide +kernel
theorem dX10_addMap_23 : decode cX10_addMap 23 = .ok (.invokestatic 21, 3) := by decide +kernel
theorem dX10_addMap_26 : decode cX10_addMap 26 = .ok (.ifCond .eq 22, 3) := by decide +kernel
theorem dX10_addMap_29 : decode cX10_addMap 29 = .ok (.iload_n 2, 1) := by decide +kernel
theorem dX10_addMap_30 : decode cX10_addMap 30 = .ok (.iconst 2, 1) := by decide +kernel
theorem dX10_addMap_31 : decode cX10_addMap 31 = .ok (.if_icmp .ne 13, 3) := by decide +kernel
theorem dX10_addMap_44 : decode cX10_addMap 44 = .ok (.iconst 1, 1) := by decide +kernel
theorem dX10_addMap_45 : decode cX10_addMap 45 = .ok (.goto 4, 3) := by decide +kernel
theorem dX10_addMap_49 : decode cX10_addMap 49 = .ok (.invokestatic 25, 3) := by decide +kernel
theorem dX10_addMap_52 : decode cX10_addMap 52 = .ok (.aload_n 0, 1) := by decide +kernel
theorem dX10_addMap_53 : decode cX10_addMap 53 = .ok (.invokevirtual 28, 3) := by decide +kernel
theorem dX10_addMap_56 : decode cX10_addMap 56 = .ok (.new 31, 3) := by decide +kernel
theorem dX10_addMap_59 : decode cX10_addMap 59 = .ok (.dup, 1) := by decide +kernel
theorem dX10_addMap_60 : decode cX10_addMap 60 = .ok (.iconst 2, 1) := by decide +kernel
theorem dX10_addMap_61 : decode cX10_addMap 61 = .ok (.iload_n 1, 1) := by decide +kernel
theorem dX10_addMap_62 : decode cX10_addMap 62 = .ok (.iconst (-1), 1) := by decide +kernel
theorem dX10_addMap_63 : decode cX10_addMap 63 = .ok (.invokespecial 33, 3) := by decide +kernel
theorem dX10_addMap_66 : decode cX10_addMap 66 = .ok (.astore 5, 2) := by decide +kernel
theorem dX10_addMap_68 : decode cX10_addMap 68 = .ok (.aload 5, 2) := by decide +kernel
theorem dX10_addMap_70 : decode cX10_addMap 70 = .ok (.iload_n 2, 1) := by decide +kernel
theorem dX10_addMap_71 : decode cX10_addMap 71 = .ok (.putfield 57, 3) := by decide +kernel
theorem dX10_addMap_74 : decode cX10_addMap 74 = .ok (.aload 5, 2) := by decide +kernel
theorem dX10_addMap_76 : decode cX10_addMap 76 = .ok (.iload_n 3, 1) := by decide +kernel
theorem dX10_addMap_77 : decode cX10_addMap 77 = .ok (.putfield 60, 3) := by decide +kernel
theorem dX10_addMap_80 : decode cX10_addMap 80 = .ok (.aload_n 0, 1) := by decide +kernel
theorem dX10_addMap_81 : decode cX10_addMap 81 = .ok (.aload 5, 2) := by decide +kernel
theorem dX10_addMap_83 : decode cX10_addMap 83 = .ok (.invokevirtual 40, 3) := by decide +kernel
theorem dX10_addMap_86 : decode cX10_addMap 86 = .ok (.ireturn, 1) := by decide +kernel
theorem dX10_addMap_34 : decode cX10_addMap 34 = .ok (.iload_n 3, 1) := by decide +kernel
theorem dX10_addMap_35 : decode cX10_addMap 35 = .ok (.iconst 1, 1) := by decide +kernel
theorem dX10_addMap_36 : decode cX10_addMap 36 = .ok (.bipush 100, 2) := by decide +kernel
theorem dX10_addMap_38 : decode cX10_addMap 38 = .ok (.invokestatic 21, 3) := by decide +kernel
theorem dX10_addMap_41 : decode cX10_addMap 41 = .ok (.ifCond .eq 7, 3) := by decide +kernel
theorem dX10_addWindow_0 : decode cX10_addWindow 0 = .ok (.aload_n 0, 1) := by decide +kernel
theorem dX10_addWindow_1 : decode cX10_addWindow 1 = .ok (.iload_n 1, 1) := by decide +kernel
theorem dX10_addWindow_2 : decode cX10_addWindow 2 = .ok (.invokevirtual 44, 3) := by decide +kernel
theorem dX10_addWindow_5 : decode cX10_addWindow 5 = .ok (.astore 6, 2) := by decide +kernel
theorem dX10_addWindow_7 : decode cX10_addWindow 7 = .ok (.aload 6, 2) := by decide +kernel
theorem dX10_addWindow_9 : decode cX10_addWindow 9 = .ok (.getfield 48, 3) := by decide +kernel
theorem dX10_addWindow_12 : decode cX10_addWindow 12 = .ok (.getfield 54, 3) := by decide +kernel
theorem dX10_addWindow_15 : decode cX10_addWindow 15 = .ok (.bipush 7, 2) := by decide +kernel
theorem dX10_addWindow_17 : decode cX10_addWindow 17 = .ok (.if_icmp .eq 57, 3) := by decide +kernel
theorem dX10_addWindow_20 : decode cX10_addWindow 20 = .ok (.iload_n 2, 1) := by decide +kernel
theorem dX10_addWindow_21 : decode cX10_addWindow 21 = .ok (.iconst 1, 1) := by decide +kernel
theorem dX10_addWindow_22 : decode cX10_addWindow 22 = .ok (.sipush 1000, 3) := by decide +kernel
theorem dX10_addWindow_25 : decode cX10_addWindow 25 = .ok (.invokestatic 21, 3) := by decide +kernel
theorem dX10_addWindow_28 : decode cX10_addWindow 28 = .ok (.ifCond .eq 46, 3) := by decide +kernel
theorem dX10_addWindow_31 : decode cX10_addWindow 31 = .ok (.iload_n 3, 1) := by decide +kernel
theorem dX10_addWindow_32 : decode cX10_addWindow 32 = .ok (.iconst 1, 1) := by decide +kernel
theorem dX10_addWindow_33 : decode cX10_addWindow 33 = .ok (.iload_n 2, 1) := by decide +kernel
theorem dX10_addWindow_34 : decode cX10_addWindow 34 = .ok (.invokestatic 21, 3) := by decide +kernel
theorem dX10_addWindow_37 : decode cX10_addWindow 37 = .ok (.ifCond .eq 37, 3) := by decide +kernel
theorem dX10_addWindow_40 : decode cX10_addWindow 40 = .ok (.iload_n 2, 1) := by decide +kernel
theorem dX10_addWindow_41 : decode cX10_addWindow 41 = .ok (.bipush 8, 2) := by decide +kernel
theorem dX10_addWindow_43 : decode cX10_addWindow 43 = .ok (.iload_n 3, 1) := by decide +kernel
theorem dX10_addWindow_44 : decode cX10_addWindow 44 = .ok (.imul, 1) := by decide +kernel
theorem dX10_addWindow_45 : decode cX10_addWindow 45 = .ok (.if_icmp .gt 29, 3) := by decide +kernel
theorem dX10_addWindow_48 : decode cX10_addWindow 48 = .ok (.iload 4, 2) := by decide +kernel
theorem dX10_addWindow_50 : decode cX10_addWindow 50 = .ok (.iconst 0, 1) := by decide +kernel
theorem dX10_addWindow_51 : decode cX10_addWindow 51 = .ok (.iconst 5, 1) := by decide +kernel
theorem dX10_addWindow_52 : decode cX10_addWindow 52 = .ok (.invokestatic 21, 3) := by decide +kernel
theorem dX10_addWindow_55 : decode cX10_addWindow 55 = .ok (.ifCond .eq 19, 3) := by decide +kernel
theorem dX10_addWindow_58 : decode cX10_addWindow 58 = .ok (.iload 5, 2) := by decide +kernel
theorem dX10_addWindow_60 : decode cX10_addWindow 60 = .ok (.iconst 0, 1) := by decide +kernel
theorem dX10_addWindow_61 : decode cX10_addWindow 61 = .ok (.sipush 1000, 3) := by decide +kernel
theorem dX10_addWindow_64 : decode cX10_addWindow 64 = .ok (.invokestatic 21, 3) := by decide +kernel
theorem dX10_addWindow_67 : decode cX10_addWindow 67 = .ok (.ifCond .eq 7, 3) := by decide +kernel
theorem dX10_addWindow_70 : decode cX10_addWindow 70 = .ok (.iconst 1, 1) := by decide +kernel
theorem dX10_addWindow_71 : decode cX10_addWindow 71 = .ok (.goto 4, 3) := by decide +kernel
theorem dX10_addWindow_75 : decode cX10_addWindow 75 = .ok (.invokestatic 25, 3) := by decide +kernel
theorem dX10_addWindow_78 : decode cX10_addWindow 78 = .ok (.aload_n 0, 1) := by decide +kernel
theorem dX10_addWindow_79 : decode cX10_addWindow 79 = .ok (.invokevirtual 28, 3) := by decide +kernel
theorem dX10_addWindow_82 : decode cX10_addWindow 82 = .ok (.new 31, 3) := by decide +kernel
theorem dX10_addWindow_85 : decode cX10_addWindow 85 = .ok (.dup, 1) := by decide +kernel
theorem dX10_addWindow_86 : decode cX10_addWindow 86 = .ok (.iconst 3, 1) := by decide +kernel
theorem dX10_addWindow_87 : decode cX10_addWindow 87 = .ok (.iload_n 1, 1) := by decide +kernel
theorem dX10_addWindow_88 : decode cX10_addWindow 88 = .ok (.iconst (-1), 1) := by decide +kernel
theorem dX10_addWindow_89 : decode cX10_addWindow 89 = .ok (.invokespecial 33, 3) := by decide +kernel
theorem dX10_addWindow_92 : decode cX10_addWindow 92 = .ok (.astore 7, 2) := by decide +kernel
theorem dX10_addWindow_94 : decode cX10_addWindow 94 = .ok (.aload 7, 2) := by decide +kernel
theorem dX10_addWindow_96 : decode cX10_addWindow 96 = .ok (.iload_n 2, 1) := by decide +kernel
theorem dX10_addWindow_97 : decode cX10_addWindow 97 = .ok (.putfield 63, 3) := by decide +kernel
theorem dX10_addWindow_100 : decode cX10_addWindow 100 = .ok (.aload 7, 2) := by decide +kernel
theorem dX10_addWindow_102 : decode cX10_addWindow 102 = .ok (.iload_n 3, 1) := by decide +kernel
theorem dX10_addWindow_103 : decode cX10_addWindow 103 = .ok (.putfield 66, 3) := by decide +kernel
theorem dX10_addWindow_106 : decode cX10_addWindow 106 = .ok (.aload 7, 2) := by decide +kernel
theorem dX10_addWindow_108 : decode cX10_addWindow 108 = .ok (.iload 4, 2) := by decide +kernel
theorem dX10_addWindow_110 : decode cX10_addWindow 110 = .ok (.putfield 69, 3) := by decide +kernel
theorem dX10_addWindow_113 : decode cX10_addWindow 113 = .ok (.aload 7, 2) := by decide +kernel
theorem dX10_addWindow_115 : decode cX10_addWindow 115 = .ok (.iload 5, 2) := by decide +kernel
theorem dX10_addWindow_117 : decode cX10_addWindow 117 = .ok (.putfield 72, 3) := by decide +kernel
theorem dX10_addWindow_120 : decode cX10_addWindow 120 = .ok (.aload_n 0, 1) := by decide +kernel
theorem dX10_addWindow_121 : decode cX10_addWindow 121 = .ok (.aload 7, 2) := by decide +kernel
theorem dX10_addWindow_123 : decode cX10_addWindow 123 = .ok (.invokevirtual 40, 3) := by decide +kernel
theorem dX10_addWindow_126 : decode cX10_addWindow 126 = .ok (.ireturn, 1) := by decide +kernel
theorem dX10_addSession_0 : decode cX10_addSession 0 = .ok (.aload_n 0, 1) := by decide +kernel
theorem dX10_addSession_1 : decode cX10_addSession 1 = .ok (.iload_n 1, 1) := by decide +kernel
theorem dX10_addSession_2 : decode cX10_addSession 2 = .ok (.invokevirtual 44, 3) := by decide +kernel
theorem dX10_addSession_5 : decode cX10_addSession 5 = .ok (.astore 4, 2) := by decide +kernel
theorem dX10_addSession_7 : decode cX10_addSession 7 = .ok (.aload 4, 2) := by decide +kernel
theorem dX10_addSession_9 : decode cX10_addSession 9 = .ok (.getfield 48, 3) := by decide +kernel
theorem dX10_addSession_12 : decode cX10_addSession 12 = .ok (.getfield 54, 3) := by decide +kernel
theorem dX10_addSession_15 : decode cX10_addSession 15 = .ok (.bipush 7, 2) := by decide +kernel
theorem dX10_addSession_17 : decode cX10_addSession 17 = .ok (.if_icmp .eq 27, 3) := by decide +kernel
theorem dX10_addSession_20 : decode cX10_addSession 20 = .ok (.iload_n 2, 1) := by decide +kernel
theorem dX10_addSession_21 : decode cX10_addSession 21 = .ok (.iconst 1, 1) := by decide +kernel
theorem dX10_addSession_22 : decode cX10_addSession 22 = .ok (.sipush 1000, 3) := by decide +kernel
theorem dX10_addSession_25 : decode cX10_addSession 25 = .ok (.invokestatic 21, 3) := by decide +kernel
theorem dX10_addSession_28 : decode cX10_addSession 28 = .ok (.ifCond .eq 16, 3) := by decide +kernel
theorem dX10_addSession_31 : decode cX10_addSession 31 = .ok (.iload_n 3, 1) := by decide +kernel
theorem dX10_addSession_32 : decode cX10_addSession 32 = .ok (.iconst 0, 1) := by decide +kernel
theorem dX10_addSession_33 : decode cX10_addSession 33 = .ok (.iconst 5, 1) := by decide +kernel
theorem dX10_addSession_34 : decode cX10_addSession 34 = .ok (.invokestatic 21, 3) := by decide +kernel
theorem dX10_addSession_37 : decode cX10_addSession 37 = .ok (.ifCond .eq 7, 3) := by decide +kernel
theorem dX10_addSession_40 : decode cX10_addSession 40 = .ok (.iconst 1, 1) := by decide +kernel
theorem dX10_addSession_41 : decode cX10_addSession 41 = .ok (.goto 4, 3) := by decide +kernel
theorem dX10_addSession_45 : decode cX10_addSession 45 = .ok (.invokestatic 25, 3) := by decide +kernel
theorem dX10_addSession_48 : decode cX10_addSession 48 = .ok (.aload_n 0, 1) := by decide +kernel
theorem dX10_addSession_49 : decode cX10_addSession 49 = .ok (.invokevirtual 28, 3) := by decide +kernel
theorem dX10_addSession_52 : decode cX10_addSession 52 = .ok (.new 31, 3) := by decide +kernel
theorem dX10_addSession_55 : decode cX10_addSession 55 = .ok (.dup, 1) := by decide +kernel
theorem dX10_addSession_56 : decode cX10_addSession 56 = .ok (.iconst 4, 1) := by decide +kernel
theorem dX10_addSession_57 : decode cX10_addSession 57 = .ok (.iload_n 1, 1) := by decide +kernel
theorem dX10_addSession_58 : decode cX10_addSession 58 = .ok (.iconst (-1), 1) := by decide +kernel
theorem dX10_addSession_59 : decode cX10_addSession 59 = .ok (.invokespecial 33, 3) := by decide +kernel
theorem dX10_addSession_62 : decode cX10_addSession 62 = .ok (.astore 5, 2) := by decide +kernel
theorem dX10_addSession_64 : decode cX10_addSession 64 = .ok (.aload 5, 2) := by decide +kernel
theorem dX10_addSession_66 : decode cX10_addSession 66 = .ok (.iload_n 2, 1) := by decide +kernel
theorem dX10_addSession_67 : decode cX10_addSession 67 = .ok (.putfield 75, 3) := by decide +kernel
theorem dX10_addSession_70 : decode cX10_addSession 70 = .ok (.aload 5, 2) := by decide +kernel
theorem dX10_addSession_72 : decode cX10_addSession 72 = .ok (.iload_n 3, 1) := by decide +kernel
theorem dX10_addSession_73 : decode cX10_addSession 73 = .ok (.putfield 69, 3) := by decide +kernel
theorem dX10_addSession_76 : decode cX10_addSession 76 = .ok (.aload_n 0, 1) := by decide +kernel
theorem dX10_addSession_77 : decode cX10_addSession 77 = .ok (.aload 5, 2) := by decide +kernel
theorem dX10_addSession_79 : decode cX10_addSession 79 = .ok (.invokevirtual 40, 3) := by decide +kernel
theorem dX10_addSession_82 : decode cX10_addSession 82 = .ok (.ireturn, 1) := by decide +kernel
theorem dX10_addJoin_0 : decode cX10_addJoin 0 = .ok (.aload_n 0, 1) := by decide +kernel
theorem dX10_addJoin_1 : decode cX10_addJoin 1 = .ok (.iload_n 1, 1) := by decide +kernel
theorem dX10_addJoin_2 : decode cX10_addJoin 2 = .ok (.invokevirtual 44, 3) := by decide +kernel
theorem dX10_addJoin_5 : decode cX10_addJoin 5 = .ok (.astore 6, 2) := by decide +kernel
theorem dX10_addJoin_7 : decode cX10_addJoin 7 = .ok (.aload_n 0, 1) := by decide +kernel
theorem dX10_addJoin_8 : decode cX10_addJoin 8 = .ok (.iload_n 2, 1) := by decide +kernel
theorem dX10_addJoin_9 : decode cX10_addJoin 9 = .ok (.invokevirtual 44, 3) := by decide +kernel
theorem dX10_addJoin_12 : decode cX10_addJoin 12 = .ok (.astore 7, 2) := by decide +kernel
theorem dX10_addJoin_14 : decode cX10_addJoin 14 = .ok (.aload 6, 2) := by decide +kernel
theorem dX10_addJoin_16 : decode cX10_addJoin 16 = .ok (.getfield 48, 3) := by decide +kernel
theorem dX10_addJoin_19 : decode cX10_addJoin 19 = .ok (.getfield 54, 3) := by decide +kernel
theorem dX10_addJoin_22 : decode cX10_addJoin 22 = .ok (.bipush 7, 2) := by decide +kernel
theorem dX10_addJoin_24 : decode cX10_addJoin 24 = .ok (.if_icmp .eq 58, 3) := by decide +kernel
theorem dX10_addJoin_27 : decode cX10_addJoin 27 = .ok (.aload 7, 2) := by decide +kernel
theorem dX10_addJoin_29 : decode cX10_addJoin 29 = .ok (.getfield 48, 3) := by decide +kernel
theorem dX10_addJoin_32 : decode cX10_addJoin 32 = .ok (.getfield 54, 3) := by decide +kernel
theorem dX10_addJoin_35 : decode cX10_addJoin 35 = .ok (.bipush 7, 2) := by decide +kernel
theorem dX10_addJoin_37 : decode cX10_addJoin 37 = .ok (.if_icmp .eq 45, 3) := by decide +kernel
theorem dX10_addJoin_40 : decode cX10_addJoin 40 = .ok (.iload_n 1, 1) := by decide +kernel
theorem dX10_addJoin_41 : decode cX10_addJoin 41 = .ok (.iload_n 2, 1) := by decide +kernel
theorem dX10_addJoin_42 : decode cX10_addJoin 42 = .ok (.if_icmp .eq 40, 3) := by decide +kernel
theorem dX10_addJoin_45 : decode cX10_addJoin 45 = .ok (.iload_n 3, 1) := by decide +kernel
theorem dX10_addJoin_46 : decode cX10_addJoin 46 = .ok (.iconst 0, 1) := by decide +kernel
theorem dX10_addJoin_47 : decode cX10_addJoin 47 = .ok (.sipush 1000, 3) := by decide +kernel
theorem dX10_addJoin_50 : decode cX10_addJoin 50 = .ok (.invokestatic 21, 3) := by decide +kernel
theorem dX10_addJoin_53 : decode cX10_addJoin 53 = .ok (.ifCond .eq 29, 3) := by decide +kernel
theorem dX10_addJoin_56 : decode cX10_addJoin 56 = .ok (.iload 4, 2) := by decide +kernel
theorem dX10_addJoin_58 : decode cX10_addJoin 58 = .ok (.iconst 0, 1) := by decide +kernel
theorem dX10_addJoin_59 : decode cX10_addJoin 59 = .ok (.sipush 1000, 3) := by decide +kernel
theorem dX10_addJoin_62 : decode cX10_addJoin 62 = .ok (.invokestatic 21, 3) := by decide +kernel
theorem dX10_addJoin_65 : decode cX10_addJoin 65 = .ok (.ifCond .eq 17, 3) := by decide +kernel
theorem dX10_addJoin_68 : decode cX10_addJoin 68 = .ok (.iload 5, 2) := by decide +kernel
theorem dX10_addJoin_70 : decode cX10_addJoin 70 = .ok (.iconst 0, 1) := by decide +kernel
theorem dX10_addJoin_71 : decode cX10_addJoin 71 = .ok (.iconst 3, 1) := by decide +kernel
theorem dX10_addJoin_72 : decode cX10_addJoin 72 = .ok (.invokestatic 21, 3) := by decide +kernel
theorem dX10_addJoin_75 : decode cX10_addJoin 75 = .ok (.ifCond .eq 7, 3) := by decide +kernel
theorem dX10_addJoin_78 : decode cX10_addJoin 78 = .ok (.iconst 1, 1) := by decide +kernel
theorem dX10_addJoin_79 : decode cX10_addJoin 79 = .ok (.goto 4, 3) := by decide +kernel
theorem dX10_addJoin_83 : decode cX10_addJoin 83 = .ok (.invokestatic 25, 3) := by decide +kernel
theorem dX10_addJoin_86 : decode cX10_addJoin 86 = .ok (.aload_n 0, 1) := by decide +kernel
theorem dX10_addJoin_87 : decode cX10_addJoin 87 = .ok (.invokevirtual 28, 3) := by decide +kernel
theorem dX10_addJoin_90 : decode cX10_addJoin 90 = .ok (.new 31, 3) := by decide +kernel
theorem dX10_addJoin_93 : decode cX10_addJoin 93 = .ok (.dup, 1) := by decide +kernel
theorem dX10_addJoin_94 : decode cX10_addJoin 94 = .ok (.iconst 5, 1) := by decide +kernel
theorem dX10_addJoin_95 : decode cX10_addJoin 95 = .ok (.iload_n 1, 1) := by decide +kernel
theorem dX10_addJoin_96 : decode cX10_addJoin 96 = .ok (.iload_n 2, 1) := by decide +kernel
theorem dX10_addJoin_97 : decode cX10_addJoin 97 = .ok (.invokespecial 33, 3) := by decide +kernel
theorem dX10_addJoin_100 : decode cX10_addJoin 100 = .ok (.astore 8, 2) := by decide +kernel
theorem dX10_addJoin_102 : decode cX10_addJoin 102 = .ok (.aload 8, 2) := by decide +kernel
theorem dX10_addJoin_104 : decode cX10_addJoin 104 = .ok (.iload_n 3, 1) := by decide +kernel
theorem dX10_addJoin_105 : decode cX10_addJoin 105 = .ok (.putfield 78, 3) := by decide +kernel
theorem dX10_addJoin_108 : decode cX10_addJoin 108 = .ok (.aload 8, 2) := by decide +kernel
theorem dX10_addJoin_110 : decode cX10_addJoin 110 = .ok (.iload 4, 2) := by decide +kernel
theorem dX10_addJoin_112 : decode cX10_addJoin 112 = .ok (.putfield 81, 3) := by decide +kernel
theorem dX10_addJoin_115 : decode cX10_addJoin 115 = .ok (.aload 8, 2) := by decide +kernel
theorem dX10_addJoin_117 : decode cX10_addJoin 117 = .ok (.iload 5, 2) := by decide +kernel
theorem dX10_addJoin_119 : decode cX10_addJoin 119 = .ok (.putfield 57, 3) := by decide +kernel
theorem dX10_addJoin_122 : decode cX10_addJoin 122 = .ok (.aload_n 0, 1) := by decide +kernel
theorem dX10_addJoin_123 : decode cX10_addJoin 123 = .ok (.aload 8, 2) := by decide +kernel
theorem dX10_addJoin_125 : decode cX10_addJoin 125 = .ok (.invokevirtual 40, 3) := by decide +kernel
theorem dX10_addJoin_128 : decode cX10_addJoin 128 = .ok (.ireturn, 1) := by decide +kernel
theorem dX10_addMerge_0 : decode cX10_addMerge 0 = .ok (.aload_n 0, 1) := by decide +kernel
theorem dX10_addMerge_1 : decode cX10_addMerge 1 = .ok (.iload_n 1, 1) := by decide +kernel
theorem dX10_addMerge_2 : decode cX10_addMerge 2 = .ok (.invokevirtual 44, 3) := by decide +kernel
theorem dX10_addMerge_5 : decode cX10_addMerge 5 = .ok (.astore_n 3, 1) := by decide +kernel
theorem dX10_addMerge_6 : decode cX10_addMerge 6 = .ok (.aload_n 0, 1) := by decide +kernel
theorem dX10_addMerge_7 : decode cX10_addMerge 7 = .ok (.iload_n 2, 1) := by decide +kernel
theorem dX10_addMerge_8 : decode cX10_addMerge 8 = .ok (.invokevirtual 44, 3) := by decide +kernel
theorem dX10_addMerge_11 : decode cX10_addMerge 11 = .ok (.astore 4, 2) := by decide +kernel
theorem dX10_addMerge_13 : decode cX10_addMerge 13 = .ok (.aload_n 3, 1) := by decide +kernel
theorem dX10_addMerge_14 : decode cX10_addMerge 14 = .ok (.getfield 48, 3) := by decide +kernel
theorem dX10_addMerge_17 : decode cX10_addMerge 17 = .ok (.getfield 54, 3) := by decide +kernel
theorem dX10_addMerge_20 : decode cX10_addMerge 20 = .ok (.bipush 7, 2) := by decide +kernel
theorem dX10_addMerge_22 : decode cX10_addMerge 22 = .ok (.if_icmp .eq 25, 3) := by decide +kernel
theorem dX10_addMerge_25 : decode cX10_addMerge 25 = .ok (.aload 4, 2) := by decide +kernel
theorem dX10_addMerge_27 : decode cX10_addMerge 27 = .ok (.getfield 48, 3) := by decide +kernel
theorem dX10_addMerge_30 : decode cX10_addMerge 30 = .ok (.getfield 54, 3) := by decide +kernel
theorem dX10_addMerge_33 : decode cX10_addMerge 33 = .ok (.bipush 7, 2) := by decide +kernel
theorem dX10_addMerge_35 : decode cX10_addMerge 35 = .ok (.if_icmp .eq 12, 3) := by decide +kernel
theorem dX10_addMerge_38 : decode cX10_addMerge 38 = .ok (.iload_n 1, 1) := by decide +kernel
theorem dX10_addMerge_39 : decode cX10_addMerge 39 = .ok (.iload_n 2, 1) := by decide +kernel
theorem dX10_addMerge_40 : decode cX10_addMerge 40 = .ok (.if_icmp .eq 7, 3) := by decide +kernel
theorem dX10_addMerge_43 : decode cX10_addMerge 43 = .ok (.iconst 1, 1) := by decide +kernel
theorem dX10_addMerge_44 : decode cX10_addMerge 44 = .ok (.goto 4, 3) := by decide +kernel
theorem dX10_addMerge_48 : decode cX10_addMerge 48 = .ok (.invokestatic 25, 3) := by decide +kernel
theorem dX10_addMerge_51 : decode cX10_addMerge 51 = .ok (.aload_n 0, 1) := by decide +kernel
theorem dX10_addMerge_52 : decode cX10_addMerge 52 = .ok (.invokevirtual 28, 3) := by decide +kernel
theorem dX10_addMerge_55 : decode cX10_addMerge 55 = .ok (.aload_n 0, 1) := by decide +kernel
theorem dX10_addMerge_56 : decode cX10_addMerge 56 = .ok (.new 31, 3) := by decide +kernel
theorem dX10_addMerge_59 : decode cX10_addMerge 59 = .ok (.dup, 1) := by decide +kernel
theorem dX10_addMerge_60 : decode cX10_addMerge 60 = .ok (.bipush 6, 2) := by decide +kernel
theorem dX10_addMerge_62 : decode cX10_addMerge 62 = .ok (.iload_n 1, 1) := by decide +kernel
theorem dX10_addMerge_63 : decode cX10_addMerge 63 = .ok (.iload_n 2, 1) := by decide +kernel
theorem dX10_addMerge_64 : decode cX10_addMerge 64 = .ok (.invokespecial 33, 3) := by decide +kernel
theorem dX10_addMerge_67 : decode cX10_addMerge 67 = .ok (.invokevirtual 40, 3) := by decide +kernel
theorem dX10_addMerge_70 : decode cX10_addMerge 70 = .ok (.ireturn, 1) := by decide +kernel
theorem dX10_addSink_0 : decode cX10_addSink 0 = .ok (.aload_n 0, 1) := by decide +kernel
theorem dX10_addSink_1 : decode cX10_addSink 1 = .ok (.iload_n 1, 1) := by decide +kernel
theorem dX10_addSink_2 : decode cX10_addSink 2 = .ok (.invokevirtual 44, 3) := by decide +kernel
theorem dX10_addSink_5 : decode cX10_addSink 5 = .ok (.astore_n 2, 1) := by decide +kernel
theorem dX10_addSink_6 : decode cX10_addSink 6 = .ok (.aload_n 2, 1) := by decide +kernel
theorem dX10_addSink_7 : decode cX10_addSink 7 = .ok (.getfield 48, 3) := by decide +kernel
theorem dX10_addSink_10 : decode cX10_addSink 10 = .ok (.getfield 54, 3) := by decide +kernel
theorem dX10_addSink_13 : decode cX10_addSink 13 = .ok (.bipush 7, 2) := by decide +kernel
theorem dX10_addSink_15 : decode cX10_addSink 15 = .ok (.if_icmp .eq 7, 3) := by decide +kernel
theorem dX10_addSink_18 : decode cX10_addSink 18 = .ok (.iconst 1, 1) := by decide +kernel
theorem dX10_addSink_19 : decode cX10_addSink 19 = .ok (.goto 4, 3) := by decide +kernel
theorem dX10_addSink_23 : decode cX10_addSink 23 = .ok (.invokestatic 25, 3) := by decide +kernel
theorem dX10_addSink_26 : decode cX10_addSink 26 = .ok (.aload_n 0, 1) := by decide +kernel
theorem dX10_addSink_27 : decode cX10_addSink 27 = .ok (.invokevirtual 28, 3) := by decide +kernel
theorem dX10_addSink_30 : decode cX10_addSink 30 = .ok (.aload_n 0, 1) := by decide +kernel
theorem dX10_addSink_31 : decode cX10_addSink 31 = .ok (.new 31, 3) := by decide +kernel
theorem dX10_addSink_34 : decode cX10_addSink 34 = .ok (.dup, 1) := by decide +kernel
theorem dX10_addSink_35 : decode cX10_addSink 35 = .ok (.bipush 7, 2) := by decide +kernel
theorem dX10_addSink_37 : decode cX10_addSink 37 = .ok (.iload_n 1, 1) := by decide +kernel
theorem dX10_addSink_38 : decode cX10_addSink 38 = .ok (.iconst (-1), 1) := by decide +kernel
theorem dX10_addSink_39 : decode cX10_addSink 39 = .ok (.invokespecial 33, 3) := by decide +kernel
theorem dX10_addSink_42 : decode cX10_addSink 42 = .ok (.invokevirtual 40, 3) := by decide +kernel
theorem dX10_addSink_45 : decode cX10_addSink 45 = .ok (.ireturn, 1) := by decide +kernel
