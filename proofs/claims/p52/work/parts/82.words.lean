theorem wq820 : (Jvm.Cond.methodLink "WeirStream" (28 : Nat) ({ cls := "WeirStream", name := "refuseMoreStages", desc := "()V" } : Jvm.MethodName)) ∈ lw_all := lw_in (lw_tb (List.mem_of_getElem? (i := 820) (by decide +kernel))) rfl
theorem wq822 : (Jvm.Cond.instanceMethod ({ cls := "WeirStream", name := "refuseMoreStages", desc := "()V" } : Jvm.MethodName)) ∈ lw_all := lw_in (lw_tb (List.mem_of_getElem? (i := 822) (by decide +kernel))) rfl
theorem wq823 : (Jvm.Cond.code ({ cls := "WeirStream", name := "refuseMoreStages", desc := "()V" } : Jvm.MethodName) prog_1_method_56_code (1 : Nat) (Option.none : Option Jvm.ClassFile.FieldType)) ∈ lw_all := lw_in (lw_tb (List.mem_of_getElem? (i := 823) (by decide +kernel))) rfl
theorem wq824 : (Jvm.Cond.classLink "WeirStream" (31 : Nat) "WeirStream$Plan") ∈ lw_all := lw_in (lw_tb (List.mem_of_getElem? (i := 824) (by decide +kernel))) rfl
theorem wq825 : (Jvm.Cond.instantiable "WeirStream$Plan" (15 : Nat)) ∈ lw_all := lw_in (lw_tb (List.mem_of_getElem? (i := 825) (by decide +kernel))) rfl
theorem wq826 : (Jvm.Cond.methodLink "WeirStream" (33 : Nat) ({ cls := "WeirStream$Plan", name := "<init>", desc := "(III)V" } : Jvm.MethodName)) ∈ lw_all := lw_in (lw_tb (List.mem_of_getElem? (i := 826) (by decide +kernel))) rfl
theorem wq827 : (Jvm.Cond.instanceMethod ({ cls := "WeirStream$Plan", name := "<init>", desc := "(III)V" } : Jvm.MethodName)) ∈ lw_all := lw_in (lw_tb (List.mem_of_getElem? (i := 827) (by decide +kernel))) rfl
theorem wq828 : (Jvm.Cond.code ({ cls := "WeirStream$Plan", name := "<init>", desc := "(III)V" } : Jvm.MethodName) prog_7_method_1_code (4 : Nat) (Option.none : Option Jvm.ClassFile.FieldType)) ∈ lw_all := lw_in (lw_tb (List.mem_of_getElem? (i := 828) (by decide +kernel))) rfl
theorem wq894 : (Jvm.Cond.methodLink "WeirStream" (40 : Nat) ({ cls := "WeirStream", name := "wire", desc := "(LWeirStream$Plan;)I" } : Jvm.MethodName)) ∈ lw_all := lw_in (lw_tb (List.mem_of_getElem? (i := 894) (by decide +kernel))) rfl
theorem wq896 : (Jvm.Cond.instanceMethod ({ cls := "WeirStream", name := "wire", desc := "(LWeirStream$Plan;)I" } : Jvm.MethodName)) ∈ lw_all := lw_in (lw_tb (List.mem_of_getElem? (i := 896) (by decide +kernel))) rfl
theorem wq897 : (Jvm.Cond.code ({ cls := "WeirStream", name := "wire", desc := "(LWeirStream$Plan;)I" } : Jvm.MethodName) prog_1_method_64_code (4 : Nat) (Option.some Jvm.ClassFile.FieldType.int)) ∈ lw_all := lw_in (lw_tb (List.mem_of_getElem? (i := 897) (by decide +kernel))) rfl
theorem wr840 : (Jvm.Cond.fieldLinkNest "WeirStream" (36 : Nat) "WeirStream$Plan" "slack" "I" "WeirStream") ∈ lw_tbl := lw_tb (List.mem_of_getElem? (i := 840) (by decide +kernel))
theorem ws25 : Cond.selects "WeirStream" ⟨"WeirStream", "refuseMoreStages", "()V"⟩ ⟨"WeirStream", "refuseMoreStages", "()V"⟩ ∈ lw_all := lw_in (lw_ps (List.mem_of_getElem? (i := 25) (by decide +kernel))) rfl
theorem ws26 : Cond.selects "WeirStream" ⟨"WeirStream", "wire", "(LWeirStream$Plan;)I"⟩ ⟨"WeirStream", "wire", "(LWeirStream$Plan;)I"⟩ ∈ lw_all := lw_in (lw_ps (List.mem_of_getElem? (i := 26) (by decide +kernel))) rfl
theorem dX10_addSource_0 : decode cX10_addSource 0 = .ok (.iload_n 1, 1) := by decide +kernel
theorem dX10_addSource_1 : decode cX10_addSource 1 = .ok (.iconst 0, 1) := by decide +kernel
theorem dX10_addSource_2 : decode cX10_addSource 2 = .ok (.sipush 1000, 3) := by decide +kernel
theorem dX10_addSource_5 : decode cX10_addSource 5 = .ok (.invokestatic 21, 3) := by decide +kernel
theorem dX10_addSource_8 : decode cX10_addSource 8 = .ok (.invokestatic 25, 3) := by decide +kernel
theorem dX10_addSource_11 : decode cX10_addSource 11 = .ok (.aload_n 0, 1) := by decide +kernel
theorem dX10_addSource_12 : decode cX10_addSource 12 = .ok (.invokevirtual 28, 3) := by decide +kernel
theorem dX10_addSource_15 : decode cX10_addSource 15 = .ok (.new 31, 3) := by decide +kernel
theorem dX10_addSource_18 : decode cX10_addSource 18 = .ok (.dup, 1) := by decide +kernel
theorem dX10_addSource_19 : decode cX10_addSource 19 = .ok (.iconst 0, 1) := by decide +kernel
theorem dX10_addSource_20 : decode cX10_addSource 20 = .ok (.iconst (-1), 1) := by decide +kernel
theorem dX10_addSource_21 : decode cX10_addSource 21 = .ok (.iconst (-1), 1) := by decide +kernel
theorem dX10_addSource_22 : decode cX10_addSource 22 = .ok (.invokespecial 33, 3) := by decide +kernel
theorem dX10_addSource_25 : decode cX10_addSource 25 = .ok (.astore_n 2, 1) := by decide +kernel
theorem dX10_addSource_26 : decode cX10_addSource 26 = .ok (.aload_n 2, 1) := by decide +kernel
theorem dX10_addSource_27 : decode cX10_addSource 27 = .ok (.iload_n 1, 1) := by decide +kernel
theorem dX10_addSource_28 : decode cX10_addSource 28 = .ok (.putfield 36, 3) := by decide +kernel
theorem dX10_addSource_31 : decode cX10_addSource 31 = .ok (.aload_n 0, 1) := by decide +kernel
theorem dX10_addSource_32 : decode cX10_addSource 32 = .ok (.aload_n 2, 1) := by decide +kernel
theorem dX10_addSource_33 : decode cX10_addSource 33 = .ok (.invokevirtual 40, 3) := by decide +kernel
theorem dX10_addSource_36 : decode cX10_addSource 36 = .ok (.ireturn, 1) := by decide +kernel
