theorem wq0 : (Jvm.Cond.initialized "WeirStreamLaw") ∈ lw_all := lw_in (lw_tb (List.mem_of_getElem? (i := 0) (by decide +kernel))) rfl
theorem wq627 : (Jvm.Cond.methodLink "WeirStreamLaw" (62 : Nat) ({ cls := "WeirStream", name := "sortOf", desc := "(I)I" } : Jvm.MethodName)) ∈ lw_all := lw_in (lw_tb (List.mem_of_getElem? (i := 627) (by decide +kernel))) rfl
theorem wq794 : (Jvm.Cond.methodLink "WeirStreamLaw" (18 : Nat) ({ cls := "WeirStreamLaw", name := "below", desc := "(II)I" } : Jvm.MethodName)) ∈ lw_all := lw_in (lw_tb (List.mem_of_getElem? (i := 794) (by decide +kernel))) rfl
theorem wq795 : (Jvm.Cond.static ({ cls := "WeirStreamLaw", name := "below", desc := "(II)I" } : Jvm.MethodName)) ∈ lw_all := lw_in (lw_tb (List.mem_of_getElem? (i := 795) (by decide +kernel))) rfl
theorem wq796 : (Jvm.Cond.code ({ cls := "WeirStreamLaw", name := "below", desc := "(II)I" } : Jvm.MethodName) method_2_code (2 : Nat) (Option.some Jvm.ClassFile.FieldType.int)) ∈ lw_all := lw_in (lw_tb (List.mem_of_getElem? (i := 796) (by decide +kernel))) rfl
theorem wq816 : (Jvm.Cond.methodLink "WeirStreamLaw" (114 : Nat) ({ cls := "WeirStream", name := "addSource", desc := "(I)I" } : Jvm.MethodName)) ∈ lw_all := lw_in (lw_tb (List.mem_of_getElem? (i := 816) (by decide +kernel))) rfl
theorem wq817 : (Jvm.Cond.instanceMethod ({ cls := "WeirStream", name := "addSource", desc := "(I)I" } : Jvm.MethodName)) ∈ lw_all := lw_in (lw_tb (List.mem_of_getElem? (i := 817) (by decide +kernel))) rfl
theorem wq818 : (Jvm.Cond.selects "WeirStream" ({ cls := "WeirStream", name := "addSource", desc := "(I)I" } : Jvm.MethodName) ({ cls := "WeirStream", name := "addSource", desc := "(I)I" } : Jvm.MethodName)) ∈ lw_all := lw_in (lw_tb (List.mem_of_getElem? (i := 818) (by decide +kernel))) rfl
theorem wq819 : (Jvm.Cond.code ({ cls := "WeirStream", name := "addSource", desc := "(I)I" } : Jvm.MethodName) prog_1_method_2_code (3 : Nat) (Option.some Jvm.ClassFile.FieldType.int)) ∈ lw_all := lw_in (lw_tb (List.mem_of_getElem? (i := 819) (by decide +kernel))) rfl
theorem dL_add_61 : decode cL_add 61 = .ok (.aload_n 0, 1) := by decide +kernel
theorem dL_add_62 : decode cL_add 62 = .ok (.iload_n 3, 1) := by decide +kernel
theorem dL_add_63 : decode cL_add 63 = .ok (.invokevirtual 62, 3) := by decide +kernel
theorem dL_add_66 : decode cL_add 66 = .ok (.bipush 7, 2) := by decide +kernel
theorem dL_add_68 : decode cL_add 68 = .ok (.if_icmp .ne 9, 3) := by decide +kernel
theorem dL_add_71 : decode cL_add 71 = .ok (.iinc 3 (-1), 3) := by decide +kernel
theorem dL_add_74 : decode cL_add 74 = .ok (.goto (-13), 3) := by decide +kernel
theorem dL_add_77 : decode cL_add 77 = .ok (.aload_n 0, 1) := by decide +kernel
theorem dL_add_78 : decode cL_add 78 = .ok (.iload 4, 2) := by decide +kernel
theorem dL_add_80 : decode cL_add 80 = .ok (.invokevirtual 62, 3) := by decide +kernel
theorem dL_add_83 : decode cL_add 83 = .ok (.bipush 7, 2) := by decide +kernel
theorem dL_add_85 : decode cL_add 85 = .ok (.if_icmp .ne 9, 3) := by decide +kernel
theorem dL_add_88 : decode cL_add 88 = .ok (.iinc 4 (-1), 3) := by decide +kernel
theorem dL_add_91 : decode cL_add 91 = .ok (.goto (-14), 3) := by decide +kernel
theorem dL_add_47 : decode cL_add 47 = .ok (.aload_n 0, 1) := by decide +kernel
theorem dL_add_48 : decode cL_add 48 = .ok (.iload_n 2, 1) := by decide +kernel
theorem dL_add_49 : decode cL_add 49 = .ok (.iconst 3, 1) := by decide +kernel
theorem dL_add_50 : decode cL_add 50 = .ok (.ishr, 1) := by decide +kernel
theorem dL_add_51 : decode cL_add 51 = .ok (.bipush 40, 2) := by decide +kernel
theorem dL_add_53 : decode cL_add 53 = .ok (.invokestatic 18, 3) := by decide +kernel
theorem dL_add_56 : decode cL_add 56 = .ok (.invokevirtual 114, 3) := by decide +kernel
theorem dL_add_59 : decode cL_add 59 = .ok (.pop, 1) := by decide +kernel
theorem dL_add_60 : decode cL_add 60 = .ok (.return_, 1) := by decide +kernel
