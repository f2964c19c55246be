theorem wq0 : (Jvm.Cond.initialized "WeirStreamLaw") ∈ lw_all := lw_in (lw_tb (List.mem_of_getElem? (i := 0) (by decide +kernel))) rfl
theorem wq627 : (Jvm.Cond.methodLink "WeirStreamLaw" (62 : Nat) ({ cls := "WeirStream", name := "sortOf", desc := "(I)I" } : Jvm.MethodName)) ∈ lw_all := lw_in (lw_tb (List.mem_of_getElem? (i := 627) (by decide +kernel))) rfl
theorem wq794 : (Jvm.Cond.methodLink "WeirStreamLaw" (18 : Nat) ({ cls := "WeirStreamLaw", name := "below", desc := "(II)I" } : Jvm.MethodName)) ∈ lw_all := lw_in (lw_tb (List.mem_of_getElem? (i := 794) (by decide +kernel))) rfl
theorem wq795 : (Jvm.Cond.static ({ cls := "WeirStreamLaw", name := "below", desc := "(II)I" } : Jvm.MethodName)) ∈ lw_all := lw_in (lw_tb (List.mem_of_getElem? (i := 795) (by decide +kernel))) rfl
theorem wq796 : (Jvm.Cond.code ({ cls := "WeirStreamLaw", name := "below", desc := "(II)I" } : Jvm.MethodName) method_2_code (2 : Nat) (Option.some Jvm.ClassFile.FieldType.int)) ∈ lw_all := lw_in (lw_tb (List.mem_of_getElem? (i := 796) (by decide +kernel))) rfl
theorem wq816 : (Jvm.Cond.methodLink "WeirStreamLaw" (114 : Nat) ({ cls := "WeirStream", name := "addSource", desc := "(I)I" } : Jvm.MethodName)) ∈ lw_all := lw_in (lw_tb (List.mem_of_getElem? (i := 816) (by decide +kernel))) rfl
theorem wq817 : (Jvm.Cond.instanceMethod ({ cls := "WeirStream", name := "addSource", desc := "(I)I" } : Jvm.MethodName)) ∈ lw_all := lw_in (lw_tb (List.mem_of_getElem? (i := 817) (by decide +kernel))) rfl
theorem wq818 : (Jvm.Cond.selects "WeirStream" ({ cls := "WeirStream", name := "addSource", desc := "(I)I" } : Jvm.MethodName) ({ cls := "WeirStream", name := "addSource", desc := "(I)I" } : Jvm.MethodName)) ∈ lw_all := lw_in (lw_tb (List.mem_of_getElem? (i := 818) (by decide +kernel))) rfl
theorem wq819 : (Jvm.Cond.code ({ cls := "WeirStream", name := "addSource", desc := "(I)I" } : Jvm.MethodName) prog_1_method_2_code (3 : Nat) (Option.some Jvm.ClassFile.FieldType.int)) ∈ lw_all := lw_in (lw_tb (List.mem_of_getElem? (i := 819) (by decide +kernel))) rfl
theorem wq1155 : (Jvm.Cond.methodLink "WeirStreamLaw" (117 : Nat) ({ cls := "WeirStream", name := "addMap", desc := "(III)I" } : Jvm.MethodName)) ∈ lw_all := lw_in (lw_tb (List.mem_of_getElem? (i := 1155) (by decide +kernel))) rfl
theorem wq1156 : (Jvm.Cond.instanceMethod ({ cls := "WeirStream", name := "addMap", desc := "(III)I" } : Jvm.MethodName)) ∈ lw_all := lw_in (lw_tb (List.mem_of_getElem? (i := 1156) (by decide +kernel))) rfl
theorem wq1157 : (Jvm.Cond.selects "WeirStream" ({ cls := "WeirStream", name := "addMap", desc := "(III)I" } : Jvm.MethodName) ({ cls := "WeirStream", name := "addMap", desc := "(III)I" } : Jvm.MethodName)) ∈ lw_all := lw_in (lw_tb (List.mem_of_getElem? (i := 1157) (by decide +kernel))) rfl
theorem wq1158 : (Jvm.Cond.code ({ cls := "WeirStream", name := "addMap", desc := "(III)I" } : Jvm.MethodName) prog_1_method_4_code (6 : Nat) (Option.some Jvm.ClassFile.FieldType.int)) ∈ lw_all := lw_in (lw_tb (List.mem_of_getElem? (i := 1158) (by decide +kernel))) rfl
theorem wq1180 : (Jvm.Cond.methodLink "WeirStreamLaw" (140 : Nat) ({ cls := "WeirStream", name := "addSink", desc := "(I)I" } : Jvm.MethodName)) ∈ lw_all := lw_in (lw_tb (List.mem_of_getElem? (i := 1180) (by decide +kernel))) rfl
theorem wq1181 : (Jvm.Cond.instanceMethod ({ cls := "WeirStream", name := "addSink", desc := "(I)I" } : Jvm.MethodName)) ∈ lw_all := lw_in (lw_tb (List.mem_of_getElem? (i := 1181) (by decide +kernel))) rfl
theorem wq1182 : (Jvm.Cond.selects "WeirStream" ({ cls := "WeirStream", name := "addSink", desc := "(I)I" } : Jvm.MethodName) ({ cls := "WeirStream", name := "addSink", desc := "(I)I" } : Jvm.MethodName)) ∈ lw_all := lw_in (lw_tb (List.mem_of_getElem? (i := 1182) (by decide +kernel))) rfl
theorem wq1183 : (Jvm.Cond.code ({ cls := "WeirStream", name := "addSink", desc := "(I)I" } : Jvm.MethodName) prog_1_method_9_code (3 : Nat) (Option.some Jvm.ClassFile.FieldType.int)) ∈ lw_all := lw_in (lw_tb (List.mem_of_getElem? (i := 1183) (by decide +kernel))) rfl
theorem dL_add_61 : decode cL_add 61 = .ok (.aload_n 0, 1) := by decide +kernel
theorem dL_add_62 : decode cL_add 62 = .ok (.iload_n 3, 1) := by decide +kernel
theorem dL_add_63 : decode cL_add 63 = .ok (.invokevirtual 62, 3) := by decide +kernel
theorem dL_add_66 : decode cL_add 66 = .ok (.bipush 7, 2) := by decide +kernel
theorem dL_add_68 : decode cL_add 68 = .ok (.if_icmp .ne 9, 3) := by decide +kernel
theorem dL_add_71 : decode cL_add 71 = .ok (.iinc 3 (-1), 3) := by decide +kernel
theorem dL_add_74 : decode cL_add 74 = .ok (.goto (-13), 3) := by decide +kernel
theorem dL_add_77 : decode cL_add 77 = .ok (.aload_n 0, 1) := by decide +kernel
theorem dL_add_78 : decode cL_add 78 = .ok (.iload 4, 2) := by decide +kernel
theorem dL_add_80 : decode cL_add 80 = .ok (.invokevirtual 62, 3) := by decide +kernel
theorem dL_add_83 : decode cL_add 83 = .ok (.bipush 7, 2) := by decide +kernel
theorem dL_add_85 : decode cL_add 85 = .ok (.if_icmp .ne 9, 3) := by decide +kernel
theorem dL_add_88 : decode cL_add 88 = .ok (.iinc 4 (-1), 3) := by decide +kernel
theorem dL_add_91 : decode cL_add 91 = .ok (.goto (-14), 3) := by decide +kernel
theorem dL_add_47 : decode cL_add 47 = .ok (.aload_n 0, 1) := by decide +kernel
theorem dL_add_48 : decode cL_add 48 = .ok (.iload_n 2, 1) := by decide +kernel
theorem dL_add_49 : decode cL_add 49 = .ok (.iconst 3, 1) := by decide +kernel
theorem dL_add_50 : decode cL_add 50 = .ok (.ishr, 1) := by decide +kernel
theorem dL_add_51 : decode cL_add 51 = .ok (.bipush 40, 2) := by decide +kernel
theorem dL_add_53 : decode cL_add 53 = .ok (.invokestatic 18, 3) := by decide +kernel
theorem dL_add_56 : decode cL_add 56 = .ok (.invokevirtual 114, 3) := by decide +kernel
theorem dL_add_59 : decode cL_add 59 = .ok (.pop, 1) := by decide +kernel
theorem dL_add_60 : decode cL_add 60 = .ok (.return_, 1) := by decide +kernel
theorem dL_add_94 : decode cL_add 94 = .ok (.iload_n 2, 1) := by decide +kernel
theorem dL_add_95 : decode cL_add 95 = .ok (.bipush 7, 2) := by decide +kernel
theorem dL_add_97 : decode cL_add 97 = .ok (.invokestatic 18, 3) := by decide +kernel
theorem dL_add_100 : decode cL_add 100 = .ok (.tableswitch 213 1 5 #[36, 63, 104, 131, 184], 36) := by decide +kernel
theorem dL_add_313 : decode cL_add 313 = .ok (.aload_n 0, 1) := by decide +kernel
theorem dL_add_314 : decode cL_add 314 = .ok (.iload_n 3, 1) := by decide +kernel
theorem dL_add_315 : decode cL_add 315 = .ok (.invokevirtual 140, 3) := by decide +kernel
theorem dL_add_318 : decode cL_add 318 = .ok (.pop, 1) := by decide +kernel
theorem dL_add_319 : decode cL_add 319 = .ok (.return_, 1) := by decide +kernel
theorem dL_add_136 : decode cL_add 136 = .ok (.aload_n 0, 1) := by decide +kernel
theorem dL_add_137 : decode cL_add 137 = .ok (.iload_n 3, 1) := by decide +kernel
theorem dL_add_138 : decode cL_add 138 = .ok (.iload_n 2, 1) := by decide +kernel
theorem dL_add_139 : decode cL_add 139 = .ok (.iconst 3, 1) := by decide +kernel
theorem dL_add_140 : decode cL_add 140 = .ok (.ishr, 1) := by decide +kernel
theorem dL_add_141 : decode cL_add 141 = .ok (.iconst 4, 1) := by decide +kernel
theorem dL_add_142 : decode cL_add 142 = .ok (.invokestatic 18, 3) := by decide +kernel
theorem dL_add_145 : decode cL_add 145 = .ok (.iconst 1, 1) := by decide +kernel
theorem dL_add_146 : decode cL_add 146 = .ok (.iload_n 2, 1) := by decide +kernel
theorem dL_add_147 : decode cL_add 147 = .ok (.bipush 6, 2) := by decide +kernel
theorem dL_add_149 : decode cL_add 149 = .ok (.ishr, 1) := by decide +kernel
theorem dL_add_150 : decode cL_add 150 = .ok (.bipush 9, 2) := by decide +kernel
theorem dL_add_152 : decode cL_add 152 = .ok (.invokestatic 18, 3) := by decide +kernel
theorem dL_add_155 : decode cL_add 155 = .ok (.iadd, 1) := by decide +kernel
theorem dL_add_156 : decode cL_add 156 = .ok (.invokevirtual 117, 3) := by decide +kernel
theorem dL_add_159 : decode cL_add 159 = .ok (.pop, 1) := by decide +kernel
theorem dL_add_160 : decode cL_add 160 = .ok (.goto 159, 3) := by decide +kernel
