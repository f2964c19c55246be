theorem wq27 : (Jvm.Cond.classLink "WeirStreamLaw" (9 : Nat) "WeirStream") ∈ lw_all := lw_in (lw_tb (List.mem_of_getElem? (i := 27) (by decide +kernel))) rfl
theorem wq28 : (Jvm.Cond.instantiable "WeirStream" (5 : Nat)) ∈ lw_all := lw_in (lw_tb (List.mem_of_getElem? (i := 28) (by decide +kernel))) rfl
theorem wq29 : (Jvm.Cond.methodLink "WeirStreamLaw" (11 : Nat) ({ cls := "WeirStream", name := "<init>", desc := "()V" } : Jvm.MethodName)) ∈ lw_all := lw_in (lw_tb (List.mem_of_getElem? (i := 29) (by decide +kernel))) rfl
theorem wq30 : (Jvm.Cond.instanceMethod ({ cls := "WeirStream", name := "<init>", desc := "()V" } : Jvm.MethodName)) ∈ lw_all := lw_in (lw_tb (List.mem_of_getElem? (i := 30) (by decide +kernel))) rfl
theorem wq31 : (Jvm.Cond.code ({ cls := "WeirStream", name := "<init>", desc := "()V" } : Jvm.MethodName) prog_1_method_1_code (1 : Nat) (Option.none : Option Jvm.ClassFile.FieldType)) ∈ lw_all := lw_in (lw_tb (List.mem_of_getElem? (i := 31) (by decide +kernel))) rfl
theorem wq111 : (Jvm.Cond.methodLink "WeirStreamLaw" (30 : Nat) ({ cls := "WeirStream", name := "start", desc := "()I" } : Jvm.MethodName)) ∈ lw_all := lw_in (lw_tb (List.mem_of_getElem? (i := 111) (by decide +kernel))) rfl
theorem wq112 : (Jvm.Cond.instanceMethod ({ cls := "WeirStream", name := "start", desc := "()I" } : Jvm.MethodName)) ∈ lw_all := lw_in (lw_tb (List.mem_of_getElem? (i := 112) (by decide +kernel))) rfl
theorem wq113 : (Jvm.Cond.selects "WeirStream" ({ cls := "WeirStream", name := "start", desc := "()I" } : Jvm.MethodName) ({ cls := "WeirStream", name := "start", desc := "()I" } : Jvm.MethodName)) ∈ lw_all := lw_in (lw_tb (List.mem_of_getElem? (i := 113) (by decide +kernel))) rfl
theorem wq114 : (Jvm.Cond.code ({ cls := "WeirStream", name := "start", desc := "()I" } : Jvm.MethodName) prog_1_method_10_code (1 : Nat) (Option.some Jvm.ClassFile.FieldType.int)) ∈ lw_all := lw_in (lw_tb (List.mem_of_getElem? (i := 114) (by decide +kernel))) rfl
theorem wq186 : (Jvm.Cond.methodLink "WeirStreamLaw" (33 : Nat) ({ cls := "WeirStream", name := "setCapacity", desc := "(I)I" } : Jvm.MethodName)) ∈ lw_all := lw_in (lw_tb (List.mem_of_getElem? (i := 186) (by decide +kernel))) rfl
theorem wq187 : (Jvm.Cond.instanceMethod ({ cls := "WeirStream", name := "setCapacity", desc := "(I)I" } : Jvm.MethodName)) ∈ lw_all := lw_in (lw_tb (List.mem_of_getElem? (i := 187) (by decide +kernel))) rfl
theorem wq188 : (Jvm.Cond.selects "WeirStream" ({ cls := "WeirStream", name := "setCapacity", desc := "(I)I" } : Jvm.MethodName) ({ cls := "WeirStream", name := "setCapacity", desc := "(I)I" } : Jvm.MethodName)) ∈ lw_all := lw_in (lw_tb (List.mem_of_getElem? (i := 188) (by decide +kernel))) rfl
theorem wq189 : (Jvm.Cond.code ({ cls := "WeirStream", name := "setCapacity", desc := "(I)I" } : Jvm.MethodName) prog_1_method_11_code (3 : Nat) (Option.some Jvm.ClassFile.FieldType.int)) ∈ lw_all := lw_in (lw_tb (List.mem_of_getElem? (i := 189) (by decide +kernel))) rfl
theorem wq623 : (Jvm.Cond.methodLink "WeirStreamLaw" (26 : Nat) ({ cls := "WeirStream", name := "stages", desc := "()I" } : Jvm.MethodName)) ∈ lw_all := lw_in (lw_tb (List.mem_of_getElem? (i := 623) (by decide +kernel))) rfl
theorem wq813 : (Jvm.Cond.methodLink "WeirStreamLaw" (22 : Nat) ({ cls := "WeirStreamLaw", name := "add", desc := "(LWeirStream;II)V" } : Jvm.MethodName)) ∈ lw_all := lw_in (lw_tb (List.mem_of_getElem? (i := 813) (by decide +kernel))) rfl
theorem wq814 : (Jvm.Cond.static ({ cls := "WeirStreamLaw", name := "add", desc := "(LWeirStream;II)V" } : Jvm.MethodName)) ∈ lw_all := lw_in (lw_tb (List.mem_of_getElem? (i := 814) (by decide +kernel))) rfl
theorem wq815 : (Jvm.Cond.code ({ cls := "WeirStreamLaw", name := "add", desc := "(LWeirStream;II)V" } : Jvm.MethodName) method_6_code (5 : Nat) (Option.none : Option Jvm.ClassFile.FieldType)) ∈ lw_all := lw_in (lw_tb (List.mem_of_getElem? (i := 815) (by decide +kernel))) rfl
theorem wr54 : (Jvm.Cond.laysStatic "java/util/ArrayList" "DEFAULTCAPACITY_EMPTY_ELEMENTDATA" "[Ljava/lang/Object;") ∈ lw_tbl := lw_tb (List.mem_of_getElem? (i := 54) (by decide +kernel))
theorem dL_law_23 : decode cL_law 23 = .ok (.iload_n 3, 1) := by decide +kernel
theorem dL_law_24 : decode cL_law 24 = .ok (.iload_n 2, 1) := by decide +kernel
theorem dL_law_25 : decode cL_law 25 = .ok (.if_icmp .ge 21, 3) := by decide +kernel
theorem dL_law_28 : decode cL_law 28 = .ok (.aload_n 1, 1) := by decide +kernel
theorem dL_law_29 : decode cL_law 29 = .ok (.iload_n 3, 1) := by decide +kernel
theorem dL_law_30 : decode cL_law 30 = .ok (.aload_n 0, 1) := by decide +kernel
theorem dL_law_31 : decode cL_law 31 = .ok (.iconst 1, 1) := by decide +kernel
theorem dL_law_32 : decode cL_law 32 = .ok (.iload_n 3, 1) := by decide +kernel
theorem dL_law_33 : decode cL_law 33 = .ok (.iadd, 1) := by decide +kernel
theorem dL_law_34 : decode cL_law 34 = .ok (.invokestatic 12, 3) := by decide +kernel
theorem dL_law_37 : decode cL_law 37 = .ok (.invokestatic 22, 3) := by decide +kernel
theorem dL_law_40 : decode cL_law 40 = .ok (.iinc 3 1, 3) := by decide +kernel
theorem dL_law_43 : decode cL_law 43 = .ok (.goto (-20), 3) := by decide +kernel
theorem dL_law_46 : decode cL_law 46 = .ok (.aload_n 1, 1) := by decide +kernel
theorem dL_law_47 : decode cL_law 47 = .ok (.invokevirtual 26, 3) := by decide +kernel
theorem dL_law_50 : decode cL_law 50 = .ok (.istore_n 2, 1) := by decide +kernel
theorem dL_law_51 : decode cL_law 51 = .ok (.aload_n 1, 1) := by decide +kernel
theorem dL_law_52 : decode cL_law 52 = .ok (.invokevirtual 30, 3) := by decide +kernel
theorem dL_law_55 : decode cL_law 55 = .ok (.pop, 1) := by decide +kernel
theorem dL_law_56 : decode cL_law 56 = .ok (.aload_n 1, 1) := by decide +kernel
theorem dL_law_57 : decode cL_law 57 = .ok (.iconst 1, 1) := by decide +kernel
theorem dL_law_58 : decode cL_law 58 = .ok (.aload_n 0, 1) := by decide +kernel
theorem dL_law_59 : decode cL_law 59 = .ok (.bipush 13, 2) := by decide +kernel
theorem dL_law_61 : decode cL_law 61 = .ok (.invokestatic 12, 3) := by decide +kernel
theorem dL_law_64 : decode cL_law 64 = .ok (.bipush 9, 2) := by decide +kernel
theorem dL_law_66 : decode cL_law 66 = .ok (.invokestatic 18, 3) := by decide +kernel
theorem dL_law_69 : decode cL_law 69 = .ok (.iadd, 1) := by decide +kernel
theorem dL_law_70 : decode cL_law 70 = .ok (.invokevirtual 33, 3) := by decide +kernel
theorem dL_law_73 : decode cL_law 73 = .ok (.pop, 1) := by decide +kernel
theorem dL_law_74 : decode cL_law 74 = .ok (.iconst 0, 1) := by decide +kernel
theorem dL_law_75 : decode cL_law 75 = .ok (.istore_n 3, 1) := by decide +kernel
theorem dL_law_76 : decode cL_law 76 = .ok (.iconst 0, 1) := by decide +kernel
theorem dL_law_77 : decode cL_law 77 = .ok (.istore 4, 2) := by decide +kernel
theorem dL_law_79 : decode cL_law 79 = .ok (.iconst 0, 1) := by decide +kernel
theorem dL_law_80 : decode cL_law 80 = .ok (.istore 5, 2) := by decide +kernel
theorem dL_law_0 : decode cL_law 0 = .ok (.new 9, 3) := by decide +kernel
theorem dL_law_3 : decode cL_law 3 = .ok (.dup, 1) := by decide +kernel
theorem dL_law_4 : decode cL_law 4 = .ok (.invokespecial 11, 3) := by decide +kernel
theorem dL_law_7 : decode cL_law 7 = .ok (.astore_n 1, 1) := by decide +kernel
theorem dL_law_8 : decode cL_law 8 = .ok (.iconst 3, 1) := by decide +kernel
theorem dL_law_9 : decode cL_law 9 = .ok (.aload_n 0, 1) := by decide +kernel
theorem dL_law_10 : decode cL_law 10 = .ok (.iconst 0, 1) := by decide +kernel
theorem dL_law_11 : decode cL_law 11 = .ok (.invokestatic 12, 3) := by decide +kernel
theorem dL_law_14 : decode cL_law 14 = .ok (.bipush 9, 2) := by decide +kernel
theorem dL_law_16 : decode cL_law 16 = .ok (.invokestatic 18, 3) := by decide +kernel
theorem dL_law_19 : decode cL_law 19 = .ok (.iadd, 1) := by decide +kernel
theorem dL_law_20 : decode cL_law 20 = .ok (.istore_n 2, 1) := by decide +kernel
theorem dL_law_21 : decode cL_law 21 = .ok (.iconst 0, 1) := by decide +kernel
theorem dL_law_22 : decode cL_law 22 = .ok (.istore_n 3, 1) := by decide +kernel
theorem dL_law_740 : decode cL_law 740 = .ok (.ireturn, 1) := by decide +kernel
