theorem wq653 : (Jvm.Cond.methodLink "WeirStreamLaw" (92 : Nat) ({ cls := "WeirStream", name := "isBlocked", desc := "(IZ)Z" } : Jvm.MethodName)) ∈ lw_all := lw_in (lw_tb (List.mem_of_getElem? (i := 653) (by decide +kernel))) rfl
theorem wq1187 : (Jvm.Cond.methodLink "WeirStreamLaw" (143 : Nat) ({ cls := "WeirStream", name := "queued", desc := "(IZ)I" } : Jvm.MethodName)) ∈ lw_all := lw_in (lw_tb (List.mem_of_getElem? (i := 1187) (by decide +kernel))) rfl
theorem wq1188 : (Jvm.Cond.methodLink "WeirStreamLaw" (40 : Nat) ({ cls := "java/lang/Math", name := "max", desc := "(II)I" } : Jvm.MethodName)) ∈ lw_all := lw_in (lw_tb (List.mem_of_getElem? (i := 1188) (by decide +kernel))) rfl
theorem dL_isSound_23 : decode cL_isSound 23 = .ok (.iload 8, 2) := by decide +kernel
theorem dL_isSound_25 : decode cL_isSound 25 = .ok (.iconst 2, 1) := by decide +kernel
theorem dL_isSound_26 : decode cL_isSound 26 = .ok (.if_icmp .ge 79, 3) := by decide +kernel
theorem dL_isSound_29 : decode cL_isSound 29 = .ok (.aload_n 0, 1) := by decide +kernel
theorem dL_isSound_30 : decode cL_isSound 30 = .ok (.iload 7, 2) := by decide +kernel
theorem dL_isSound_32 : decode cL_isSound 32 = .ok (.iload 8, 2) := by decide +kernel
theorem dL_isSound_34 : decode cL_isSound 34 = .ok (.iconst 1, 1) := by decide +kernel
theorem dL_isSound_35 : decode cL_isSound 35 = .ok (.if_icmp .ne 7, 3) := by decide +kernel
theorem dL_isSound_42 : decode cL_isSound 42 = .ok (.iconst 0, 1) := by decide +kernel
theorem dL_isSound_43 : decode cL_isSound 43 = .ok (.invokevirtual 143, 3) := by decide +kernel
theorem dL_isSound_46 : decode cL_isSound 46 = .ok (.istore 9, 2) := by decide +kernel
theorem dL_isSound_48 : decode cL_isSound 48 = .ok (.iload_n 3, 1) := by decide +kernel
theorem dL_isSound_49 : decode cL_isSound 49 = .ok (.iconst 0, 1) := by decide +kernel
theorem dL_isSound_50 : decode cL_isSound 50 = .ok (.iload 9, 2) := by decide +kernel
theorem dL_isSound_52 : decode cL_isSound 52 = .ok (.invokestatic 40, 3) := by decide +kernel
theorem dL_isSound_55 : decode cL_isSound 55 = .ok (.iadd, 1) := by decide +kernel
theorem dL_isSound_56 : decode cL_isSound 56 = .ok (.istore_n 3, 1) := by decide +kernel
theorem dL_isSound_57 : decode cL_isSound 57 = .ok (.iload 4, 2) := by decide +kernel
theorem dL_isSound_59 : decode cL_isSound 59 = .ok (.iload 9, 2) := by decide +kernel
theorem dL_isSound_61 : decode cL_isSound 61 = .ok (.ifCond .lt 7, 3) := by decide +kernel
theorem dL_isSound_64 : decode cL_isSound 64 = .ok (.iconst 1, 1) := by decide +kernel
theorem dL_isSound_65 : decode cL_isSound 65 = .ok (.goto 4, 3) := by decide +kernel
theorem dL_isSound_69 : decode cL_isSound 69 = .ok (.iadd, 1) := by decide +kernel
theorem dL_isSound_70 : decode cL_isSound 70 = .ok (.istore 4, 2) := by decide +kernel
theorem dL_isSound_72 : decode cL_isSound 72 = .ok (.iload 9, 2) := by decide +kernel
theorem dL_isSound_74 : decode cL_isSound 74 = .ok (.ifCond .ge 25, 3) := by decide +kernel
theorem dL_isSound_99 : decode cL_isSound 99 = .ok (.iinc 8 1, 3) := by decide +kernel
theorem dL_isSound_102 : decode cL_isSound 102 = .ok (.goto (-79), 3) := by decide +kernel
theorem dL_isSound_68 : decode cL_isSound 68 = .ok (.iconst 0, 1) := by decide +kernel
theorem dL_isSound_77 : decode cL_isSound 77 = .ok (.aload_n 0, 1) := by decide +kernel
theorem dL_isSound_78 : decode cL_isSound 78 = .ok (.iload 7, 2) := by decide +kernel
theorem dL_isSound_80 : decode cL_isSound 80 = .ok (.iload 8, 2) := by decide +kernel
theorem dL_isSound_82 : decode cL_isSound 82 = .ok (.iconst 1, 1) := by decide +kernel
theorem dL_isSound_83 : decode cL_isSound 83 = .ok (.if_icmp .ne 7, 3) := by decide +kernel
theorem dL_isSound_90 : decode cL_isSound 90 = .ok (.iconst 0, 1) := by decide +kernel
theorem dL_isSound_91 : decode cL_isSound 91 = .ok (.invokevirtual 92, 3) := by decide +kernel
theorem dL_isSound_94 : decode cL_isSound 94 = .ok (.ifCond .eq 5, 3) := by decide +kernel
theorem dL_isSound_38 : decode cL_isSound 38 = .ok (.iconst 1, 1) := by decide +kernel
theorem dL_isSound_39 : decode cL_isSound 39 = .ok (.goto 4, 3) := by decide +kernel
theorem dL_isSound_86 : decode cL_isSound 86 = .ok (.iconst 1, 1) := by decide +kernel
theorem dL_isSound_87 : decode cL_isSound 87 = .ok (.goto 4, 3) := by decide +kernel
