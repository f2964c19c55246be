theorem wq627 : (Jvm.Cond.methodLink "WeirStreamLaw" (62 : Nat) ({ cls := "WeirStream", name := "sortOf", desc := "(I)I" } : Jvm.MethodName)) ∈ lw_all := lw_in (lw_tb (List.mem_of_getElem? (i := 627) (by decide +kernel))) rfl
theorem dL_add_61 : decode cL_add 61 = .ok (.aload_n 0, 1) := by decide +kernel
theorem dL_add_62 : decode cL_add 62 = .ok (.iload_n 3, 1) := by decide +kernel
theorem dL_add_63 : decode cL_add 63 = .ok (.invokevirtual 62, 3) := by decide +kernel
theorem dL_add_66 : decode cL_add 66 = .ok (.bipush 7, 2) := by decide +kernel
theorem dL_add_68 : decode cL_add 68 = .ok (.if_icmp .ne 9, 3) := by decide +kernel
theorem dL_add_71 : decode cL_add 71 = .ok (.iinc 3 (-1), 3) := by decide +kernel
theorem dL_add_74 : decode cL_add 74 = .ok (.goto (-13), 3) := by decide +kernel
theorem dL_add_77 : decode cL_add 77 = .ok (.aload_n 0, 1) := by decide +kernel
theorem dL_add_78 : decode cL_add 78 = .ok (.iload 4, 2) := by decide +kernel
theorem dL_add_80 : decode cL_add 80 = .ok (.invokevirtual 62, 3) := by decide +kernel
theorem dL_add_83 : decode cL_add 83 = .ok (.bipush 7, 2) := by decide +kernel
theorem dL_add_85 : decode cL_add 85 = .ok (.if_icmp .ne 9, 3) := by decide +kernel
theorem dL_add_88 : decode cL_add 88 = .ok (.iinc 4 (-1), 3) := by decide +kernel
theorem dL_add_91 : decode cL_add 91 = .ok (.goto (-14), 3) := by decide +kernel
