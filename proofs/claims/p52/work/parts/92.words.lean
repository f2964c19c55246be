theorem wq805 : (Jvm.Cond.methodLink "WeirStreamLaw" (111 : Nat) ({ cls := "WeirStream", name := "offer", desc := "(IIII)I" } : Jvm.MethodName)) ∈ lw_all := lw_in (lw_tb (List.mem_of_getElem? (i := 805) (by decide +kernel))) rfl
theorem wq806 : (Jvm.Cond.instanceMethod ({ cls := "WeirStream", name := "offer", desc := "(IIII)I" } : Jvm.MethodName)) ∈ lw_all := lw_in (lw_tb (List.mem_of_getElem? (i := 806) (by decide +kernel))) rfl
theorem wq807 : (Jvm.Cond.selects "WeirStream" ({ cls := "WeirStream", name := "offer", desc := "(IIII)I" } : Jvm.MethodName) ({ cls := "WeirStream", name := "offer", desc := "(IIII)I" } : Jvm.MethodName)) ∈ lw_all := lw_in (lw_tb (List.mem_of_getElem? (i := 807) (by decide +kernel))) rfl
theorem wq808 : (Jvm.Cond.code ({ cls := "WeirStream", name := "offer", desc := "(IIII)I" } : Jvm.MethodName) prog_1_method_12_code (6 : Nat) (Option.some Jvm.ClassFile.FieldType.int)) ∈ lw_all := lw_in (lw_tb (List.mem_of_getElem? (i := 808) (by decide +kernel))) rfl
theorem dL_offer_0 : decode cL_offer 0 = .ok (.aload_n 0, 1) := by decide +kernel
theorem dL_offer_1 : decode cL_offer 1 = .ok (.iload_n 1, 1) := by decide +kernel
theorem dL_offer_2 : decode cL_offer 2 = .ok (.invokevirtual 62, 3) := by decide +kernel
theorem dL_offer_5 : decode cL_offer 5 = .ok (.ifCond .eq 5, 3) := by decide +kernel
theorem dL_offer_8 : decode cL_offer 8 = .ok (.iconst 0, 1) := by decide +kernel
theorem dL_offer_9 : decode cL_offer 9 = .ok (.ireturn, 1) := by decide +kernel
theorem dL_offer_10 : decode cL_offer 10 = .ok (.aload_n 0, 1) := by decide +kernel
theorem dL_offer_11 : decode cL_offer 11 = .ok (.iload_n 1, 1) := by decide +kernel
theorem dL_offer_12 : decode cL_offer 12 = .ok (.iload_n 2, 1) := by decide +kernel
theorem dL_offer_13 : decode cL_offer 13 = .ok (.iload_n 3, 1) := by decide +kernel
theorem dL_offer_14 : decode cL_offer 14 = .ok (.iload 4, 2) := by decide +kernel
theorem dL_offer_16 : decode cL_offer 16 = .ok (.invokevirtual 111, 3) := by decide +kernel
theorem dL_offer_19 : decode cL_offer 19 = .ok (.pop, 1) := by decide +kernel
theorem dL_offer_20 : decode cL_offer 20 = .ok (.iconst 1, 1) := by decide +kernel
theorem dL_offer_21 : decode cL_offer 21 = .ok (.ireturn, 1) := by decide +kernel
