theorem wq11 : (Jvm.Cond.initialized "WeirStream$Plan") ∈ lw_all := lw_in (lw_tb (List.mem_of_getElem? (i := 11) (by decide +kernel))) rfl
theorem wq860 : (Jvm.Cond.fieldLink "WeirStream$Plan" (19 : Nat) "WeirStream$Plan" "depth" "I") ∈ lw_all := lw_in (lw_tb (List.mem_of_getElem? (i := 860) (by decide +kernel))) rfl
theorem wq862 : (Jvm.Cond.fieldLink "WeirStream$Plan" (28 : Nat) "WeirStream$Plan" "upstream" "I") ∈ lw_all := lw_in (lw_tb (List.mem_of_getElem? (i := 862) (by decide +kernel))) rfl
theorem wq898 : (Jvm.Cond.methodLink "WeirStream" (368 : Nat) ({ cls := "WeirStream", name := "planOf", desc := "(I)LWeirStream$Plan;" } : Jvm.MethodName)) ∈ lw_all := lw_in (lw_tb (List.mem_of_getElem? (i := 898) (by decide +kernel))) rfl
theorem wq900 : (Jvm.Cond.instanceMethod ({ cls := "WeirStream", name := "planOf", desc := "(I)LWeirStream$Plan;" } : Jvm.MethodName)) ∈ lw_all := lw_in (lw_tb (List.mem_of_getElem? (i := 900) (by decide +kernel))) rfl
theorem wq901 : (Jvm.Cond.code ({ cls := "WeirStream", name := "planOf", desc := "(I)LWeirStream$Plan;" } : Jvm.MethodName) prog_1_method_65_code (3 : Nat) (Option.some (Jvm.ClassFile.FieldType.object "WeirStream$Plan"))) ∈ lw_all := lw_in (lw_tb (List.mem_of_getElem? (i := 901) (by decide +kernel))) rfl
theorem wq902 : (Jvm.Cond.methodLink "WeirStream" (372 : Nat) ({ cls := "WeirStream$Plan", name := "standBehind", desc := "(LWeirStream$Plan;I)V" } : Jvm.MethodName)) ∈ lw_all := lw_in (lw_tb (List.mem_of_getElem? (i := 902) (by decide +kernel))) rfl
theorem wq903 : (Jvm.Cond.instanceMethod ({ cls := "WeirStream$Plan", name := "standBehind", desc := "(LWeirStream$Plan;I)V" } : Jvm.MethodName)) ∈ lw_all := lw_in (lw_tb (List.mem_of_getElem? (i := 903) (by decide +kernel))) rfl
theorem wq904 : (Jvm.Cond.selects "WeirStream$Plan" ({ cls := "WeirStream$Plan", name := "standBehind", desc := "(LWeirStream$Plan;I)V" } : Jvm.MethodName) ({ cls := "WeirStream$Plan", name := "standBehind", desc := "(LWeirStream$Plan;I)V" } : Jvm.MethodName)) ∈ lw_all := lw_in (lw_tb (List.mem_of_getElem? (i := 904) (by decide +kernel))) rfl
theorem wq905 : (Jvm.Cond.code ({ cls := "WeirStream$Plan", name := "standBehind", desc := "(LWeirStream$Plan;I)V" } : Jvm.MethodName) prog_7_method_2_code (3 : Nat) (Option.none : Option Jvm.ClassFile.FieldType)) ∈ lw_all := lw_in (lw_tb (List.mem_of_getElem? (i := 905) (by decide +kernel))) rfl
theorem wq906 : (Jvm.Cond.methodLink "WeirStream$Plan" (22 : Nat) ({ cls := "java/lang/Math", name := "max", desc := "(II)I" } : Jvm.MethodName)) ∈ lw_all := lw_in (lw_tb (List.mem_of_getElem? (i := 906) (by decide +kernel))) rfl
theorem wq907 : (Jvm.Cond.classLink "WeirStream" (110 : Nat) "WeirStream$Row") ∈ lw_all := lw_in (lw_tb (List.mem_of_getElem? (i := 907) (by decide +kernel))) rfl
theorem wq920 : (Jvm.Cond.methodLink "WeirStream" (380 : Nat) ({ cls := "WeirStream$Flow", name := "add", desc := "(LWeirStream$Plan;LWeirStream$Row;)V" } : Jvm.MethodName)) ∈ lw_all := lw_in (lw_tb (List.mem_of_getElem? (i := 920) (by decide +kernel))) rfl
theorem wq921 : (Jvm.Cond.instanceMethod ({ cls := "WeirStream$Flow", name := "add", desc := "(LWeirStream$Plan;LWeirStream$Row;)V" } : Jvm.MethodName)) ∈ lw_all := lw_in (lw_tb (List.mem_of_getElem? (i := 921) (by decide +kernel))) rfl
theorem wq922 : (Jvm.Cond.selects "WeirStream$Flow" ({ cls := "WeirStream$Flow", name := "add", desc := "(LWeirStream$Plan;LWeirStream$Row;)V" } : Jvm.MethodName) ({ cls := "WeirStream$Flow", name := "add", desc := "(LWeirStream$Plan;LWeirStream$Row;)V" } : Jvm.MethodName)) ∈ lw_all := lw_in (lw_tb (List.mem_of_getElem? (i := 922) (by decide +kernel))) rfl
theorem wq923 : (Jvm.Cond.code ({ cls := "WeirStream$Flow", name := "add", desc := "(LWeirStream$Plan;LWeirStream$Row;)V" } : Jvm.MethodName) prog_4_method_4_code (3 : Nat) (Option.none : Option Jvm.ClassFile.FieldType)) ∈ lw_all := lw_in (lw_tb (List.mem_of_getElem? (i := 923) (by decide +kernel))) rfl
theorem wr836 : (Jvm.Cond.fieldLinkNest "WeirStream" (365 : Nat) "WeirStream$Plan" "first" "I" "WeirStream") ∈ lw_tbl := lw_tb (List.mem_of_getElem? (i := 836) (by decide +kernel))
theorem wr839 : (Jvm.Cond.fieldLinkNest "WeirStream" (376 : Nat) "WeirStream$Plan" "second" "I" "WeirStream") ∈ lw_tbl := lw_tb (List.mem_of_getElem? (i := 839) (by decide +kernel))
theorem wr909 : (Jvm.Cond.methodLinkNest "WeirStream" (379 : Nat) ({ cls := "WeirStream$Row", name := "<init>", desc := "()V" } : Jvm.MethodName) "WeirStream") ∈ lw_tbl := lw_tb (List.mem_of_getElem? (i := 909) (by decide +kernel))
theorem ws27 : Cond.selects "WeirStream" ⟨"WeirStream", "planOf", "(I)LWeirStream$Plan;"⟩ ⟨"WeirStream", "planOf", "(I)LWeirStream$Plan;"⟩ ∈ lw_all := lw_in (lw_ps (List.mem_of_getElem? (i := 27) (by decide +kernel))) rfl
theorem dX5_standBehind_0 : decode cX5_standBehind 0 = .ok (.aload_n 1, 1) := by decide +kernel
theorem dX5_standBehind_1 : decode cX5_standBehind 1 = .ok (.ifnull 37, 3) := by decide +kernel
theorem dX5_standBehind_38 : decode cX5_standBehind 38 = .ok (.return_, 1) := by decide +kernel
theorem dX5_standBehind_4 : decode cX5_standBehind 4 = .ok (.aload_n 0, 1) := by decide +kernel
theorem dX5_standBehind_5 : decode cX5_standBehind 5 = .ok (.aload_n 0, 1) := by decide +kernel
theorem dX5_standBehind_6 : decode cX5_standBehind 6 = .ok (.getfield 19, 3) := by decide +kernel
theorem dX5_standBehind_9 : decode cX5_standBehind 9 = .ok (.aload_n 1, 1) := by decide +kernel
theorem dX5_standBehind_10 : decode cX5_standBehind 10 = .ok (.getfield 19, 3) := by decide +kernel
theorem dX5_standBehind_13 : decode cX5_standBehind 13 = .ok (.iconst 1, 1) := by decide +kernel
theorem dX5_standBehind_14 : decode cX5_standBehind 14 = .ok (.iadd, 1) := by decide +kernel
theorem dX5_standBehind_15 : decode cX5_standBehind 15 = .ok (.invokestatic 22, 3) := by decide +kernel
theorem dX5_standBehind_18 : decode cX5_standBehind 18 = .ok (.putfield 19, 3) := by decide +kernel
theorem dX5_standBehind_21 : decode cX5_standBehind 21 = .ok (.aload_n 0, 1) := by decide +kernel
theorem dX5_standBehind_22 : decode cX5_standBehind 22 = .ok (.dup, 1) := by decide +kernel
theorem dX5_standBehind_23 : decode cX5_standBehind 23 = .ok (.getfield 28, 3) := by decide +kernel
theorem dX5_standBehind_26 : decode cX5_standBehind 26 = .ok (.aload_n 1, 1) := by decide +kernel
theorem dX5_standBehind_27 : decode cX5_standBehind 27 = .ok (.getfield 28, 3) := by decide +kernel
theorem dX5_standBehind_30 : decode cX5_standBehind 30 = .ok (.iconst 1, 1) := by decide +kernel
theorem dX5_standBehind_31 : decode cX5_standBehind 31 = .ok (.iload_n 2, 1) := by decide +kernel
theorem dX5_standBehind_32 : decode cX5_standBehind 32 = .ok (.ishl, 1) := by decide +kernel
theorem dX5_standBehind_33 : decode cX5_standBehind 33 = .ok (.ior, 1) := by decide +kernel
theorem dX5_standBehind_34 : decode cX5_standBehind 34 = .ok (.ior, 1) := by decide +kernel
theorem dX5_standBehind_35 : decode cX5_standBehind 35 = .ok (.putfield 28, 3) := by decide +kernel
theorem dX10_planOf_0 : decode cX10_planOf 0 = .ok (.aload_n 0, 1) := by decide +kernel
theorem dX10_planOf_1 : decode cX10_planOf 1 = .ok (.getfield 12, 3) := by decide +kernel
theorem dX10_planOf_4 : decode cX10_planOf 4 = .ok (.iload_n 1, 1) := by decide +kernel
theorem dX10_planOf_5 : decode cX10_planOf 5 = .ok (.invokevirtual 270, 3) := by decide +kernel
theorem dX10_planOf_8 : decode cX10_planOf 8 = .ok (.astore_n 2, 1) := by decide +kernel
theorem dX10_planOf_9 : decode cX10_planOf 9 = .ok (.aload_n 2, 1) := by decide +kernel
theorem dX10_planOf_10 : decode cX10_planOf 10 = .ok (.ifnonnull 7, 3) := by decide +kernel
theorem dX10_planOf_13 : decode cX10_planOf 13 = .ok (.aconst_null, 1) := by decide +kernel
theorem dX10_planOf_14 : decode cX10_planOf 14 = .ok (.goto 7, 3) := by decide +kernel
theorem dX10_planOf_21 : decode cX10_planOf 21 = .ok (.areturn, 1) := by decide +kernel
theorem dX10_planOf_17 : decode cX10_planOf 17 = .ok (.aload_n 2, 1) := by decide +kernel
theorem dX10_planOf_18 : decode cX10_planOf 18 = .ok (.getfield 48, 3) := by decide +kernel
theorem dX10_wire_0 : decode cX10_wire 0 = .ok (.aload_n 0, 1) := by decide +kernel
theorem dX10_wire_1 : decode cX10_wire 1 = .ok (.getfield 12, 3) := by decide +kernel
theorem dX10_wire_4 : decode cX10_wire 4 = .ok (.invokevirtual 88, 3) := by decide +kernel
theorem dX10_wire_7 : decode cX10_wire 7 = .ok (.istore_n 2, 1) := by decide +kernel
theorem dX10_wire_8 : decode cX10_wire 8 = .ok (.aload_n 1, 1) := by decide +kernel
theorem dX10_wire_9 : decode cX10_wire 9 = .ok (.aload_n 0, 1) := by decide +kernel
theorem dX10_wire_10 : decode cX10_wire 10 = .ok (.aload_n 1, 1) := by decide +kernel
theorem dX10_wire_11 : decode cX10_wire 11 = .ok (.getfield 365, 3) := by decide +kernel
theorem dX10_wire_14 : decode cX10_wire 14 = .ok (.invokevirtual 368, 3) := by decide +kernel
theorem dX10_wire_17 : decode cX10_wire 17 = .ok (.aload_n 1, 1) := by decide +kernel
theorem dX10_wire_18 : decode cX10_wire 18 = .ok (.getfield 365, 3) := by decide +kernel
theorem dX10_wire_21 : decode cX10_wire 21 = .ok (.invokevirtual 372, 3) := by decide +kernel
theorem dX10_wire_24 : decode cX10_wire 24 = .ok (.aload_n 1, 1) := by decide +kernel
theorem dX10_wire_25 : decode cX10_wire 25 = .ok (.aload_n 0, 1) := by decide +kernel
theorem dX10_wire_26 : decode cX10_wire 26 = .ok (.aload_n 1, 1) := by decide +kernel
theorem dX10_wire_27 : decode cX10_wire 27 = .ok (.getfield 376, 3) := by decide +kernel
theorem dX10_wire_30 : decode cX10_wire 30 = .ok (.invokevirtual 368, 3) := by decide +kernel
theorem dX10_wire_33 : decode cX10_wire 33 = .ok (.aload_n 1, 1) := by decide +kernel
theorem dX10_wire_34 : decode cX10_wire 34 = .ok (.getfield 376, 3) := by decide +kernel
theorem dX10_wire_37 : decode cX10_wire 37 = .ok (.invokevirtual 372, 3) := by decide +kernel
theorem dX10_wire_40 : decode cX10_wire 40 = .ok (.new 110, 3) := by decide +kernel
theorem dX10_wire_43 : decode cX10_wire 43 = .ok (.dup, 1) := by decide +kernel
theorem dX10_wire_44 : decode cX10_wire 44 = .ok (.invokespecial 379, 3) := by decide +kernel
theorem dX10_wire_47 : decode cX10_wire 47 = .ok (.astore_n 3, 1) := by decide +kernel
theorem dX10_wire_48 : decode cX10_wire 48 = .ok (.aload_n 0, 1) := by decide +kernel
theorem dX10_wire_49 : decode cX10_wire 49 = .ok (.getfield 12, 3) := by decide +kernel
theorem dX10_wire_52 : decode cX10_wire 52 = .ok (.aload_n 1, 1) := by decide +kernel
theorem dX10_wire_53 : decode cX10_wire 53 = .ok (.aload_n 3, 1) := by decide +kernel
theorem dX10_wire_54 : decode cX10_wire 54 = .ok (.invokevirtual 380, 3) := by decide +kernel
theorem dX10_wire_57 : decode cX10_wire 57 = .ok (.aload_n 0, 1) := by decide +kernel
theorem dX10_wire_58 : decode cX10_wire 58 = .ok (.getfield 18, 3) := by decide +kernel
theorem dX10_wire_61 : decode cX10_wire 61 = .ok (.aload_n 1, 1) := by decide +kernel
theorem dX10_wire_62 : decode cX10_wire 62 = .ok (.aload_n 3, 1) := by decide +kernel
theorem dX10_wire_63 : decode cX10_wire 63 = .ok (.invokevirtual 380, 3) := by decide +kernel
theorem dX10_wire_66 : decode cX10_wire 66 = .ok (.iload_n 2, 1) := by decide +kernel
theorem dX10_wire_67 : decode cX10_wire 67 = .ok (.ireturn, 1) := by decide +kernel
