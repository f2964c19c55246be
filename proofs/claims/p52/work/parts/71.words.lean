theorem wq932 : (Jvm.Cond.instantiable "WeirStream$Channel" (3 : Nat)) ∈ lw_all := lw_in (lw_tb (List.mem_of_getElem? (i := 932) (by decide +kernel))) rfl
theorem wq933 : (Jvm.Cond.methodLink "WeirStream$Outlet" (25 : Nat) ({ cls := "WeirStream$Channel", name := "<init>", desc := "(LWeirStream$Row;)V" } : Jvm.MethodName)) ∈ lw_all := lw_in (lw_tb (List.mem_of_getElem? (i := 933) (by decide +kernel))) rfl
theorem wq934 : (Jvm.Cond.instanceMethod ({ cls := "WeirStream$Channel", name := "<init>", desc := "(LWeirStream$Row;)V" } : Jvm.MethodName)) ∈ lw_all := lw_in (lw_tb (List.mem_of_getElem? (i := 934) (by decide +kernel))) rfl
theorem wq935 : (Jvm.Cond.code ({ cls := "WeirStream$Channel", name := "<init>", desc := "(LWeirStream$Row;)V" } : Jvm.MethodName) prog_3_method_1_code (2 : Nat) (Option.none : Option Jvm.ClassFile.FieldType)) ∈ lw_all := lw_in (lw_tb (List.mem_of_getElem? (i := 935) (by decide +kernel))) rfl
theorem wq951 : (Jvm.Cond.methodLink "WeirStream$Outlet" (28 : Nat) ({ cls := "java/util/ArrayList", name := "add", desc := "(Ljava/lang/Object;)Z" } : Jvm.MethodName)) ∈ lw_all := lw_in (lw_tb (List.mem_of_getElem? (i := 951) (by decide +kernel))) rfl
theorem wq952 : (Jvm.Cond.instanceMethod ({ cls := "java/util/ArrayList", name := "add", desc := "(Ljava/lang/Object;)Z" } : Jvm.MethodName)) ∈ lw_all := lw_in (lw_tb (List.mem_of_getElem? (i := 952) (by decide +kernel))) rfl
theorem wq953 : (Jvm.Cond.selects "java/util/ArrayList" ({ cls := "java/util/ArrayList", name := "add", desc := "(Ljava/lang/Object;)Z" } : Jvm.MethodName) ({ cls := "java/util/ArrayList", name := "add", desc := "(Ljava/lang/Object;)Z" } : Jvm.MethodName)) ∈ lw_all := lw_in (lw_tb (List.mem_of_getElem? (i := 953) (by decide +kernel))) rfl
theorem wq954 : (Jvm.Cond.code ({ cls := "java/util/ArrayList", name := "add", desc := "(Ljava/lang/Object;)Z" } : Jvm.MethodName) prog_30_method_25_code (2 : Nat) (Option.some Jvm.ClassFile.FieldType.boolean)) ∈ lw_all := lw_in (lw_tb (List.mem_of_getElem? (i := 954) (by decide +kernel))) rfl
theorem dX4_open_0 : decode cX4_open 0 = .ok (.new 23, 3) := by decide +kernel
theorem dX4_open_3 : decode cX4_open 3 = .ok (.dup, 1) := by decide +kernel
theorem dX4_open_4 : decode cX4_open 4 = .ok (.aload_n 0, 1) := by decide +kernel
theorem dX4_open_5 : decode cX4_open 5 = .ok (.getfield 10, 3) := by decide +kernel
theorem dX4_open_8 : decode cX4_open 8 = .ok (.invokespecial 25, 3) := by decide +kernel
theorem dX4_open_11 : decode cX4_open 11 = .ok (.astore_n 1, 1) := by decide +kernel
theorem dX4_open_12 : decode cX4_open 12 = .ok (.aload_n 0, 1) := by decide +kernel
theorem dX4_open_13 : decode cX4_open 13 = .ok (.getfield 19, 3) := by decide +kernel
theorem dX4_open_16 : decode cX4_open 16 = .ok (.aload_n 1, 1) := by decide +kernel
theorem dX4_open_17 : decode cX4_open 17 = .ok (.invokevirtual 28, 3) := by decide +kernel
theorem dX4_open_20 : decode cX4_open 20 = .ok (.pop, 1) := by decide +kernel
theorem dX4_open_21 : decode cX4_open 21 = .ok (.aload_n 1, 1) := by decide +kernel
theorem dX4_open_22 : decode cX4_open 22 = .ok (.areturn, 1) := by decide +kernel
