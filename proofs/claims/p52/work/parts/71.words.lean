theorem wq406 : (Jvm.Cond.instantiable "WeirStream$Stage" (12 : Nat)) ∈ lw_all := lw_in (lw_tb (List.mem_of_getElem? (i := 406) (by decide +kernel))) rfl
theorem wq924 : (Jvm.Cond.methodLink "WeirStream$Flow" (44 : Nat) ({ cls := "WeirStream$Flow", name := "channelFrom", desc := "(I)LWeirStream$Channel;" } : Jvm.MethodName)) ∈ lw_all := lw_in (lw_tb (List.mem_of_getElem? (i := 924) (by decide +kernel))) rfl
theorem wq926 : (Jvm.Cond.instanceMethod ({ cls := "WeirStream$Flow", name := "channelFrom", desc := "(I)LWeirStream$Channel;" } : Jvm.MethodName)) ∈ lw_all := lw_in (lw_tb (List.mem_of_getElem? (i := 926) (by decide +kernel))) rfl
theorem wq927 : (Jvm.Cond.code ({ cls := "WeirStream$Flow", name := "channelFrom", desc := "(I)LWeirStream$Channel;" } : Jvm.MethodName) prog_4_method_5_code (3 : Nat) (Option.some (Jvm.ClassFile.FieldType.object "WeirStream$Channel"))) ∈ lw_all := lw_in (lw_tb (List.mem_of_getElem? (i := 927) (by decide +kernel))) rfl
theorem wq928 : (Jvm.Cond.methodLink "WeirStream$Flow" (66 : Nat) ({ cls := "WeirStream$Outlet", name := "open", desc := "()LWeirStream$Channel;" } : Jvm.MethodName)) ∈ lw_all := lw_in (lw_tb (List.mem_of_getElem? (i := 928) (by decide +kernel))) rfl
theorem wq929 : (Jvm.Cond.instanceMethod ({ cls := "WeirStream$Outlet", name := "open", desc := "()LWeirStream$Channel;" } : Jvm.MethodName)) ∈ lw_all := lw_in (lw_tb (List.mem_of_getElem? (i := 929) (by decide +kernel))) rfl
theorem wq930 : (Jvm.Cond.selects "WeirStream$Outlet" ({ cls := "WeirStream$Outlet", name := "open", desc := "()LWeirStream$Channel;" } : Jvm.MethodName) ({ cls := "WeirStream$Outlet", name := "open", desc := "()LWeirStream$Channel;" } : Jvm.MethodName)) ∈ lw_all := lw_in (lw_tb (List.mem_of_getElem? (i := 930) (by decide +kernel))) rfl
theorem wq931 : (Jvm.Cond.code ({ cls := "WeirStream$Outlet", name := "open", desc := "()LWeirStream$Channel;" } : Jvm.MethodName) prog_6_method_2_code (2 : Nat) (Option.some (Jvm.ClassFile.FieldType.object "WeirStream$Channel"))) ∈ lw_all := lw_in (lw_tb (List.mem_of_getElem? (i := 931) (by decide +kernel))) rfl
theorem wq932 : (Jvm.Cond.instantiable "WeirStream$Channel" (3 : Nat)) ∈ lw_all := lw_in (lw_tb (List.mem_of_getElem? (i := 932) (by decide +kernel))) rfl
theorem wq933 : (Jvm.Cond.methodLink "WeirStream$Outlet" (25 : Nat) ({ cls := "WeirStream$Channel", name := "<init>", desc := "(LWeirStream$Row;)V" } : Jvm.MethodName)) ∈ lw_all := lw_in (lw_tb (List.mem_of_getElem? (i := 933) (by decide +kernel))) rfl
theorem wq934 : (Jvm.Cond.instanceMethod ({ cls := "WeirStream$Channel", name := "<init>", desc := "(LWeirStream$Row;)V" } : Jvm.MethodName)) ∈ lw_all := lw_in (lw_tb (List.mem_of_getElem? (i := 934) (by decide +kernel))) rfl
theorem wq935 : (Jvm.Cond.code ({ cls := "WeirStream$Channel", name := "<init>", desc := "(LWeirStream$Row;)V" } : Jvm.MethodName) prog_3_method_1_code (2 : Nat) (Option.none : Option Jvm.ClassFile.FieldType)) ∈ lw_all := lw_in (lw_tb (List.mem_of_getElem? (i := 935) (by decide +kernel))) rfl
theorem wq951 : (Jvm.Cond.methodLink "WeirStream$Outlet" (28 : Nat) ({ cls := "java/util/ArrayList", name := "add", desc := "(Ljava/lang/Object;)Z" } : Jvm.MethodName)) ∈ lw_all := lw_in (lw_tb (List.mem_of_getElem? (i := 951) (by decide +kernel))) rfl
theorem wq952 : (Jvm.Cond.instanceMethod ({ cls := "java/util/ArrayList", name := "add", desc := "(Ljava/lang/Object;)Z" } : Jvm.MethodName)) ∈ lw_all := lw_in (lw_tb (List.mem_of_getElem? (i := 952) (by decide +kernel))) rfl
theorem wq953 : (Jvm.Cond.selects "java/util/ArrayList" ({ cls := "java/util/ArrayList", name := "add", desc := "(Ljava/lang/Object;)Z" } : Jvm.MethodName) ({ cls := "java/util/ArrayList", name := "add", desc := "(Ljava/lang/Object;)Z" } : Jvm.MethodName)) ∈ lw_all := lw_in (lw_tb (List.mem_of_getElem? (i := 953) (by decide +kernel))) rfl
theorem wq954 : (Jvm.Cond.code ({ cls := "java/util/ArrayList", name := "add", desc := "(Ljava/lang/Object;)Z" } : Jvm.MethodName) prog_30_method_25_code (2 : Nat) (Option.some Jvm.ClassFile.FieldType.boolean)) ∈ lw_all := lw_in (lw_tb (List.mem_of_getElem? (i := 954) (by decide +kernel))) rfl
theorem wq1003 : (Jvm.Cond.methodLink "WeirStream$Flow" (51 : Nat) ({ cls := "WeirStream$Stage", name := "<init>", desc := "(LWeirStream$Plan;LWeirStream$Row;LWeirStream$Channel;LWeirStream$Channel;Z)V" } : Jvm.MethodName)) ∈ lw_all := lw_in (lw_tb (List.mem_of_getElem? (i := 1003) (by decide +kernel))) rfl
theorem wq1004 : (Jvm.Cond.instanceMethod ({ cls := "WeirStream$Stage", name := "<init>", desc := "(LWeirStream$Plan;LWeirStream$Row;LWeirStream$Channel;LWeirStream$Channel;Z)V" } : Jvm.MethodName)) ∈ lw_all := lw_in (lw_tb (List.mem_of_getElem? (i := 1004) (by decide +kernel))) rfl
theorem wq1005 : (Jvm.Cond.code ({ cls := "WeirStream$Stage", name := "<init>", desc := "(LWeirStream$Plan;LWeirStream$Row;LWeirStream$Channel;LWeirStream$Channel;Z)V" } : Jvm.MethodName) prog_10_method_1_code (6 : Nat) (Option.none : Option Jvm.ClassFile.FieldType)) ∈ lw_all := lw_in (lw_tb (List.mem_of_getElem? (i := 1005) (by decide +kernel))) rfl
theorem wq1154 : (Jvm.Cond.methodLink "WeirStream$Flow" (54 : Nat) ({ cls := "java/util/ArrayList", name := "add", desc := "(Ljava/lang/Object;)Z" } : Jvm.MethodName)) ∈ lw_all := lw_in (lw_tb (List.mem_of_getElem? (i := 1154) (by decide +kernel))) rfl
theorem wr835 : (Jvm.Cond.fieldLinkNest "WeirStream$Flow" (39 : Nat) "WeirStream$Plan" "first" "I" "WeirStream") ∈ lw_tbl := lw_tb (List.mem_of_getElem? (i := 835) (by decide +kernel))
theorem wr838 : (Jvm.Cond.fieldLinkNest "WeirStream$Flow" (48 : Nat) "WeirStream$Plan" "second" "I" "WeirStream") ∈ lw_tbl := lw_tb (List.mem_of_getElem? (i := 838) (by decide +kernel))
theorem ws28 : Cond.selects "WeirStream$Flow" ⟨"WeirStream$Flow", "channelFrom", "(I)LWeirStream$Channel;"⟩ ⟨"WeirStream$Flow", "channelFrom", "(I)LWeirStream$Channel;"⟩ ∈ lw_all := lw_in (lw_ps (List.mem_of_getElem? (i := 28) (by decide +kernel))) rfl
theorem dX4_open_0 : decode cX4_open 0 = .ok (.new 23, 3) := by decide +kernel
theorem dX4_open_3 : decode cX4_open 3 = .ok (.dup, 1) := by decide +kernel
theorem dX4_open_4 : decode cX4_open 4 = .ok (.aload_n 0, 1) := by decide +kernel
theorem dX4_open_5 : decode cX4_open 5 = .ok (.getfield 10, 3) := by decide +kernel
theorem dX4_open_8 : decode cX4_open 8 = .ok (.invokespecial 25, 3) := by decide +kernel
theorem dX4_open_11 : decode cX4_open 11 = .ok (.astore_n 1, 1) := by decide +kernel
theorem dX4_open_12 : decode cX4_open 12 = .ok (.aload_n 0, 1) := by decide +kernel
theorem dX4_open_13 : decode cX4_open 13 = .ok (.getfield 19, 3) := by decide +kernel
theorem dX4_open_16 : decode cX4_open 16 = .ok (.aload_n 1, 1) := by decide +kernel
theorem dX4_open_17 : decode cX4_open 17 = .ok (.invokevirtual 28, 3) := by decide +kernel
theorem dX4_open_20 : decode cX4_open 20 = .ok (.pop, 1) := by decide +kernel
theorem dX4_open_21 : decode cX4_open 21 = .ok (.aload_n 1, 1) := by decide +kernel
theorem dX4_open_22 : decode cX4_open 22 = .ok (.areturn, 1) := by decide +kernel
theorem dX2_channelFrom_0 : decode cX2_channelFrom 0 = .ok (.aload_n 0, 1) := by decide +kernel
theorem dX2_channelFrom_1 : decode cX2_channelFrom 1 = .ok (.iload_n 1, 1) := by decide +kernel
theorem dX2_channelFrom_2 : decode cX2_channelFrom 2 = .ok (.invokevirtual 58, 3) := by decide +kernel
theorem dX2_channelFrom_5 : decode cX2_channelFrom 5 = .ok (.astore_n 2, 1) := by decide +kernel
theorem dX2_channelFrom_6 : decode cX2_channelFrom 6 = .ok (.aload_n 2, 1) := by decide +kernel
theorem dX2_channelFrom_7 : decode cX2_channelFrom 7 = .ok (.ifnonnull 7, 3) := by decide +kernel
theorem dX2_channelFrom_10 : decode cX2_channelFrom 10 = .ok (.aconst_null, 1) := by decide +kernel
theorem dX2_channelFrom_11 : decode cX2_channelFrom 11 = .ok (.goto 10, 3) := by decide +kernel
theorem dX2_channelFrom_21 : decode cX2_channelFrom 21 = .ok (.areturn, 1) := by decide +kernel
theorem dX2_channelFrom_14 : decode cX2_channelFrom 14 = .ok (.aload_n 2, 1) := by decide +kernel
theorem dX2_channelFrom_15 : decode cX2_channelFrom 15 = .ok (.getfield 62, 3) := by decide +kernel
theorem dX2_channelFrom_18 : decode cX2_channelFrom 18 = .ok (.invokevirtual 66, 3) := by decide +kernel
theorem dX2_add_0 : decode cX2_add 0 = .ok (.aload_n 0, 1) := by decide +kernel
theorem dX2_add_1 : decode cX2_add 1 = .ok (.getfield 12, 3) := by decide +kernel
theorem dX2_add_4 : decode cX2_add 4 = .ok (.new 37, 3) := by decide +kernel
theorem dX2_add_7 : decode cX2_add 7 = .ok (.dup, 1) := by decide +kernel
theorem dX2_add_8 : decode cX2_add 8 = .ok (.aload_n 1, 1) := by decide +kernel
theorem dX2_add_9 : decode cX2_add 9 = .ok (.aload_n 2, 1) := by decide +kernel
theorem dX2_add_10 : decode cX2_add 10 = .ok (.aload_n 0, 1) := by decide +kernel
theorem dX2_add_11 : decode cX2_add 11 = .ok (.aload_n 1, 1) := by decide +kernel
theorem dX2_add_12 : decode cX2_add 12 = .ok (.getfield 39, 3) := by decide +kernel
theorem dX2_add_15 : decode cX2_add 15 = .ok (.invokevirtual 44, 3) := by decide +kernel
theorem dX2_add_18 : decode cX2_add 18 = .ok (.aload_n 0, 1) := by decide +kernel
theorem dX2_add_19 : decode cX2_add 19 = .ok (.aload_n 1, 1) := by decide +kernel
theorem dX2_add_20 : decode cX2_add 20 = .ok (.getfield 48, 3) := by decide +kernel
theorem dX2_add_23 : decode cX2_add 23 = .ok (.invokevirtual 44, 3) := by decide +kernel
theorem dX2_add_26 : decode cX2_add 26 = .ok (.aload_n 0, 1) := by decide +kernel
theorem dX2_add_27 : decode cX2_add 27 = .ok (.getfield 25, 3) := by decide +kernel
theorem dX2_add_30 : decode cX2_add 30 = .ok (.invokespecial 51, 3) := by decide +kernel
theorem dX2_add_33 : decode cX2_add 33 = .ok (.invokevirtual 54, 3) := by decide +kernel
theorem dX2_add_36 : decode cX2_add 36 = .ok (.pop, 1) := by decide +kernel
theorem dX2_add_37 : decode cX2_add 37 = .ok (.return_, 1) := by decide +kernel
