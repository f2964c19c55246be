theorem wq67 : (Jvm.Cond.fieldLink "WeirStream$Flow" (25 : Nat) "WeirStream$Flow" "isTrial" "Z") ∈ lw_all := lw_in (lw_tb (List.mem_of_getElem? (i := 67) (by decide +kernel))) rfl
theorem wq72 : (Jvm.Cond.fieldLink "WeirStream$Flow" (190 : Nat) "WeirStream$Flow" "begunCount" "I") ∈ lw_all := lw_in (lw_tb (List.mem_of_getElem? (i := 72) (by decide +kernel))) rfl
theorem wq73 : (Jvm.Cond.fieldLink "WeirStream$Flow" (184 : Nat) "WeirStream$Flow" "begunNumber" "I") ∈ lw_all := lw_in (lw_tb (List.mem_of_getElem? (i := 73) (by decide +kernel))) rfl
theorem wq75 : (Jvm.Cond.fieldLink "WeirStream$Flow" (187 : Nat) "WeirStream$Flow" "completeNumber" "I") ∈ lw_all := lw_in (lw_tb (List.mem_of_getElem? (i := 75) (by decide +kernel))) rfl
theorem wq77 : (Jvm.Cond.fieldLink "WeirStream$Flow" (175 : Nat) "WeirStream$Flow" "unsaved" "I") ∈ lw_all := lw_in (lw_tb (List.mem_of_getElem? (i := 77) (by decide +kernel))) rfl
theorem wq317 : (Jvm.Cond.methodLink "WeirStream$Flow" (89 : Nat) ({ cls := "WeirStream$Outlet", name := "forgetGiven", desc := "()V" } : Jvm.MethodName)) ∈ lw_all := lw_in (lw_tb (List.mem_of_getElem? (i := 317) (by decide +kernel))) rfl
theorem wq318 : (Jvm.Cond.instanceMethod ({ cls := "WeirStream$Outlet", name := "forgetGiven", desc := "()V" } : Jvm.MethodName)) ∈ lw_all := lw_in (lw_tb (List.mem_of_getElem? (i := 318) (by decide +kernel))) rfl
theorem wq319 : (Jvm.Cond.selects "WeirStream$Outlet" ({ cls := "WeirStream$Outlet", name := "forgetGiven", desc := "()V" } : Jvm.MethodName) ({ cls := "WeirStream$Outlet", name := "forgetGiven", desc := "()V" } : Jvm.MethodName)) ∈ lw_all := lw_in (lw_tb (List.mem_of_getElem? (i := 319) (by decide +kernel))) rfl
theorem wq320 : (Jvm.Cond.code ({ cls := "WeirStream$Outlet", name := "forgetGiven", desc := "()V" } : Jvm.MethodName) prog_6_method_5_code (3 : Nat) (Option.none : Option Jvm.ClassFile.FieldType)) ∈ lw_all := lw_in (lw_tb (List.mem_of_getElem? (i := 320) (by decide +kernel))) rfl
theorem wq328 : (Jvm.Cond.methodLink "WeirStream$Flow" (102 : Nat) ({ cls := "WeirStream$Flow", name := "passBarrier", desc := "(LWeirStream$Stage;)V" } : Jvm.MethodName)) ∈ lw_all := lw_in (lw_tb (List.mem_of_getElem? (i := 328) (by decide +kernel))) rfl
theorem wq330 : (Jvm.Cond.instanceMethod ({ cls := "WeirStream$Flow", name := "passBarrier", desc := "(LWeirStream$Stage;)V" } : Jvm.MethodName)) ∈ lw_all := lw_in (lw_tb (List.mem_of_getElem? (i := 330) (by decide +kernel))) rfl
theorem wq331 : (Jvm.Cond.code ({ cls := "WeirStream$Flow", name := "passBarrier", desc := "(LWeirStream$Stage;)V" } : Jvm.MethodName) prog_4_method_11_code (2 : Nat) (Option.none : Option Jvm.ClassFile.FieldType)) ∈ lw_all := lw_in (lw_tb (List.mem_of_getElem? (i := 331) (by decide +kernel))) rfl
theorem wq332 : (Jvm.Cond.methodLink "WeirStream$Flow" (161 : Nat) ({ cls := "WeirStream$Item", name := "barrier", desc := "()J" } : Jvm.MethodName)) ∈ lw_all := lw_in (lw_tb (List.mem_of_getElem? (i := 332) (by decide +kernel))) rfl
theorem wq333 : (Jvm.Cond.static ({ cls := "WeirStream$Item", name := "barrier", desc := "()J" } : Jvm.MethodName)) ∈ lw_all := lw_in (lw_tb (List.mem_of_getElem? (i := 333) (by decide +kernel))) rfl
theorem wq334 : (Jvm.Cond.code ({ cls := "WeirStream$Item", name := "barrier", desc := "()J" } : Jvm.MethodName) prog_5_method_4_code (0 : Nat) (Option.some Jvm.ClassFile.FieldType.long)) ∈ lw_all := lw_in (lw_tb (List.mem_of_getElem? (i := 334) (by decide +kernel))) rfl
theorem wq336 : (Jvm.Cond.methodLink "WeirStream$Flow" (164 : Nat) ({ cls := "WeirStream$Stage", name := "emit", desc := "(J)V" } : Jvm.MethodName)) ∈ lw_all := lw_in (lw_tb (List.mem_of_getElem? (i := 336) (by decide +kernel))) rfl
theorem wq361 : (Jvm.Cond.methodLink "WeirStream$Flow" (171 : Nat) ({ cls := "WeirStream$State", name := "become", desc := "(LWeirStream$State;)V" } : Jvm.MethodName)) ∈ lw_all := lw_in (lw_tb (List.mem_of_getElem? (i := 361) (by decide +kernel))) rfl
theorem wq362 : (Jvm.Cond.instanceMethod ({ cls := "WeirStream$State", name := "become", desc := "(LWeirStream$State;)V" } : Jvm.MethodName)) ∈ lw_all := lw_in (lw_tb (List.mem_of_getElem? (i := 362) (by decide +kernel))) rfl
theorem wq363 : (Jvm.Cond.selects "WeirStream$State" ({ cls := "WeirStream$State", name := "become", desc := "(LWeirStream$State;)V" } : Jvm.MethodName) ({ cls := "WeirStream$State", name := "become", desc := "(LWeirStream$State;)V" } : Jvm.MethodName)) ∈ lw_all := lw_in (lw_tb (List.mem_of_getElem? (i := 363) (by decide +kernel))) rfl
theorem wq364 : (Jvm.Cond.code ({ cls := "WeirStream$State", name := "become", desc := "(LWeirStream$State;)V" } : Jvm.MethodName) prog_11_method_3_code (2 : Nat) (Option.none : Option Jvm.ClassFile.FieldType)) ∈ lw_all := lw_in (lw_tb (List.mem_of_getElem? (i := 364) (by decide +kernel))) rfl
theorem wq378 : (Jvm.Cond.methodLink "WeirStream$Flow" (178 : Nat) ({ cls := "WeirStream$Flow", name := "completeCheckpoint", desc := "()V" } : Jvm.MethodName)) ∈ lw_all := lw_in (lw_tb (List.mem_of_getElem? (i := 378) (by decide +kernel))) rfl
theorem wq380 : (Jvm.Cond.instanceMethod ({ cls := "WeirStream$Flow", name := "completeCheckpoint", desc := "()V" } : Jvm.MethodName)) ∈ lw_all := lw_in (lw_tb (List.mem_of_getElem? (i := 380) (by decide +kernel))) rfl
theorem wq381 : (Jvm.Cond.code ({ cls := "WeirStream$Flow", name := "completeCheckpoint", desc := "()V" } : Jvm.MethodName) prog_4_method_12_code (2 : Nat) (Option.none : Option Jvm.ClassFile.FieldType)) ∈ lw_all := lw_in (lw_tb (List.mem_of_getElem? (i := 381) (by decide +kernel))) rfl
theorem wq382 : (Jvm.Cond.methodLink "WeirStream$Flow" (181 : Nat) ({ cls := "WeirStream$Stage", name := "adoptSaved", desc := "()V" } : Jvm.MethodName)) ∈ lw_all := lw_in (lw_tb (List.mem_of_getElem? (i := 382) (by decide +kernel))) rfl
theorem wq383 : (Jvm.Cond.instanceMethod ({ cls := "WeirStream$Stage", name := "adoptSaved", desc := "()V" } : Jvm.MethodName)) ∈ lw_all := lw_in (lw_tb (List.mem_of_getElem? (i := 383) (by decide +kernel))) rfl
theorem wq384 : (Jvm.Cond.selects "WeirStream$Stage" ({ cls := "WeirStream$Stage", name := "adoptSaved", desc := "()V" } : Jvm.MethodName) ({ cls := "WeirStream$Stage", name := "adoptSaved", desc := "()V" } : Jvm.MethodName)) ∈ lw_all := lw_in (lw_tb (List.mem_of_getElem? (i := 384) (by decide +kernel))) rfl
theorem wq385 : (Jvm.Cond.code ({ cls := "WeirStream$Stage", name := "adoptSaved", desc := "()V" } : Jvm.MethodName) prog_10_method_23_code (2 : Nat) (Option.none : Option Jvm.ClassFile.FieldType)) ∈ lw_all := lw_in (lw_tb (List.mem_of_getElem? (i := 385) (by decide +kernel))) rfl
theorem wq386 : (Jvm.Cond.methodLink "WeirStream$Flow" (106 : Nat) ({ cls := "WeirStream$Stage", name := "read", desc := "()I" } : Jvm.MethodName)) ∈ lw_all := lw_in (lw_tb (List.mem_of_getElem? (i := 386) (by decide +kernel))) rfl
theorem wq387 : (Jvm.Cond.instanceMethod ({ cls := "WeirStream$Stage", name := "read", desc := "()I" } : Jvm.MethodName)) ∈ lw_all := lw_in (lw_tb (List.mem_of_getElem? (i := 387) (by decide +kernel))) rfl
theorem wq388 : (Jvm.Cond.selects "WeirStream$Stage" ({ cls := "WeirStream$Stage", name := "read", desc := "()I" } : Jvm.MethodName) ({ cls := "WeirStream$Stage", name := "read", desc := "()I" } : Jvm.MethodName)) ∈ lw_all := lw_in (lw_tb (List.mem_of_getElem? (i := 388) (by decide +kernel))) rfl
theorem wq389 : (Jvm.Cond.code ({ cls := "WeirStream$Stage", name := "read", desc := "()I" } : Jvm.MethodName) prog_10_method_7_code (3 : Nat) (Option.some Jvm.ClassFile.FieldType.int)) ∈ lw_all := lw_in (lw_tb (List.mem_of_getElem? (i := 389) (by decide +kernel))) rfl
theorem wq399 : (Jvm.Cond.methodLink "WeirStream$Flow" (109 : Nat) ({ cls := "WeirStream$Stage", name := "raiseMark", desc := "(I)V" } : Jvm.MethodName)) ∈ lw_all := lw_in (lw_tb (List.mem_of_getElem? (i := 399) (by decide +kernel))) rfl
theorem wq400 : (Jvm.Cond.instanceMethod ({ cls := "WeirStream$Stage", name := "raiseMark", desc := "(I)V" } : Jvm.MethodName)) ∈ lw_all := lw_in (lw_tb (List.mem_of_getElem? (i := 400) (by decide +kernel))) rfl
theorem wq401 : (Jvm.Cond.selects "WeirStream$Stage" ({ cls := "WeirStream$Stage", name := "raiseMark", desc := "(I)V" } : Jvm.MethodName) ({ cls := "WeirStream$Stage", name := "raiseMark", desc := "(I)V" } : Jvm.MethodName)) ∈ lw_all := lw_in (lw_tb (List.mem_of_getElem? (i := 401) (by decide +kernel))) rfl
theorem wq402 : (Jvm.Cond.code ({ cls := "WeirStream$Stage", name := "raiseMark", desc := "(I)V" } : Jvm.MethodName) prog_10_method_20_code (3 : Nat) (Option.none : Option Jvm.ClassFile.FieldType)) ∈ lw_all := lw_in (lw_tb (List.mem_of_getElem? (i := 402) (by decide +kernel))) rfl
theorem wq461 : (Jvm.Cond.methodLink "WeirStream$Flow" (113 : Nat) ({ cls := "WeirStream$Stage", name := "turnsToSecond", desc := "()Z" } : Jvm.MethodName)) ∈ lw_all := lw_in (lw_tb (List.mem_of_getElem? (i := 461) (by decide +kernel))) rfl
theorem wq462 : (Jvm.Cond.instanceMethod ({ cls := "WeirStream$Stage", name := "turnsToSecond", desc := "()Z" } : Jvm.MethodName)) ∈ lw_all := lw_in (lw_tb (List.mem_of_getElem? (i := 462) (by decide +kernel))) rfl
theorem wq463 : (Jvm.Cond.selects "WeirStream$Stage" ({ cls := "WeirStream$Stage", name := "turnsToSecond", desc := "()Z" } : Jvm.MethodName) ({ cls := "WeirStream$Stage", name := "turnsToSecond", desc := "()Z" } : Jvm.MethodName)) ∈ lw_all := lw_in (lw_tb (List.mem_of_getElem? (i := 463) (by decide +kernel))) rfl
theorem wq464 : (Jvm.Cond.code ({ cls := "WeirStream$Stage", name := "turnsToSecond", desc := "()Z" } : Jvm.MethodName) prog_10_method_5_code (1 : Nat) (Option.some Jvm.ClassFile.FieldType.boolean)) ∈ lw_all := lw_in (lw_tb (List.mem_of_getElem? (i := 464) (by decide +kernel))) rfl
theorem wq465 : (Jvm.Cond.methodLink "WeirStream$Flow" (117 : Nat) ({ cls := "WeirStream$Stage", name := "channel", desc := "(Z)LWeirStream$Channel;" } : Jvm.MethodName)) ∈ lw_all := lw_in (lw_tb (List.mem_of_getElem? (i := 465) (by decide +kernel))) rfl
theorem wq469 : (Jvm.Cond.methodLink "WeirStream$Flow" (121 : Nat) ({ cls := "WeirStream$Channel", name := "canGive", desc := "()Z" } : Jvm.MethodName)) ∈ lw_all := lw_in (lw_tb (List.mem_of_getElem? (i := 469) (by decide +kernel))) rfl
theorem wq470 : (Jvm.Cond.methodLink "WeirStream$Flow" (124 : Nat) ({ cls := "WeirStream$Channel", name := "give", desc := "()J" } : Jvm.MethodName)) ∈ lw_all := lw_in (lw_tb (List.mem_of_getElem? (i := 470) (by decide +kernel))) rfl
theorem wq471 : (Jvm.Cond.instanceMethod ({ cls := "WeirStream$Channel", name := "give", desc := "()J" } : Jvm.MethodName)) ∈ lw_all := lw_in (lw_tb (List.mem_of_getElem? (i := 471) (by decide +kernel))) rfl
theorem wq472 : (Jvm.Cond.selects "WeirStream$Channel" ({ cls := "WeirStream$Channel", name := "give", desc := "()J" } : Jvm.MethodName) ({ cls := "WeirStream$Channel", name := "give", desc := "()J" } : Jvm.MethodName)) ∈ lw_all := lw_in (lw_tb (List.mem_of_getElem? (i := 472) (by decide +kernel))) rfl
theorem wq473 : (Jvm.Cond.code ({ cls := "WeirStream$Channel", name := "give", desc := "()J" } : Jvm.MethodName) prog_3_method_4_code (3 : Nat) (Option.some Jvm.ClassFile.FieldType.long)) ∈ lw_all := lw_in (lw_tb (List.mem_of_getElem? (i := 473) (by decide +kernel))) rfl
theorem wq475 : (Jvm.Cond.methodLink "WeirStream$Flow" (137 : Nat) ({ cls := "WeirStream$Item", name := "kind", desc := "(J)I" } : Jvm.MethodName)) ∈ lw_all := lw_in (lw_tb (List.mem_of_getElem? (i := 475) (by decide +kernel))) rfl
theorem wq476 : (Jvm.Cond.methodLink "WeirStream$Flow" (143 : Nat) ({ cls := "WeirStream$Stage", name := "takeEvent", desc := "(JZ)V" } : Jvm.MethodName)) ∈ lw_all := lw_in (lw_tb (List.mem_of_getElem? (i := 476) (by decide +kernel))) rfl
theorem wq477 : (Jvm.Cond.instanceMethod ({ cls := "WeirStream$Stage", name := "takeEvent", desc := "(JZ)V" } : Jvm.MethodName)) ∈ lw_all := lw_in (lw_tb (List.mem_of_getElem? (i := 477) (by decide +kernel))) rfl
theorem wq478 : (Jvm.Cond.selects "WeirStream$Stage" ({ cls := "WeirStream$Stage", name := "takeEvent", desc := "(JZ)V" } : Jvm.MethodName) ({ cls := "WeirStream$Stage", name := "takeEvent", desc := "(JZ)V" } : Jvm.MethodName)) ∈ lw_all := lw_in (lw_tb (List.mem_of_getElem? (i := 478) (by decide +kernel))) rfl
theorem wq479 : (Jvm.Cond.code ({ cls := "WeirStream$Stage", name := "takeEvent", desc := "(JZ)V" } : Jvm.MethodName) prog_10_method_8_code (4 : Nat) (Option.none : Option Jvm.ClassFile.FieldType)) ∈ lw_all := lw_in (lw_tb (List.mem_of_getElem? (i := 479) (by decide +kernel))) rfl
theorem wq578 : (Jvm.Cond.methodLink "WeirStream$Flow" (147 : Nat) ({ cls := "WeirStream$Item", name := "time", desc := "(J)I" } : Jvm.MethodName)) ∈ lw_all := lw_in (lw_tb (List.mem_of_getElem? (i := 578) (by decide +kernel))) rfl
theorem wq579 : (Jvm.Cond.methodLink "WeirStream$Flow" (150 : Nat) ({ cls := "WeirStream$Stage", name := "leastMark", desc := "(IZ)I" } : Jvm.MethodName)) ∈ lw_all := lw_in (lw_tb (List.mem_of_getElem? (i := 579) (by decide +kernel))) rfl
theorem wq580 : (Jvm.Cond.instanceMethod ({ cls := "WeirStream$Stage", name := "leastMark", desc := "(IZ)I" } : Jvm.MethodName)) ∈ lw_all := lw_in (lw_tb (List.mem_of_getElem? (i := 580) (by decide +kernel))) rfl
theorem wq581 : (Jvm.Cond.selects "WeirStream$Stage" ({ cls := "WeirStream$Stage", name := "leastMark", desc := "(IZ)I" } : Jvm.MethodName) ({ cls := "WeirStream$Stage", name := "leastMark", desc := "(IZ)I" } : Jvm.MethodName)) ∈ lw_all := lw_in (lw_tb (List.mem_of_getElem? (i := 581) (by decide +kernel))) rfl
theorem wq582 : (Jvm.Cond.code ({ cls := "WeirStream$Stage", name := "leastMark", desc := "(IZ)I" } : Jvm.MethodName) prog_10_method_19_code (3 : Nat) (Option.some Jvm.ClassFile.FieldType.int)) ∈ lw_all := lw_in (lw_tb (List.mem_of_getElem? (i := 582) (by decide +kernel))) rfl
theorem wq583 : (Jvm.Cond.methodLink "WeirStream$Flow" (154 : Nat) ({ cls := "WeirStream$Flow", name := "takeBarrier", desc := "(LWeirStream$Stage;LWeirStream$Channel;LWeirStream$Channel;)V" } : Jvm.MethodName)) ∈ lw_all := lw_in (lw_tb (List.mem_of_getElem? (i := 583) (by decide +kernel))) rfl
theorem wq585 : (Jvm.Cond.instanceMethod ({ cls := "WeirStream$Flow", name := "takeBarrier", desc := "(LWeirStream$Stage;LWeirStream$Channel;LWeirStream$Channel;)V" } : Jvm.MethodName)) ∈ lw_all := lw_in (lw_tb (List.mem_of_getElem? (i := 585) (by decide +kernel))) rfl
theorem wq586 : (Jvm.Cond.code ({ cls := "WeirStream$Flow", name := "takeBarrier", desc := "(LWeirStream$Stage;LWeirStream$Channel;LWeirStream$Channel;)V" } : Jvm.MethodName) prog_4_method_10_code (4 : Nat) (Option.none : Option Jvm.ClassFile.FieldType)) ∈ lw_all := lw_in (lw_tb (List.mem_of_getElem? (i := 586) (by decide +kernel))) rfl
theorem wq609 : (Jvm.Cond.methodLink "WeirStream$Flow" (193 : Nat) ({ cls := "WeirStream$Stage", name := "goBack", desc := "()V" } : Jvm.MethodName)) ∈ lw_all := lw_in (lw_tb (List.mem_of_getElem? (i := 609) (by decide +kernel))) rfl
theorem wq610 : (Jvm.Cond.instanceMethod ({ cls := "WeirStream$Stage", name := "goBack", desc := "()V" } : Jvm.MethodName)) ∈ lw_all := lw_in (lw_tb (List.mem_of_getElem? (i := 610) (by decide +kernel))) rfl
theorem wq611 : (Jvm.Cond.selects "WeirStream$Stage" ({ cls := "WeirStream$Stage", name := "goBack", desc := "()V" } : Jvm.MethodName) ({ cls := "WeirStream$Stage", name := "goBack", desc := "()V" } : Jvm.MethodName)) ∈ lw_all := lw_in (lw_tb (List.mem_of_getElem? (i := 611) (by decide +kernel))) rfl
theorem wq612 : (Jvm.Cond.code ({ cls := "WeirStream$Stage", name := "goBack", desc := "()V" } : Jvm.MethodName) prog_10_method_24_code (1 : Nat) (Option.none : Option Jvm.ClassFile.FieldType)) ∈ lw_all := lw_in (lw_tb (List.mem_of_getElem? (i := 612) (by decide +kernel))) rfl
theorem wq613 : (Jvm.Cond.methodLink "WeirStream$Stage" (307 : Nat) ({ cls := "WeirStream$State", name := "become", desc := "(LWeirStream$State;)V" } : Jvm.MethodName)) ∈ lw_all := lw_in (lw_tb (List.mem_of_getElem? (i := 613) (by decide +kernel))) rfl
theorem wq614 : (Jvm.Cond.methodLink "WeirStream$Stage" (311 : Nat) ({ cls := "WeirStream$Row", name := "shorten", desc := "(I)V" } : Jvm.MethodName)) ∈ lw_all := lw_in (lw_tb (List.mem_of_getElem? (i := 614) (by decide +kernel))) rfl
theorem wq618 : (Jvm.Cond.methodLink "WeirStream$Stage" (314 : Nat) ({ cls := "WeirStream$Outlet", name := "empty", desc := "()V" } : Jvm.MethodName)) ∈ lw_all := lw_in (lw_tb (List.mem_of_getElem? (i := 618) (by decide +kernel))) rfl
theorem wq619 : (Jvm.Cond.instanceMethod ({ cls := "WeirStream$Outlet", name := "empty", desc := "()V" } : Jvm.MethodName)) ∈ lw_all := lw_in (lw_tb (List.mem_of_getElem? (i := 619) (by decide +kernel))) rfl
theorem wq620 : (Jvm.Cond.selects "WeirStream$Outlet" ({ cls := "WeirStream$Outlet", name := "empty", desc := "()V" } : Jvm.MethodName) ({ cls := "WeirStream$Outlet", name := "empty", desc := "()V" } : Jvm.MethodName)) ∈ lw_all := lw_in (lw_tb (List.mem_of_getElem? (i := 620) (by decide +kernel))) rfl
theorem wq621 : (Jvm.Cond.code ({ cls := "WeirStream$Outlet", name := "empty", desc := "()V" } : Jvm.MethodName) prog_6_method_6_code (3 : Nat) (Option.none : Option Jvm.ClassFile.FieldType)) ∈ lw_all := lw_in (lw_tb (List.mem_of_getElem? (i := 621) (by decide +kernel))) rfl
theorem wq695 : (Jvm.Cond.methodLink "WeirStream$Flow" (196 : Nat) ({ cls := "WeirStream$Stage", name := "become", desc := "(LWeirStream$Stage;)V" } : Jvm.MethodName)) ∈ lw_all := lw_in (lw_tb (List.mem_of_getElem? (i := 695) (by decide +kernel))) rfl
theorem wq696 : (Jvm.Cond.instanceMethod ({ cls := "WeirStream$Stage", name := "become", desc := "(LWeirStream$Stage;)V" } : Jvm.MethodName)) ∈ lw_all := lw_in (lw_tb (List.mem_of_getElem? (i := 696) (by decide +kernel))) rfl
theorem wq697 : (Jvm.Cond.selects "WeirStream$Stage" ({ cls := "WeirStream$Stage", name := "become", desc := "(LWeirStream$Stage;)V" } : Jvm.MethodName) ({ cls := "WeirStream$Stage", name := "become", desc := "(LWeirStream$Stage;)V" } : Jvm.MethodName)) ∈ lw_all := lw_in (lw_tb (List.mem_of_getElem? (i := 697) (by decide +kernel))) rfl
theorem wq698 : (Jvm.Cond.code ({ cls := "WeirStream$Stage", name := "become", desc := "(LWeirStream$Stage;)V" } : Jvm.MethodName) prog_10_method_25_code (2 : Nat) (Option.none : Option Jvm.ClassFile.FieldType)) ∈ lw_all := lw_in (lw_tb (List.mem_of_getElem? (i := 698) (by decide +kernel))) rfl
theorem wq699 : (Jvm.Cond.methodLink "WeirStream$Stage" (317 : Nat) ({ cls := "WeirStream$Outlet", name := "become", desc := "(LWeirStream$Outlet;)V" } : Jvm.MethodName)) ∈ lw_all := lw_in (lw_tb (List.mem_of_getElem? (i := 699) (by decide +kernel))) rfl
theorem wq700 : (Jvm.Cond.instanceMethod ({ cls := "WeirStream$Outlet", name := "become", desc := "(LWeirStream$Outlet;)V" } : Jvm.MethodName)) ∈ lw_all := lw_in (lw_tb (List.mem_of_getElem? (i := 700) (by decide +kernel))) rfl
theorem wq701 : (Jvm.Cond.selects "WeirStream$Outlet" ({ cls := "WeirStream$Outlet", name := "become", desc := "(LWeirStream$Outlet;)V" } : Jvm.MethodName) ({ cls := "WeirStream$Outlet", name := "become", desc := "(LWeirStream$Outlet;)V" } : Jvm.MethodName)) ∈ lw_all := lw_in (lw_tb (List.mem_of_getElem? (i := 701) (by decide +kernel))) rfl
theorem wq702 : (Jvm.Cond.code ({ cls := "WeirStream$Outlet", name := "become", desc := "(LWeirStream$Outlet;)V" } : Jvm.MethodName) prog_6_method_7_code (6 : Nat) (Option.none : Option Jvm.ClassFile.FieldType)) ∈ lw_all := lw_in (lw_tb (List.mem_of_getElem? (i := 702) (by decide +kernel))) rfl
theorem wq1121 : (Jvm.Cond.fieldLink "WeirStream$Stage" (32 : Nat) "WeirStream$Stage" "latest" "LWeirStream$State;") ∈ lw_all := lw_in (lw_tb (List.mem_of_getElem? (i := 1121) (by decide +kernel))) rfl
theorem wq1123 : (Jvm.Cond.fieldLink "WeirStream$Stage" (35 : Nat) "WeirStream$Stage" "coming" "LWeirStream$State;") ∈ lw_all := lw_in (lw_tb (List.mem_of_getElem? (i := 1123) (by decide +kernel))) rfl
theorem wr833 : (Jvm.Cond.fieldLinkNest "WeirStream$Flow" (96 : Nat) "WeirStream$Plan" "sort" "I" "WeirStream") ∈ lw_tbl := lw_tb (List.mem_of_getElem? (i := 833) (by decide +kernel))
theorem wr942 : (Jvm.Cond.fieldLinkNest "WeirStream$Flow" (158 : Nat) "WeirStream$Channel" "isShut" "Z" "WeirStream") ∈ lw_tbl := lw_tb (List.mem_of_getElem? (i := 942) (by decide +kernel))
theorem wr1060 : (Jvm.Cond.fieldLinkNest "WeirStream$Flow" (132 : Nat) "WeirStream$State" "tookSecond" "Z" "WeirStream") ∈ lw_tbl := lw_tb (List.mem_of_getElem? (i := 1060) (by decide +kernel))
theorem wr1105 : (Jvm.Cond.fieldLinkNest "WeirStream$Flow" (92 : Nat) "WeirStream$Stage" "plan" "LWeirStream$Plan;" "WeirStream") ∈ lw_tbl := lw_tb (List.mem_of_getElem? (i := 1105) (by decide +kernel))
theorem wr1119 : (Jvm.Cond.fieldLinkNest "WeirStream$Flow" (128 : Nat) "WeirStream$Stage" "now" "LWeirStream$State;" "WeirStream") ∈ lw_tbl := lw_tb (List.mem_of_getElem? (i := 1119) (by decide +kernel))
theorem wr1124 : (Jvm.Cond.fieldLinkNest "WeirStream$Flow" (168 : Nat) "WeirStream$Stage" "coming" "LWeirStream$State;" "WeirStream") ∈ lw_tbl := lw_tb (List.mem_of_getElem? (i := 1124) (by decide +kernel))
theorem wr1128 : (Jvm.Cond.fieldLinkNest "WeirStream$Flow" (99 : Nat) "WeirStream$Stage" "owesBarrier" "Z" "WeirStream") ∈ lw_tbl := lw_tb (List.mem_of_getElem? (i := 1128) (by decide +kernel))
theorem ws6 : Cond.selects "WeirStream$Flow" ⟨"WeirStream$Flow", "passBarrier", "(LWeirStream$Stage;)V"⟩ ⟨"WeirStream$Flow", "passBarrier", "(LWeirStream$Stage;)V"⟩ ∈ lw_all := lw_in (lw_ps (List.mem_of_getElem? (i := 6) (by decide +kernel))) rfl
theorem ws7 : Cond.selects "WeirStream$Flow" ⟨"WeirStream$Flow", "completeCheckpoint", "()V"⟩ ⟨"WeirStream$Flow", "completeCheckpoint", "()V"⟩ ∈ lw_all := lw_in (lw_ps (List.mem_of_getElem? (i := 7) (by decide +kernel))) rfl
theorem ws19 : Cond.selects "WeirStream$Flow" ⟨"WeirStream$Flow", "takeBarrier", "(LWeirStream$Stage;LWeirStream$Channel;LWeirStream$Channel;)V"⟩ ⟨"WeirStream$Flow", "takeBarrier", "(LWeirStream$Stage;LWeirStream$Channel;LWeirStream$Channel;)V"⟩ ∈ lw_all := lw_in (lw_ps (List.mem_of_getElem? (i := 19) (by decide +kernel))) rfl
theorem dX8_adoptSaved_0 : decode cX8_adoptSaved 0 = .ok (.aload_n 0, 1) := by decide +kernel
theorem dX8_adoptSaved_1 : decode cX8_adoptSaved 1 = .ok (.getfield 32, 3) := by decide +kernel
theorem dX8_adoptSaved_4 : decode cX8_adoptSaved 4 = .ok (.astore_n 1, 1) := by decide +kernel
theorem dX8_adoptSaved_5 : decode cX8_adoptSaved 5 = .ok (.aload_n 0, 1) := by decide +kernel
theorem dX8_adoptSaved_6 : decode cX8_adoptSaved 6 = .ok (.aload_n 0, 1) := by decide +kernel
theorem dX8_adoptSaved_7 : decode cX8_adoptSaved 7 = .ok (.getfield 35, 3) := by decide +kernel
theorem dX8_adoptSaved_10 : decode cX8_adoptSaved 10 = .ok (.putfield 32, 3) := by decide +kernel
theorem dX8_adoptSaved_13 : decode cX8_adoptSaved 13 = .ok (.aload_n 0, 1) := by decide +kernel
theorem dX8_adoptSaved_14 : decode cX8_adoptSaved 14 = .ok (.aload_n 1, 1) := by decide +kernel
theorem dX8_adoptSaved_15 : decode cX8_adoptSaved 15 = .ok (.putfield 35, 3) := by decide +kernel
theorem dX8_adoptSaved_18 : decode cX8_adoptSaved 18 = .ok (.return_, 1) := by decide +kernel
theorem dX8_goBack_0 : decode cX8_goBack 0 = .ok (.aload_n 0, 1) := by decide +kernel
theorem dX8_goBack_1 : decode cX8_goBack 1 = .ok (.getfield 28, 3) := by decide +kernel
theorem dX8_goBack_4 : decode cX8_goBack 4 = .ok (.aload_n 0, 1) := by decide +kernel
theorem dX8_goBack_5 : decode cX8_goBack 5 = .ok (.getfield 32, 3) := by decide +kernel
theorem dX8_goBack_8 : decode cX8_goBack 8 = .ok (.invokevirtual 307, 3) := by decide +kernel
theorem dX8_goBack_11 : decode cX8_goBack 11 = .ok (.aload_n 0, 1) := by decide +kernel
theorem dX8_goBack_12 : decode cX8_goBack 12 = .ok (.getfield 21, 3) := by decide +kernel
theorem dX8_goBack_15 : decode cX8_goBack 15 = .ok (.aload_n 0, 1) := by decide +kernel
theorem dX8_goBack_16 : decode cX8_goBack 16 = .ok (.getfield 32, 3) := by decide +kernel
theorem dX8_goBack_19 : decode cX8_goBack 19 = .ok (.getfield 176, 3) := by decide +kernel
theorem dX8_goBack_22 : decode cX8_goBack 22 = .ok (.invokevirtual 311, 3) := by decide +kernel
theorem dX8_goBack_25 : decode cX8_goBack 25 = .ok (.aload_n 0, 1) := by decide +kernel
theorem dX8_goBack_26 : decode cX8_goBack 26 = .ok (.getfield 12, 3) := by decide +kernel
theorem dX8_goBack_29 : decode cX8_goBack 29 = .ok (.invokevirtual 314, 3) := by decide +kernel
theorem dX8_goBack_32 : decode cX8_goBack 32 = .ok (.aload_n 0, 1) := by decide +kernel
theorem dX8_goBack_33 : decode cX8_goBack 33 = .ok (.iconst 0, 1) := by decide +kernel
theorem dX8_goBack_34 : decode cX8_goBack 34 = .ok (.putfield 73, 3) := by decide +kernel
theorem dX8_goBack_37 : decode cX8_goBack 37 = .ok (.return_, 1) := by decide +kernel
theorem dX8_become_0 : decode cX8_become 0 = .ok (.aload_n 0, 1) := by decide +kernel
theorem dX8_become_1 : decode cX8_become 1 = .ok (.getfield 28, 3) := by decide +kernel
theorem dX8_become_4 : decode cX8_become 4 = .ok (.aload_n 1, 1) := by decide +kernel
theorem dX8_become_5 : decode cX8_become 5 = .ok (.getfield 28, 3) := by decide +kernel
theorem dX8_become_8 : decode cX8_become 8 = .ok (.invokevirtual 307, 3) := by decide +kernel
theorem dX8_become_11 : decode cX8_become 11 = .ok (.aload_n 0, 1) := by decide +kernel
theorem dX8_become_12 : decode cX8_become 12 = .ok (.getfield 12, 3) := by decide +kernel
theorem dX8_become_15 : decode cX8_become 15 = .ok (.aload_n 1, 1) := by decide +kernel
theorem dX8_become_16 : decode cX8_become 16 = .ok (.getfield 12, 3) := by decide +kernel
theorem dX8_become_19 : decode cX8_become 19 = .ok (.invokevirtual 317, 3) := by decide +kernel
theorem dX8_become_22 : decode cX8_become 22 = .ok (.aload_n 0, 1) := by decide +kernel
theorem dX8_become_23 : decode cX8_become 23 = .ok (.aload_n 1, 1) := by decide +kernel
theorem dX8_become_24 : decode cX8_become 24 = .ok (.getfield 79, 3) := by decide +kernel
theorem dX8_become_27 : decode cX8_become 27 = .ok (.putfield 79, 3) := by decide +kernel
theorem dX8_become_30 : decode cX8_become 30 = .ok (.aload_n 0, 1) := by decide +kernel
theorem dX8_become_31 : decode cX8_become 31 = .ok (.aload_n 1, 1) := by decide +kernel
theorem dX8_become_32 : decode cX8_become 32 = .ok (.getfield 73, 3) := by decide +kernel
theorem dX8_become_35 : decode cX8_become 35 = .ok (.putfield 73, 3) := by decide +kernel
theorem dX8_become_38 : decode cX8_become 38 = .ok (.return_, 1) := by decide +kernel
theorem dX2_completeCheckpoint_2 : decode cX2_completeCheckpoint 2 = .ok (.iload_n 1, 1) := by decide +kernel
theorem dX2_completeCheckpoint_3 : decode cX2_completeCheckpoint 3 = .ok (.aload_n 0, 1) := by decide +kernel
theorem dX2_completeCheckpoint_4 : decode cX2_completeCheckpoint 4 = .ok (.getfield 12, 3) := by decide +kernel
theorem dX2_completeCheckpoint_7 : decode cX2_completeCheckpoint 7 = .ok (.invokevirtual 29, 3) := by decide +kernel
theorem dX2_completeCheckpoint_10 : decode cX2_completeCheckpoint 10 = .ok (.if_icmp .ge 23, 3) := by decide +kernel
theorem dX2_completeCheckpoint_13 : decode cX2_completeCheckpoint 13 = .ok (.aload_n 0, 1) := by decide +kernel
theorem dX2_completeCheckpoint_14 : decode cX2_completeCheckpoint 14 = .ok (.getfield 12, 3) := by decide +kernel
theorem dX2_completeCheckpoint_17 : decode cX2_completeCheckpoint 17 = .ok (.iload_n 1, 1) := by decide +kernel
theorem dX2_completeCheckpoint_18 : decode cX2_completeCheckpoint 18 = .ok (.invokevirtual 33, 3) := by decide +kernel
theorem dX2_completeCheckpoint_21 : decode cX2_completeCheckpoint 21 = .ok (.checkcast 37, 3) := by decide +kernel
theorem dX2_completeCheckpoint_24 : decode cX2_completeCheckpoint 24 = .ok (.invokevirtual 181, 3) := by decide +kernel
theorem dX2_completeCheckpoint_27 : decode cX2_completeCheckpoint 27 = .ok (.iinc 1 1, 3) := by decide +kernel
theorem dX2_completeCheckpoint_30 : decode cX2_completeCheckpoint 30 = .ok (.goto (-28), 3) := by decide +kernel
theorem dX2_completeCheckpoint_0 : decode cX2_completeCheckpoint 0 = .ok (.iconst 0, 1) := by decide +kernel
theorem dX2_completeCheckpoint_1 : decode cX2_completeCheckpoint 1 = .ok (.istore_n 1, 1) := by decide +kernel
theorem dX2_completeCheckpoint_33 : decode cX2_completeCheckpoint 33 = .ok (.aload_n 0, 1) := by decide +kernel
theorem dX2_completeCheckpoint_34 : decode cX2_completeCheckpoint 34 = .ok (.aload_n 0, 1) := by decide +kernel
theorem dX2_completeCheckpoint_35 : decode cX2_completeCheckpoint 35 = .ok (.getfield 184, 3) := by decide +kernel
theorem dX2_completeCheckpoint_38 : decode cX2_completeCheckpoint 38 = .ok (.putfield 187, 3) := by decide +kernel
theorem dX2_completeCheckpoint_41 : decode cX2_completeCheckpoint 41 = .ok (.aload_n 0, 1) := by decide +kernel
theorem dX2_completeCheckpoint_42 : decode cX2_completeCheckpoint 42 = .ok (.iconst 0, 1) := by decide +kernel
theorem dX2_completeCheckpoint_43 : decode cX2_completeCheckpoint 43 = .ok (.putfield 184, 3) := by decide +kernel
theorem dX2_completeCheckpoint_46 : decode cX2_completeCheckpoint 46 = .ok (.return_, 1) := by decide +kernel
theorem dX2_passBarrier_0 : decode cX2_passBarrier 0 = .ok (.aload_n 1, 1) := by decide +kernel
theorem dX2_passBarrier_1 : decode cX2_passBarrier 1 = .ok (.iconst 0, 1) := by decide +kernel
theorem dX2_passBarrier_2 : decode cX2_passBarrier 2 = .ok (.putfield 99, 3) := by decide +kernel
theorem dX2_passBarrier_5 : decode cX2_passBarrier 5 = .ok (.aload_n 1, 1) := by decide +kernel
theorem dX2_passBarrier_6 : decode cX2_passBarrier 6 = .ok (.invokestatic 161, 3) := by decide +kernel
theorem dX2_passBarrier_9 : decode cX2_passBarrier 9 = .ok (.invokevirtual 164, 3) := by decide +kernel
theorem dX2_passBarrier_12 : decode cX2_passBarrier 12 = .ok (.aload_n 0, 1) := by decide +kernel
theorem dX2_passBarrier_13 : decode cX2_passBarrier 13 = .ok (.getfield 25, 3) := by decide +kernel
theorem dX2_passBarrier_16 : decode cX2_passBarrier 16 = .ok (.ifCond .eq 4, 3) := by decide +kernel
theorem dX2_passBarrier_20 : decode cX2_passBarrier 20 = .ok (.aload_n 1, 1) := by decide +kernel
theorem dX2_passBarrier_21 : decode cX2_passBarrier 21 = .ok (.getfield 168, 3) := by decide +kernel
theorem dX2_passBarrier_24 : decode cX2_passBarrier 24 = .ok (.aload_n 1, 1) := by decide +kernel
theorem dX2_passBarrier_25 : decode cX2_passBarrier 25 = .ok (.getfield 128, 3) := by decide +kernel
theorem dX2_passBarrier_28 : decode cX2_passBarrier 28 = .ok (.invokevirtual 171, 3) := by decide +kernel
theorem dX2_passBarrier_31 : decode cX2_passBarrier 31 = .ok (.aload_n 0, 1) := by decide +kernel
theorem dX2_passBarrier_32 : decode cX2_passBarrier 32 = .ok (.dup, 1) := by decide +kernel
theorem dX2_passBarrier_33 : decode cX2_passBarrier 33 = .ok (.getfield 175, 3) := by decide +kernel
theorem dX2_passBarrier_36 : decode cX2_passBarrier 36 = .ok (.iconst 1, 1) := by decide +kernel
theorem dX2_passBarrier_37 : decode cX2_passBarrier 37 = .ok (.isub, 1) := by decide +kernel
theorem dX2_passBarrier_38 : decode cX2_passBarrier 38 = .ok (.putfield 175, 3) := by decide +kernel
theorem dX2_passBarrier_41 : decode cX2_passBarrier 41 = .ok (.aload_n 0, 1) := by decide +kernel
theorem dX2_passBarrier_42 : decode cX2_passBarrier 42 = .ok (.getfield 175, 3) := by decide +kernel
theorem dX2_passBarrier_45 : decode cX2_passBarrier 45 = .ok (.ifCond .ne 7, 3) := by decide +kernel
theorem dX2_passBarrier_48 : decode cX2_passBarrier 48 = .ok (.aload_n 0, 1) := by decide +kernel
theorem dX2_passBarrier_49 : decode cX2_passBarrier 49 = .ok (.invokevirtual 178, 3) := by decide +kernel
theorem dX2_passBarrier_52 : decode cX2_passBarrier 52 = .ok (.return_, 1) := by decide +kernel
theorem dX2_passBarrier_19 : decode cX2_passBarrier 19 = .ok (.return_, 1) := by decide +kernel
theorem dX2_takeBarrier_0 : decode cX2_takeBarrier 0 = .ok (.aload_n 3, 1) := by decide +kernel
theorem dX2_takeBarrier_1 : decode cX2_takeBarrier 1 = .ok (.ifnull 16, 3) := by decide +kernel
theorem dX2_takeBarrier_17 : decode cX2_takeBarrier 17 = .ok (.aload_n 3, 1) := by decide +kernel
theorem dX2_takeBarrier_18 : decode cX2_takeBarrier 18 = .ok (.ifnull 8, 3) := by decide +kernel
theorem dX2_takeBarrier_26 : decode cX2_takeBarrier 26 = .ok (.aload_n 0, 1) := by decide +kernel
theorem dX2_takeBarrier_27 : decode cX2_takeBarrier 27 = .ok (.aload_n 1, 1) := by decide +kernel
theorem dX2_takeBarrier_28 : decode cX2_takeBarrier 28 = .ok (.invokevirtual 102, 3) := by decide +kernel
theorem dX2_takeBarrier_31 : decode cX2_takeBarrier 31 = .ok (.return_, 1) := by decide +kernel
theorem dX2_takeBarrier_4 : decode cX2_takeBarrier 4 = .ok (.aload_n 3, 1) := by decide +kernel
theorem dX2_takeBarrier_5 : decode cX2_takeBarrier 5 = .ok (.getfield 158, 3) := by decide +kernel
theorem dX2_takeBarrier_8 : decode cX2_takeBarrier 8 = .ok (.ifCond .ne 9, 3) := by decide +kernel
theorem dX2_takeBarrier_11 : decode cX2_takeBarrier 11 = .ok (.aload_n 2, 1) := by decide +kernel
theorem dX2_takeBarrier_12 : decode cX2_takeBarrier 12 = .ok (.iconst 1, 1) := by decide +kernel
theorem dX2_takeBarrier_13 : decode cX2_takeBarrier 13 = .ok (.putfield 158, 3) := by decide +kernel
theorem dX2_takeBarrier_16 : decode cX2_takeBarrier 16 = .ok (.return_, 1) := by decide +kernel
theorem dX2_takeBarrier_21 : decode cX2_takeBarrier 21 = .ok (.aload_n 3, 1) := by decide +kernel
theorem dX2_takeBarrier_22 : decode cX2_takeBarrier 22 = .ok (.iconst 0, 1) := by decide +kernel
theorem dX2_takeBarrier_23 : decode cX2_takeBarrier 23 = .ok (.putfield 158, 3) := by decide +kernel
theorem dX2_step_0 : decode cX2_step 0 = .ok (.aload_n 0, 1) := by decide +kernel
theorem dX2_step_1 : decode cX2_step 1 = .ok (.iload_n 1, 1) := by decide +kernel
theorem dX2_step_2 : decode cX2_step 2 = .ok (.invokevirtual 58, 3) := by decide +kernel
theorem dX2_step_5 : decode cX2_step 5 = .ok (.astore_n 2, 1) := by decide +kernel
theorem dX2_step_6 : decode cX2_step 6 = .ok (.aload_n 2, 1) := by decide +kernel
theorem dX2_step_7 : decode cX2_step 7 = .ok (.ifnonnull 5, 3) := by decide +kernel
theorem dX2_step_12 : decode cX2_step 12 = .ok (.aload_n 0, 1) := by decide +kernel
theorem dX2_step_13 : decode cX2_step 13 = .ok (.iload_n 1, 1) := by decide +kernel
theorem dX2_step_14 : decode cX2_step 14 = .ok (.putfield 22, 3) := by decide +kernel
theorem dX2_step_17 : decode cX2_step 17 = .ok (.aload_n 2, 1) := by decide +kernel
theorem dX2_step_18 : decode cX2_step 18 = .ok (.getfield 62, 3) := by decide +kernel
theorem dX2_step_21 : decode cX2_step 21 = .ok (.invokevirtual 89, 3) := by decide +kernel
theorem dX2_step_24 : decode cX2_step 24 = .ok (.aload_n 2, 1) := by decide +kernel
theorem dX2_step_25 : decode cX2_step 25 = .ok (.getfield 92, 3) := by decide +kernel
theorem dX2_step_28 : decode cX2_step 28 = .ok (.getfield 96, 3) := by decide +kernel
theorem dX2_step_31 : decode cX2_step 31 = .ok (.ifCond .ne 28, 3) := by decide +kernel
theorem dX2_step_34 : decode cX2_step 34 = .ok (.aload_n 2, 1) := by decide +kernel
theorem dX2_step_35 : decode cX2_step 35 = .ok (.getfield 99, 3) := by decide +kernel
theorem dX2_step_38 : decode cX2_step 38 = .ok (.ifCond .eq 11, 3) := by decide +kernel
theorem dX2_step_49 : decode cX2_step 49 = .ok (.aload_n 2, 1) := by decide +kernel
theorem dX2_step_50 : decode cX2_step 50 = .ok (.aload_n 2, 1) := by decide +kernel
theorem dX2_step_51 : decode cX2_step 51 = .ok (.invokevirtual 106, 3) := by decide +kernel
theorem dX2_step_54 : decode cX2_step 54 = .ok (.invokevirtual 109, 3) := by decide +kernel
theorem dX2_step_57 : decode cX2_step 57 = .ok (.iconst 1, 1) := by decide +kernel
theorem dX2_step_58 : decode cX2_step 58 = .ok (.ireturn, 1) := by decide +kernel
theorem dX2_step_41 : decode cX2_step 41 = .ok (.aload_n 0, 1) := by decide +kernel
theorem dX2_step_42 : decode cX2_step 42 = .ok (.aload_n 2, 1) := by decide +kernel
theorem dX2_step_43 : decode cX2_step 43 = .ok (.invokevirtual 102, 3) := by decide +kernel
theorem dX2_step_46 : decode cX2_step 46 = .ok (.goto 11, 3) := by decide +kernel
theorem dX2_step_59 : decode cX2_step 59 = .ok (.aload_n 2, 1) := by decide +kernel
theorem dX2_step_60 : decode cX2_step 60 = .ok (.invokevirtual 113, 3) := by decide +kernel
theorem dX2_step_63 : decode cX2_step 63 = .ok (.istore_n 3, 1) := by decide +kernel
theorem dX2_step_64 : decode cX2_step 64 = .ok (.aload_n 2, 1) := by decide +kernel
theorem dX2_step_65 : decode cX2_step 65 = .ok (.iload_n 3, 1) := by decide +kernel
theorem dX2_step_66 : decode cX2_step 66 = .ok (.invokevirtual 117, 3) := by decide +kernel
theorem dX2_step_69 : decode cX2_step 69 = .ok (.astore 4, 2) := by decide +kernel
theorem dX2_step_71 : decode cX2_step 71 = .ok (.aload 4, 2) := by decide +kernel
theorem dX2_step_73 : decode cX2_step 73 = .ok (.ifnull 11, 3) := by decide +kernel
theorem dX2_step_76 : decode cX2_step 76 = .ok (.aload 4, 2) := by decide +kernel
theorem dX2_step_78 : decode cX2_step 78 = .ok (.invokevirtual 121, 3) := by decide +kernel
theorem dX2_step_81 : decode cX2_step 81 = .ok (.ifCond .ne 5, 3) := by decide +kernel
theorem dX2_step_84 : decode cX2_step 84 = .ok (.iconst 0, 1) := by decide +kernel
theorem dX2_step_85 : decode cX2_step 85 = .ok (.ireturn, 1) := by decide +kernel
theorem dX2_step_86 : decode cX2_step 86 = .ok (.aload 4, 2) := by decide +kernel
theorem dX2_step_88 : decode cX2_step 88 = .ok (.invokevirtual 124, 3) := by decide +kernel
theorem dX2_step_91 : decode cX2_step 91 = .ok (.lstore 5, 2) := by decide +kernel
theorem dX2_step_93 : decode cX2_step 93 = .ok (.aload_n 2, 1) := by decide +kernel
theorem dX2_step_94 : decode cX2_step 94 = .ok (.getfield 128, 3) := by decide +kernel
theorem dX2_step_97 : decode cX2_step 97 = .ok (.iload_n 3, 1) := by decide +kernel
theorem dX2_step_98 : decode cX2_step 98 = .ok (.putfield 132, 3) := by decide +kernel
theorem dX2_step_101 : decode cX2_step 101 = .ok (.lload 5, 2) := by decide +kernel
theorem dX2_step_103 : decode cX2_step 103 = .ok (.invokestatic 137, 3) := by decide +kernel
theorem dX2_step_106 : decode cX2_step 106 = .ok (.istore 7, 2) := by decide +kernel
theorem dX2_step_108 : decode cX2_step 108 = .ok (.iload 7, 2) := by decide +kernel
theorem dX2_step_110 : decode cX2_step 110 = .ok (.ifCond .ne 13, 3) := by decide +kernel
theorem dX2_step_113 : decode cX2_step 113 = .ok (.aload_n 2, 1) := by decide +kernel
theorem dX2_step_114 : decode cX2_step 114 = .ok (.lload 5, 2) := by decide +kernel
theorem dX2_step_116 : decode cX2_step 116 = .ok (.iload_n 3, 1) := by decide +kernel
theorem dX2_step_117 : decode cX2_step 117 = .ok (.invokevirtual 143, 3) := by decide +kernel
theorem dX2_step_120 : decode cX2_step 120 = .ok (.goto 46, 3) := by decide +kernel
theorem dX2_step_166 : decode cX2_step 166 = .ok (.iconst 1, 1) := by decide +kernel
theorem dX2_step_167 : decode cX2_step 167 = .ok (.ireturn, 1) := by decide +kernel
theorem dX2_step_123 : decode cX2_step 123 = .ok (.iload 7, 2) := by decide +kernel
theorem dX2_step_125 : decode cX2_step 125 = .ok (.iconst 1, 1) := by decide +kernel
theorem dX2_step_126 : decode cX2_step 126 = .ok (.if_icmp .ne 20, 3) := by decide +kernel
theorem dX2_step_129 : decode cX2_step 129 = .ok (.aload_n 2, 1) := by decide +kernel
theorem dX2_step_130 : decode cX2_step 130 = .ok (.aload_n 2, 1) := by decide +kernel
theorem dX2_step_131 : decode cX2_step 131 = .ok (.lload 5, 2) := by decide +kernel
theorem dX2_step_133 : decode cX2_step 133 = .ok (.invokestatic 147, 3) := by decide +kernel
theorem dX2_step_136 : decode cX2_step 136 = .ok (.iload_n 3, 1) := by decide +kernel
theorem dX2_step_137 : decode cX2_step 137 = .ok (.invokevirtual 150, 3) := by decide +kernel
theorem dX2_step_140 : decode cX2_step 140 = .ok (.invokevirtual 109, 3) := by decide +kernel
theorem dX2_step_143 : decode cX2_step 143 = .ok (.goto 23, 3) := by decide +kernel
theorem dX2_step_146 : decode cX2_step 146 = .ok (.aload_n 0, 1) := by decide +kernel
theorem dX2_step_147 : decode cX2_step 147 = .ok (.aload_n 2, 1) := by decide +kernel
theorem dX2_step_148 : decode cX2_step 148 = .ok (.aload 4, 2) := by decide +kernel
theorem dX2_step_150 : decode cX2_step 150 = .ok (.aload_n 2, 1) := by decide +kernel
theorem dX2_step_151 : decode cX2_step 151 = .ok (.iload_n 3, 1) := by decide +kernel
theorem dX2_step_152 : decode cX2_step 152 = .ok (.ifCond .ne 7, 3) := by decide +kernel
theorem dX2_step_155 : decode cX2_step 155 = .ok (.iconst 1, 1) := by decide +kernel
theorem dX2_step_156 : decode cX2_step 156 = .ok (.goto 4, 3) := by decide +kernel
theorem dX2_step_160 : decode cX2_step 160 = .ok (.invokevirtual 117, 3) := by decide +kernel
theorem dX2_step_163 : decode cX2_step 163 = .ok (.invokevirtual 154, 3) := by decide +kernel
theorem dX2_step_159 : decode cX2_step 159 = .ok (.iconst 0, 1) := by decide +kernel
theorem dX2_step_10 : decode cX2_step 10 = .ok (.iconst 0, 1) := by decide +kernel
theorem dX2_step_11 : decode cX2_step 11 = .ok (.ireturn, 1) := by decide +kernel
theorem dX2_beginCheckpoint_31 : decode cX2_beginCheckpoint 31 = .ok (.iload_n 1, 1) := by decide +kernel
theorem dX2_beginCheckpoint_32 : decode cX2_beginCheckpoint 32 = .ok (.aload_n 0, 1) := by decide +kernel
theorem dX2_beginCheckpoint_33 : decode cX2_beginCheckpoint 33 = .ok (.getfield 12, 3) := by decide +kernel
theorem dX2_beginCheckpoint_36 : decode cX2_beginCheckpoint 36 = .ok (.invokevirtual 29, 3) := by decide +kernel
theorem dX2_beginCheckpoint_39 : decode cX2_beginCheckpoint 39 = .ok (.if_icmp .ge 40, 3) := by decide +kernel
theorem dX2_beginCheckpoint_42 : decode cX2_beginCheckpoint 42 = .ok (.aload_n 0, 1) := by decide +kernel
theorem dX2_beginCheckpoint_43 : decode cX2_beginCheckpoint 43 = .ok (.getfield 12, 3) := by decide +kernel
theorem dX2_beginCheckpoint_46 : decode cX2_beginCheckpoint 46 = .ok (.iload_n 1, 1) := by decide +kernel
theorem dX2_beginCheckpoint_47 : decode cX2_beginCheckpoint 47 = .ok (.invokevirtual 33, 3) := by decide +kernel
theorem dX2_beginCheckpoint_50 : decode cX2_beginCheckpoint 50 = .ok (.checkcast 37, 3) := by decide +kernel
theorem dX2_beginCheckpoint_53 : decode cX2_beginCheckpoint 53 = .ok (.astore_n 2, 1) := by decide +kernel
theorem dX2_beginCheckpoint_54 : decode cX2_beginCheckpoint 54 = .ok (.aload_n 2, 1) := by decide +kernel
theorem dX2_beginCheckpoint_55 : decode cX2_beginCheckpoint 55 = .ok (.aload_n 2, 1) := by decide +kernel
theorem dX2_beginCheckpoint_56 : decode cX2_beginCheckpoint 56 = .ok (.getfield 92, 3) := by decide +kernel
theorem dX2_beginCheckpoint_59 : decode cX2_beginCheckpoint 59 = .ok (.getfield 96, 3) := by decide +kernel
theorem dX2_beginCheckpoint_62 : decode cX2_beginCheckpoint 62 = .ok (.ifCond .ne 7, 3) := by decide +kernel
theorem dX2_beginCheckpoint_65 : decode cX2_beginCheckpoint 65 = .ok (.iconst 1, 1) := by decide +kernel
theorem dX2_beginCheckpoint_66 : decode cX2_beginCheckpoint 66 = .ok (.goto 4, 3) := by decide +kernel
theorem dX2_beginCheckpoint_70 : decode cX2_beginCheckpoint 70 = .ok (.putfield 99, 3) := by decide +kernel
theorem dX2_beginCheckpoint_73 : decode cX2_beginCheckpoint 73 = .ok (.iinc 1 1, 3) := by decide +kernel
theorem dX2_beginCheckpoint_76 : decode cX2_beginCheckpoint 76 = .ok (.goto (-45), 3) := by decide +kernel
theorem dX2_beginCheckpoint_69 : decode cX2_beginCheckpoint 69 = .ok (.iconst 0, 1) := by decide +kernel
theorem dX2_beginCheckpoint_0 : decode cX2_beginCheckpoint 0 = .ok (.aload_n 0, 1) := by decide +kernel
theorem dX2_beginCheckpoint_1 : decode cX2_beginCheckpoint 1 = .ok (.dup, 1) := by decide +kernel
theorem dX2_beginCheckpoint_2 : decode cX2_beginCheckpoint 2 = .ok (.getfield 190, 3) := by decide +kernel
theorem dX2_beginCheckpoint_5 : decode cX2_beginCheckpoint 5 = .ok (.iconst 1, 1) := by decide +kernel
theorem dX2_beginCheckpoint_6 : decode cX2_beginCheckpoint 6 = .ok (.iadd, 1) := by decide +kernel
theorem dX2_beginCheckpoint_7 : decode cX2_beginCheckpoint 7 = .ok (.putfield 190, 3) := by decide +kernel
theorem dX2_beginCheckpoint_10 : decode cX2_beginCheckpoint 10 = .ok (.aload_n 0, 1) := by decide +kernel
theorem dX2_beginCheckpoint_11 : decode cX2_beginCheckpoint 11 = .ok (.aload_n 0, 1) := by decide +kernel
theorem dX2_beginCheckpoint_12 : decode cX2_beginCheckpoint 12 = .ok (.getfield 190, 3) := by decide +kernel
theorem dX2_beginCheckpoint_15 : decode cX2_beginCheckpoint 15 = .ok (.putfield 184, 3) := by decide +kernel
theorem dX2_beginCheckpoint_18 : decode cX2_beginCheckpoint 18 = .ok (.aload_n 0, 1) := by decide +kernel
theorem dX2_beginCheckpoint_19 : decode cX2_beginCheckpoint 19 = .ok (.aload_n 0, 1) := by decide +kernel
theorem dX2_beginCheckpoint_20 : decode cX2_beginCheckpoint 20 = .ok (.getfield 12, 3) := by decide +kernel
theorem dX2_beginCheckpoint_23 : decode cX2_beginCheckpoint 23 = .ok (.invokevirtual 29, 3) := by decide +kernel
theorem dX2_beginCheckpoint_26 : decode cX2_beginCheckpoint 26 = .ok (.putfield 175, 3) := by decide +kernel
theorem dX2_beginCheckpoint_29 : decode cX2_beginCheckpoint 29 = .ok (.iconst 0, 1) := by decide +kernel
theorem dX2_beginCheckpoint_30 : decode cX2_beginCheckpoint 30 = .ok (.istore_n 1, 1) := by decide +kernel
theorem dX2_beginCheckpoint_79 : decode cX2_beginCheckpoint 79 = .ok (.aload_n 0, 1) := by decide +kernel
theorem dX2_beginCheckpoint_80 : decode cX2_beginCheckpoint 80 = .ok (.getfield 184, 3) := by decide +kernel
theorem dX2_beginCheckpoint_83 : decode cX2_beginCheckpoint 83 = .ok (.ireturn, 1) := by decide +kernel
theorem dX2_goBack_2 : decode cX2_goBack 2 = .ok (.iload_n 1, 1) := by decide +kernel
theorem dX2_goBack_3 : decode cX2_goBack 3 = .ok (.aload_n 0, 1) := by decide +kernel
theorem dX2_goBack_4 : decode cX2_goBack 4 = .ok (.getfield 12, 3) := by decide +kernel
theorem dX2_goBack_7 : decode cX2_goBack 7 = .ok (.invokevirtual 29, 3) := by decide +kernel
theorem dX2_goBack_10 : decode cX2_goBack 10 = .ok (.if_icmp .ge 23, 3) := by decide +kernel
theorem dX2_goBack_13 : decode cX2_goBack 13 = .ok (.aload_n 0, 1) := by decide +kernel
theorem dX2_goBack_14 : decode cX2_goBack 14 = .ok (.getfield 12, 3) := by decide +kernel
theorem dX2_goBack_17 : decode cX2_goBack 17 = .ok (.iload_n 1, 1) := by decide +kernel
theorem dX2_goBack_18 : decode cX2_goBack 18 = .ok (.invokevirtual 33, 3) := by decide +kernel
theorem dX2_goBack_21 : decode cX2_goBack 21 = .ok (.checkcast 37, 3) := by decide +kernel
theorem dX2_goBack_24 : decode cX2_goBack 24 = .ok (.invokevirtual 193, 3) := by decide +kernel
theorem dX2_goBack_27 : decode cX2_goBack 27 = .ok (.iinc 1 1, 3) := by decide +kernel
theorem dX2_goBack_30 : decode cX2_goBack 30 = .ok (.goto (-28), 3) := by decide +kernel
theorem dX2_goBack_0 : decode cX2_goBack 0 = .ok (.iconst 0, 1) := by decide +kernel
theorem dX2_goBack_1 : decode cX2_goBack 1 = .ok (.istore_n 1, 1) := by decide +kernel
theorem dX2_goBack_33 : decode cX2_goBack 33 = .ok (.aload_n 0, 1) := by decide +kernel
theorem dX2_goBack_34 : decode cX2_goBack 34 = .ok (.iconst 0, 1) := by decide +kernel
theorem dX2_goBack_35 : decode cX2_goBack 35 = .ok (.putfield 184, 3) := by decide +kernel
theorem dX2_goBack_38 : decode cX2_goBack 38 = .ok (.aload_n 0, 1) := by decide +kernel
theorem dX2_goBack_39 : decode cX2_goBack 39 = .ok (.iconst (-1), 1) := by decide +kernel
theorem dX2_goBack_40 : decode cX2_goBack 40 = .ok (.putfield 22, 3) := by decide +kernel
theorem dX2_goBack_43 : decode cX2_goBack 43 = .ok (.aload_n 0, 1) := by decide +kernel
theorem dX2_goBack_44 : decode cX2_goBack 44 = .ok (.getfield 187, 3) := by decide +kernel
theorem dX2_goBack_47 : decode cX2_goBack 47 = .ok (.ireturn, 1) := by decide +kernel
theorem dX2_become_18 : decode cX2_become 18 = .ok (.iload_n 2, 1) := by decide +kernel
theorem dX2_become_19 : decode cX2_become 19 = .ok (.aload_n 0, 1) := by decide +kernel
theorem dX2_become_20 : decode cX2_become 20 = .ok (.getfield 12, 3) := by decide +kernel
theorem dX2_become_23 : decode cX2_become 23 = .ok (.invokevirtual 29, 3) := by decide +kernel
theorem dX2_become_26 : decode cX2_become 26 = .ok (.if_icmp .ge 45, 3) := by decide +kernel
theorem dX2_become_29 : decode cX2_become 29 = .ok (.iload_n 2, 1) := by decide +kernel
theorem dX2_become_30 : decode cX2_become 30 = .ok (.aload_n 1, 1) := by decide +kernel
theorem dX2_become_31 : decode cX2_become 31 = .ok (.getfield 12, 3) := by decide +kernel
theorem dX2_become_34 : decode cX2_become 34 = .ok (.invokevirtual 29, 3) := by decide +kernel
theorem dX2_become_37 : decode cX2_become 37 = .ok (.if_icmp .ge 34, 3) := by decide +kernel
theorem dX2_become_40 : decode cX2_become 40 = .ok (.aload_n 0, 1) := by decide +kernel
theorem dX2_become_41 : decode cX2_become 41 = .ok (.getfield 12, 3) := by decide +kernel
theorem dX2_become_44 : decode cX2_become 44 = .ok (.iload_n 2, 1) := by decide +kernel
theorem dX2_become_45 : decode cX2_become 45 = .ok (.invokevirtual 33, 3) := by decide +kernel
theorem dX2_become_48 : decode cX2_become 48 = .ok (.checkcast 37, 3) := by decide +kernel
theorem dX2_become_51 : decode cX2_become 51 = .ok (.aload_n 1, 1) := by decide +kernel
theorem dX2_become_52 : decode cX2_become 52 = .ok (.getfield 12, 3) := by decide +kernel
theorem dX2_become_55 : decode cX2_become 55 = .ok (.iload_n 2, 1) := by decide +kernel
theorem dX2_become_56 : decode cX2_become 56 = .ok (.invokevirtual 33, 3) := by decide +kernel
theorem dX2_become_59 : decode cX2_become 59 = .ok (.checkcast 37, 3) := by decide +kernel
theorem dX2_become_62 : decode cX2_become 62 = .ok (.invokevirtual 196, 3) := by decide +kernel
theorem dX2_become_65 : decode cX2_become 65 = .ok (.iinc 2 1, 3) := by decide +kernel
theorem dX2_become_68 : decode cX2_become 68 = .ok (.goto (-50), 3) := by decide +kernel
theorem dX2_become_0 : decode cX2_become 0 = .ok (.aload_n 0, 1) := by decide +kernel
theorem dX2_become_1 : decode cX2_become 1 = .ok (.aload_n 1, 1) := by decide +kernel
theorem dX2_become_2 : decode cX2_become 2 = .ok (.getfield 18, 3) := by decide +kernel
theorem dX2_become_5 : decode cX2_become 5 = .ok (.putfield 18, 3) := by decide +kernel
theorem dX2_become_8 : decode cX2_become 8 = .ok (.aload_n 0, 1) := by decide +kernel
theorem dX2_become_9 : decode cX2_become 9 = .ok (.aload_n 1, 1) := by decide +kernel
theorem dX2_become_10 : decode cX2_become 10 = .ok (.getfield 22, 3) := by decide +kernel
theorem dX2_become_13 : decode cX2_become 13 = .ok (.putfield 22, 3) := by decide +kernel
theorem dX2_become_16 : decode cX2_become 16 = .ok (.iconst 0, 1) := by decide +kernel
theorem dX2_become_17 : decode cX2_become 17 = .ok (.istore_n 2, 1) := by decide +kernel
theorem dX2_become_71 : decode cX2_become 71 = .ok (.return_, 1) := by decide +kernel
