theorem wq403 : (Jvm.Cond.methodLink "WeirStream$Stage" (295 : Nat) ({ cls := "WeirStream$Stage", name := "fireFrom", desc := "(I)V" } : Jvm.MethodName)) ∈ lw_all := lw_in (lw_tb (List.mem_of_getElem? (i := 403) (by decide +kernel))) rfl
theorem wq405 : (Jvm.Cond.instanceMethod ({ cls := "WeirStream$Stage", name := "fireFrom", desc := "(I)V" } : Jvm.MethodName)) ∈ lw_all := lw_in (lw_tb (List.mem_of_getElem? (i := 405) (by decide +kernel))) rfl
theorem wq407 : (Jvm.Cond.code ({ cls := "WeirStream$Stage", name := "fireFrom", desc := "(I)V" } : Jvm.MethodName) prog_10_method_21_code (4 : Nat) (Option.none : Option Jvm.ClassFile.FieldType)) ∈ lw_all := lw_in (lw_tb (List.mem_of_getElem? (i := 407) (by decide +kernel))) rfl
theorem wq408 : (Jvm.Cond.methodLink "WeirStream$Stage" (304 : Nat) ({ cls := "WeirStream$Spans", name := "firstEndingAbove", desc := "(I)I" } : Jvm.MethodName)) ∈ lw_all := lw_in (lw_tb (List.mem_of_getElem? (i := 408) (by decide +kernel))) rfl
theorem wq418 : (Jvm.Cond.methodLink "WeirStream$Stage" (194 : Nat) ({ cls := "WeirStream$Stage", name := "fire", desc := "(I)V" } : Jvm.MethodName)) ∈ lw_all := lw_in (lw_tb (List.mem_of_getElem? (i := 418) (by decide +kernel))) rfl
theorem wq420 : (Jvm.Cond.instanceMethod ({ cls := "WeirStream$Stage", name := "fire", desc := "(I)V" } : Jvm.MethodName)) ∈ lw_all := lw_in (lw_tb (List.mem_of_getElem? (i := 420) (by decide +kernel))) rfl
theorem wq421 : (Jvm.Cond.code ({ cls := "WeirStream$Stage", name := "fire", desc := "(I)V" } : Jvm.MethodName) prog_10_method_15_code (3 : Nat) (Option.none : Option Jvm.ClassFile.FieldType)) ∈ lw_all := lw_in (lw_tb (List.mem_of_getElem? (i := 421) (by decide +kernel))) rfl
theorem wq422 : (Jvm.Cond.methodLink "WeirStream$Stage" (226 : Nat) ({ cls := "WeirStream$Spans", name := "accountAtPlace", desc := "(I)J" } : Jvm.MethodName)) ∈ lw_all := lw_in (lw_tb (List.mem_of_getElem? (i := 422) (by decide +kernel))) rfl
theorem wq423 : (Jvm.Cond.instanceMethod ({ cls := "WeirStream$Spans", name := "accountAtPlace", desc := "(I)J" } : Jvm.MethodName)) ∈ lw_all := lw_in (lw_tb (List.mem_of_getElem? (i := 423) (by decide +kernel))) rfl
theorem wq424 : (Jvm.Cond.selects "WeirStream$Spans" ({ cls := "WeirStream$Spans", name := "accountAtPlace", desc := "(I)J" } : Jvm.MethodName) ({ cls := "WeirStream$Spans", name := "accountAtPlace", desc := "(I)J" } : Jvm.MethodName)) ∈ lw_all := lw_in (lw_tb (List.mem_of_getElem? (i := 424) (by decide +kernel))) rfl
theorem wq425 : (Jvm.Cond.code ({ cls := "WeirStream$Spans", name := "accountAtPlace", desc := "(I)J" } : Jvm.MethodName) prog_9_method_7_code (2 : Nat) (Option.some Jvm.ClassFile.FieldType.long)) ∈ lw_all := lw_in (lw_tb (List.mem_of_getElem? (i := 425) (by decide +kernel))) rfl
theorem wq426 : (Jvm.Cond.methodLink "WeirStream$Stage" (265 : Nat) ({ cls := "WeirStream$Account", name := "answer", desc := "(IJ)I" } : Jvm.MethodName)) ∈ lw_all := lw_in (lw_tb (List.mem_of_getElem? (i := 426) (by decide +kernel))) rfl
theorem wq427 : (Jvm.Cond.static ({ cls := "WeirStream$Account", name := "answer", desc := "(IJ)I" } : Jvm.MethodName)) ∈ lw_all := lw_in (lw_tb (List.mem_of_getElem? (i := 427) (by decide +kernel))) rfl
theorem wq428 : (Jvm.Cond.code ({ cls := "WeirStream$Account", name := "answer", desc := "(IJ)I" } : Jvm.MethodName) prog_2_method_7_code (4 : Nat) (Option.some Jvm.ClassFile.FieldType.int)) ∈ lw_all := lw_in (lw_tb (List.mem_of_getElem? (i := 428) (by decide +kernel))) rfl
theorem wq435 : (Jvm.Cond.methodLink "WeirStream$Stage" (245 : Nat) ({ cls := "WeirStream$Spans", name := "keyAtPlace", desc := "(I)I" } : Jvm.MethodName)) ∈ lw_all := lw_in (lw_tb (List.mem_of_getElem? (i := 435) (by decide +kernel))) rfl
theorem wq436 : (Jvm.Cond.instanceMethod ({ cls := "WeirStream$Spans", name := "keyAtPlace", desc := "(I)I" } : Jvm.MethodName)) ∈ lw_all := lw_in (lw_tb (List.mem_of_getElem? (i := 436) (by decide +kernel))) rfl
theorem wq437 : (Jvm.Cond.selects "WeirStream$Spans" ({ cls := "WeirStream$Spans", name := "keyAtPlace", desc := "(I)I" } : Jvm.MethodName) ({ cls := "WeirStream$Spans", name := "keyAtPlace", desc := "(I)I" } : Jvm.MethodName)) ∈ lw_all := lw_in (lw_tb (List.mem_of_getElem? (i := 437) (by decide +kernel))) rfl
theorem wq438 : (Jvm.Cond.code ({ cls := "WeirStream$Spans", name := "keyAtPlace", desc := "(I)I" } : Jvm.MethodName) prog_9_method_5_code (2 : Nat) (Option.some Jvm.ClassFile.FieldType.int)) ∈ lw_all := lw_in (lw_tb (List.mem_of_getElem? (i := 438) (by decide +kernel))) rfl
theorem wq440 : (Jvm.Cond.methodLink "WeirStream$Stage" (252 : Nat) ({ cls := "WeirStream$Spans", name := "endAt", desc := "(I)I" } : Jvm.MethodName)) ∈ lw_all := lw_in (lw_tb (List.mem_of_getElem? (i := 440) (by decide +kernel))) rfl
theorem wq448 : (Jvm.Cond.methodLink "WeirStream$Stage" (261 : Nat) ({ cls := "WeirStream$Spans", name := "remove", desc := "(II)V" } : Jvm.MethodName)) ∈ lw_all := lw_in (lw_tb (List.mem_of_getElem? (i := 448) (by decide +kernel))) rfl
theorem wq449 : (Jvm.Cond.instanceMethod ({ cls := "WeirStream$Spans", name := "remove", desc := "(II)V" } : Jvm.MethodName)) ∈ lw_all := lw_in (lw_tb (List.mem_of_getElem? (i := 449) (by decide +kernel))) rfl
theorem wq450 : (Jvm.Cond.selects "WeirStream$Spans" ({ cls := "WeirStream$Spans", name := "remove", desc := "(II)V" } : Jvm.MethodName) ({ cls := "WeirStream$Spans", name := "remove", desc := "(II)V" } : Jvm.MethodName)) ∈ lw_all := lw_in (lw_tb (List.mem_of_getElem? (i := 450) (by decide +kernel))) rfl
theorem wq451 : (Jvm.Cond.code ({ cls := "WeirStream$Spans", name := "remove", desc := "(II)V" } : Jvm.MethodName) prog_9_method_14_code (3 : Nat) (Option.none : Option Jvm.ClassFile.FieldType)) ∈ lw_all := lw_in (lw_tb (List.mem_of_getElem? (i := 451) (by decide +kernel))) rfl
theorem wq453 : (Jvm.Cond.methodLink "WeirStream$Stage" (298 : Nat) ({ cls := "WeirStream$Stage", name := "forgetBelow", desc := "(LWeirStream$Row;I)V" } : Jvm.MethodName)) ∈ lw_all := lw_in (lw_tb (List.mem_of_getElem? (i := 453) (by decide +kernel))) rfl
theorem wq454 : (Jvm.Cond.static ({ cls := "WeirStream$Stage", name := "forgetBelow", desc := "(LWeirStream$Row;I)V" } : Jvm.MethodName)) ∈ lw_all := lw_in (lw_tb (List.mem_of_getElem? (i := 454) (by decide +kernel))) rfl
theorem wq455 : (Jvm.Cond.code ({ cls := "WeirStream$Stage", name := "forgetBelow", desc := "(LWeirStream$Row;I)V" } : Jvm.MethodName) prog_10_method_22_code (3 : Nat) (Option.none : Option Jvm.ClassFile.FieldType)) ∈ lw_all := lw_in (lw_tb (List.mem_of_getElem? (i := 455) (by decide +kernel))) rfl
theorem wq456 : (Jvm.Cond.methodLink "WeirStream$Stage" (282 : Nat) ({ cls := "WeirStream$Row", name := "remove", desc := "(II)V" } : Jvm.MethodName)) ∈ lw_all := lw_in (lw_tb (List.mem_of_getElem? (i := 456) (by decide +kernel))) rfl
theorem wq457 : (Jvm.Cond.methodLink "WeirStream$Stage" (302 : Nat) ({ cls := "WeirStream$Item", name := "mark", desc := "(I)J" } : Jvm.MethodName)) ∈ lw_all := lw_in (lw_tb (List.mem_of_getElem? (i := 457) (by decide +kernel))) rfl
theorem wq458 : (Jvm.Cond.static ({ cls := "WeirStream$Item", name := "mark", desc := "(I)J" } : Jvm.MethodName)) ∈ lw_all := lw_in (lw_tb (List.mem_of_getElem? (i := 458) (by decide +kernel))) rfl
theorem wq459 : (Jvm.Cond.code ({ cls := "WeirStream$Item", name := "mark", desc := "(I)J" } : Jvm.MethodName) prog_5_method_3_code (1 : Nat) (Option.some Jvm.ClassFile.FieldType.long)) ∈ lw_all := lw_in (lw_tb (List.mem_of_getElem? (i := 459) (by decide +kernel))) rfl
theorem wq480 : (Jvm.Cond.methodLink "WeirStream$Stage" (133 : Nat) ({ cls := "WeirStream$Stage", name := "passes", desc := "(J)Z" } : Jvm.MethodName)) ∈ lw_all := lw_in (lw_tb (List.mem_of_getElem? (i := 480) (by decide +kernel))) rfl
theorem wq482 : (Jvm.Cond.instanceMethod ({ cls := "WeirStream$Stage", name := "passes", desc := "(J)Z" } : Jvm.MethodName)) ∈ lw_all := lw_in (lw_tb (List.mem_of_getElem? (i := 482) (by decide +kernel))) rfl
theorem wq483 : (Jvm.Cond.code ({ cls := "WeirStream$Stage", name := "passes", desc := "(J)Z" } : Jvm.MethodName) prog_10_method_9_code (5 : Nat) (Option.some Jvm.ClassFile.FieldType.boolean)) ∈ lw_all := lw_in (lw_tb (List.mem_of_getElem? (i := 483) (by decide +kernel))) rfl
theorem wq494 : (Jvm.Cond.methodLink "WeirStream$Stage" (137 : Nat) ({ cls := "WeirStream$Stage", name := "mapped", desc := "(J)J" } : Jvm.MethodName)) ∈ lw_all := lw_in (lw_tb (List.mem_of_getElem? (i := 494) (by decide +kernel))) rfl
theorem wq496 : (Jvm.Cond.instanceMethod ({ cls := "WeirStream$Stage", name := "mapped", desc := "(J)J" } : Jvm.MethodName)) ∈ lw_all := lw_in (lw_tb (List.mem_of_getElem? (i := 496) (by decide +kernel))) rfl
theorem wq497 : (Jvm.Cond.code ({ cls := "WeirStream$Stage", name := "mapped", desc := "(J)J" } : Jvm.MethodName) prog_10_method_10_code (7 : Nat) (Option.some Jvm.ClassFile.FieldType.long)) ∈ lw_all := lw_in (lw_tb (List.mem_of_getElem? (i := 497) (by decide +kernel))) rfl
theorem wq498 : (Jvm.Cond.methodLink "WeirStream$Stage" (141 : Nat) ({ cls := "WeirStream$Stage", name := "takeIntoWindows", desc := "(J)V" } : Jvm.MethodName)) ∈ lw_all := lw_in (lw_tb (List.mem_of_getElem? (i := 498) (by decide +kernel))) rfl
theorem wq500 : (Jvm.Cond.instanceMethod ({ cls := "WeirStream$Stage", name := "takeIntoWindows", desc := "(J)V" } : Jvm.MethodName)) ∈ lw_all := lw_in (lw_tb (List.mem_of_getElem? (i := 500) (by decide +kernel))) rfl
theorem wq501 : (Jvm.Cond.code ({ cls := "WeirStream$Stage", name := "takeIntoWindows", desc := "(J)V" } : Jvm.MethodName) prog_10_method_12_code (10 : Nat) (Option.none : Option Jvm.ClassFile.FieldType)) ∈ lw_all := lw_in (lw_tb (List.mem_of_getElem? (i := 501) (by decide +kernel))) rfl
theorem wq502 : (Jvm.Cond.methodLink "WeirStream$Stage" (182 : Nat) ({ cls := "java/lang/Math", name := "floorDiv", desc := "(II)I" } : Jvm.MethodName)) ∈ lw_all := lw_in (lw_tb (List.mem_of_getElem? (i := 502) (by decide +kernel))) rfl
theorem wq503 : (Jvm.Cond.static ({ cls := "java/lang/Math", name := "floorDiv", desc := "(II)I" } : Jvm.MethodName)) ∈ lw_all := lw_in (lw_tb (List.mem_of_getElem? (i := 503) (by decide +kernel))) rfl
theorem wq504 : (Jvm.Cond.code ({ cls := "java/lang/Math", name := "floorDiv", desc := "(II)I" } : Jvm.MethodName) prog_24_method_47_code (3 : Nat) (Option.some Jvm.ClassFile.FieldType.int)) ∈ lw_all := lw_in (lw_tb (List.mem_of_getElem? (i := 504) (by decide +kernel))) rfl
theorem wq505 : (Jvm.Cond.methodLink "WeirStream$Stage" (190 : Nat) ({ cls := "WeirStream$Stage", name := "takeIntoWindow", desc := "(JII)I" } : Jvm.MethodName)) ∈ lw_all := lw_in (lw_tb (List.mem_of_getElem? (i := 505) (by decide +kernel))) rfl
theorem wq507 : (Jvm.Cond.instanceMethod ({ cls := "WeirStream$Stage", name := "takeIntoWindow", desc := "(JII)I" } : Jvm.MethodName)) ∈ lw_all := lw_in (lw_tb (List.mem_of_getElem? (i := 507) (by decide +kernel))) rfl
theorem wq508 : (Jvm.Cond.code ({ cls := "WeirStream$Stage", name := "takeIntoWindow", desc := "(JII)I" } : Jvm.MethodName) prog_10_method_13_code (11 : Nat) (Option.some Jvm.ClassFile.FieldType.int)) ∈ lw_all := lw_in (lw_tb (List.mem_of_getElem? (i := 508) (by decide +kernel))) rfl
theorem wq509 : (Jvm.Cond.methodLink "WeirStream$Stage" (205 : Nat) ({ cls := "WeirStream$Spans", name := "name", desc := "(III)J" } : Jvm.MethodName)) ∈ lw_all := lw_in (lw_tb (List.mem_of_getElem? (i := 509) (by decide +kernel))) rfl
theorem wq510 : (Jvm.Cond.static ({ cls := "WeirStream$Spans", name := "name", desc := "(III)J" } : Jvm.MethodName)) ∈ lw_all := lw_in (lw_tb (List.mem_of_getElem? (i := 510) (by decide +kernel))) rfl
theorem wq511 : (Jvm.Cond.code ({ cls := "WeirStream$Spans", name := "name", desc := "(III)J" } : Jvm.MethodName) prog_9_method_2_code (3 : Nat) (Option.some Jvm.ClassFile.FieldType.long)) ∈ lw_all := lw_in (lw_tb (List.mem_of_getElem? (i := 511) (by decide +kernel))) rfl
theorem wq512 : (Jvm.Cond.methodLink "WeirStream$Stage" (210 : Nat) ({ cls := "WeirStream$Spans", name := "placeFor", desc := "(J)I" } : Jvm.MethodName)) ∈ lw_all := lw_in (lw_tb (List.mem_of_getElem? (i := 512) (by decide +kernel))) rfl
theorem wq513 : (Jvm.Cond.methodLink "WeirStream$Stage" (216 : Nat) ({ cls := "WeirStream$Account", name := "ofOne", desc := "(IJ)J" } : Jvm.MethodName)) ∈ lw_all := lw_in (lw_tb (List.mem_of_getElem? (i := 513) (by decide +kernel))) rfl
theorem wq514 : (Jvm.Cond.static ({ cls := "WeirStream$Account", name := "ofOne", desc := "(IJ)J" } : Jvm.MethodName)) ∈ lw_all := lw_in (lw_tb (List.mem_of_getElem? (i := 514) (by decide +kernel))) rfl
theorem wq515 : (Jvm.Cond.code ({ cls := "WeirStream$Account", name := "ofOne", desc := "(IJ)J" } : Jvm.MethodName) prog_2_method_5_code (4 : Nat) (Option.some Jvm.ClassFile.FieldType.long)) ∈ lw_all := lw_in (lw_tb (List.mem_of_getElem? (i := 515) (by decide +kernel))) rfl
theorem wq522 : (Jvm.Cond.methodLink "WeirStream$Stage" (222 : Nat) ({ cls := "WeirStream$Spans", name := "isAt", desc := "(IJ)Z" } : Jvm.MethodName)) ∈ lw_all := lw_in (lw_tb (List.mem_of_getElem? (i := 522) (by decide +kernel))) rfl
theorem wq523 : (Jvm.Cond.instanceMethod ({ cls := "WeirStream$Spans", name := "isAt", desc := "(IJ)Z" } : Jvm.MethodName)) ∈ lw_all := lw_in (lw_tb (List.mem_of_getElem? (i := 523) (by decide +kernel))) rfl
theorem wq524 : (Jvm.Cond.selects "WeirStream$Spans" ({ cls := "WeirStream$Spans", name := "isAt", desc := "(IJ)Z" } : Jvm.MethodName) ({ cls := "WeirStream$Spans", name := "isAt", desc := "(IJ)Z" } : Jvm.MethodName)) ∈ lw_all := lw_in (lw_tb (List.mem_of_getElem? (i := 524) (by decide +kernel))) rfl
theorem wq525 : (Jvm.Cond.code ({ cls := "WeirStream$Spans", name := "isAt", desc := "(IJ)Z" } : Jvm.MethodName) prog_9_method_11_code (4 : Nat) (Option.some Jvm.ClassFile.FieldType.boolean)) ∈ lw_all := lw_in (lw_tb (List.mem_of_getElem? (i := 525) (by decide +kernel))) rfl
theorem wq526 : (Jvm.Cond.methodLink "WeirStream$Stage" (229 : Nat) ({ cls := "WeirStream$Account", name := "ofBoth", desc := "(IJJ)J" } : Jvm.MethodName)) ∈ lw_all := lw_in (lw_tb (List.mem_of_getElem? (i := 526) (by decide +kernel))) rfl
theorem wq527 : (Jvm.Cond.static ({ cls := "WeirStream$Account", name := "ofBoth", desc := "(IJJ)J" } : Jvm.MethodName)) ∈ lw_all := lw_in (lw_tb (List.mem_of_getElem? (i := 527) (by decide +kernel))) rfl
theorem wq528 : (Jvm.Cond.code ({ cls := "WeirStream$Account", name := "ofBoth", desc := "(IJJ)J" } : Jvm.MethodName) prog_2_method_6_code (8 : Nat) (Option.some Jvm.ClassFile.FieldType.long)) ∈ lw_all := lw_in (lw_tb (List.mem_of_getElem? (i := 528) (by decide +kernel))) rfl
theorem wq531 : (Jvm.Cond.methodLink "WeirStream$Stage" (233 : Nat) ({ cls := "WeirStream$Spans", name := "setAccount", desc := "(IJ)V" } : Jvm.MethodName)) ∈ lw_all := lw_in (lw_tb (List.mem_of_getElem? (i := 531) (by decide +kernel))) rfl
theorem wq532 : (Jvm.Cond.instanceMethod ({ cls := "WeirStream$Spans", name := "setAccount", desc := "(IJ)V" } : Jvm.MethodName)) ∈ lw_all := lw_in (lw_tb (List.mem_of_getElem? (i := 532) (by decide +kernel))) rfl
theorem wq533 : (Jvm.Cond.selects "WeirStream$Spans" ({ cls := "WeirStream$Spans", name := "setAccount", desc := "(IJ)V" } : Jvm.MethodName) ({ cls := "WeirStream$Spans", name := "setAccount", desc := "(IJ)V" } : Jvm.MethodName)) ∈ lw_all := lw_in (lw_tb (List.mem_of_getElem? (i := 533) (by decide +kernel))) rfl
theorem wq534 : (Jvm.Cond.code ({ cls := "WeirStream$Spans", name := "setAccount", desc := "(IJ)V" } : Jvm.MethodName) prog_9_method_13_code (4 : Nat) (Option.none : Option Jvm.ClassFile.FieldType)) ∈ lw_all := lw_in (lw_tb (List.mem_of_getElem? (i := 534) (by decide +kernel))) rfl
theorem wq539 : (Jvm.Cond.methodLink "WeirStream$Stage" (237 : Nat) ({ cls := "WeirStream$Spans", name := "insert", desc := "(IJJ)V" } : Jvm.MethodName)) ∈ lw_all := lw_in (lw_tb (List.mem_of_getElem? (i := 539) (by decide +kernel))) rfl
theorem wq540 : (Jvm.Cond.instanceMethod ({ cls := "WeirStream$Spans", name := "insert", desc := "(IJJ)V" } : Jvm.MethodName)) ∈ lw_all := lw_in (lw_tb (List.mem_of_getElem? (i := 540) (by decide +kernel))) rfl
theorem wq541 : (Jvm.Cond.selects "WeirStream$Spans" ({ cls := "WeirStream$Spans", name := "insert", desc := "(IJJ)V" } : Jvm.MethodName) ({ cls := "WeirStream$Spans", name := "insert", desc := "(IJJ)V" } : Jvm.MethodName)) ∈ lw_all := lw_in (lw_tb (List.mem_of_getElem? (i := 541) (by decide +kernel))) rfl
theorem wq542 : (Jvm.Cond.code ({ cls := "WeirStream$Spans", name := "insert", desc := "(IJJ)V" } : Jvm.MethodName) prog_9_method_12_code (6 : Nat) (Option.none : Option Jvm.ClassFile.FieldType)) ∈ lw_all := lw_in (lw_tb (List.mem_of_getElem? (i := 542) (by decide +kernel))) rfl
theorem wq547 : (Jvm.Cond.methodLink "WeirStream$Stage" (144 : Nat) ({ cls := "WeirStream$Stage", name := "takeIntoSession", desc := "(J)V" } : Jvm.MethodName)) ∈ lw_all := lw_in (lw_tb (List.mem_of_getElem? (i := 547) (by decide +kernel))) rfl
theorem wq549 : (Jvm.Cond.instanceMethod ({ cls := "WeirStream$Stage", name := "takeIntoSession", desc := "(J)V" } : Jvm.MethodName)) ∈ lw_all := lw_in (lw_tb (List.mem_of_getElem? (i := 549) (by decide +kernel))) rfl
theorem wq550 : (Jvm.Cond.code ({ cls := "WeirStream$Stage", name := "takeIntoSession", desc := "(J)V" } : Jvm.MethodName) prog_10_method_14_code (13 : Nat) (Option.none : Option Jvm.ClassFile.FieldType)) ∈ lw_all := lw_in (lw_tb (List.mem_of_getElem? (i := 550) (by decide +kernel))) rfl
theorem wq551 : (Jvm.Cond.methodLink "WeirStream$Stage" (244 : Nat) ({ cls := "WeirStream$Spans", name := "length", desc := "()I" } : Jvm.MethodName)) ∈ lw_all := lw_in (lw_tb (List.mem_of_getElem? (i := 551) (by decide +kernel))) rfl
theorem wq555 : (Jvm.Cond.methodLink "WeirStream$Stage" (249 : Nat) ({ cls := "WeirStream$Spans", name := "beginAt", desc := "(I)I" } : Jvm.MethodName)) ∈ lw_all := lw_in (lw_tb (List.mem_of_getElem? (i := 555) (by decide +kernel))) rfl
theorem wq556 : (Jvm.Cond.instanceMethod ({ cls := "WeirStream$Spans", name := "beginAt", desc := "(I)I" } : Jvm.MethodName)) ∈ lw_all := lw_in (lw_tb (List.mem_of_getElem? (i := 556) (by decide +kernel))) rfl
theorem wq557 : (Jvm.Cond.selects "WeirStream$Spans" ({ cls := "WeirStream$Spans", name := "beginAt", desc := "(I)I" } : Jvm.MethodName) ({ cls := "WeirStream$Spans", name := "beginAt", desc := "(I)I" } : Jvm.MethodName)) ∈ lw_all := lw_in (lw_tb (List.mem_of_getElem? (i := 557) (by decide +kernel))) rfl
theorem wq558 : (Jvm.Cond.code ({ cls := "WeirStream$Spans", name := "beginAt", desc := "(I)I" } : Jvm.MethodName) prog_9_method_6_code (2 : Nat) (Option.some Jvm.ClassFile.FieldType.int)) ∈ lw_all := lw_in (lw_tb (List.mem_of_getElem? (i := 558) (by decide +kernel))) rfl
theorem wq560 : (Jvm.Cond.methodLink "WeirStream$Stage" (255 : Nat) ({ cls := "java/lang/Math", name := "min", desc := "(II)I" } : Jvm.MethodName)) ∈ lw_all := lw_in (lw_tb (List.mem_of_getElem? (i := 560) (by decide +kernel))) rfl
theorem wq561 : (Jvm.Cond.methodLink "WeirStream$Stage" (258 : Nat) ({ cls := "java/lang/Math", name := "max", desc := "(II)I" } : Jvm.MethodName)) ∈ lw_all := lw_in (lw_tb (List.mem_of_getElem? (i := 561) (by decide +kernel))) rfl
theorem wq562 : (Jvm.Cond.methodLink "WeirStream$Stage" (147 : Nat) ({ cls := "WeirStream$Stage", name := "takeIntoJoin", desc := "(JZ)V" } : Jvm.MethodName)) ∈ lw_all := lw_in (lw_tb (List.mem_of_getElem? (i := 562) (by decide +kernel))) rfl
theorem wq564 : (Jvm.Cond.instanceMethod ({ cls := "WeirStream$Stage", name := "takeIntoJoin", desc := "(JZ)V" } : Jvm.MethodName)) ∈ lw_all := lw_in (lw_tb (List.mem_of_getElem? (i := 564) (by decide +kernel))) rfl
theorem wq565 : (Jvm.Cond.code ({ cls := "WeirStream$Stage", name := "takeIntoJoin", desc := "(JZ)V" } : Jvm.MethodName) prog_10_method_16_code (11 : Nat) (Option.none : Option Jvm.ClassFile.FieldType)) ∈ lw_all := lw_in (lw_tb (List.mem_of_getElem? (i := 565) (by decide +kernel))) rfl
theorem wq566 : (Jvm.Cond.methodLink "WeirStream$Stage" (275 : Nat) ({ cls := "WeirStream$Stage", name := "meets", desc := "(JJ)Z" } : Jvm.MethodName)) ∈ lw_all := lw_in (lw_tb (List.mem_of_getElem? (i := 566) (by decide +kernel))) rfl
theorem wq568 : (Jvm.Cond.instanceMethod ({ cls := "WeirStream$Stage", name := "meets", desc := "(JJ)Z" } : Jvm.MethodName)) ∈ lw_all := lw_in (lw_tb (List.mem_of_getElem? (i := 568) (by decide +kernel))) rfl
theorem wq569 : (Jvm.Cond.code ({ cls := "WeirStream$Stage", name := "meets", desc := "(JJ)Z" } : Jvm.MethodName) prog_10_method_17_code (7 : Nat) (Option.some Jvm.ClassFile.FieldType.boolean)) ∈ lw_all := lw_in (lw_tb (List.mem_of_getElem? (i := 569) (by decide +kernel))) rfl
theorem wq570 : (Jvm.Cond.methodLink "WeirStream$Stage" (279 : Nat) ({ cls := "WeirStream$Stage", name := "joined", desc := "(II)I" } : Jvm.MethodName)) ∈ lw_all := lw_in (lw_tb (List.mem_of_getElem? (i := 570) (by decide +kernel))) rfl
theorem wq572 : (Jvm.Cond.instanceMethod ({ cls := "WeirStream$Stage", name := "joined", desc := "(II)I" } : Jvm.MethodName)) ∈ lw_all := lw_in (lw_tb (List.mem_of_getElem? (i := 572) (by decide +kernel))) rfl
theorem wq573 : (Jvm.Cond.code ({ cls := "WeirStream$Stage", name := "joined", desc := "(II)I" } : Jvm.MethodName) prog_10_method_18_code (3 : Nat) (Option.some Jvm.ClassFile.FieldType.int)) ∈ lw_all := lw_in (lw_tb (List.mem_of_getElem? (i := 573) (by decide +kernel))) rfl
theorem wq574 : (Jvm.Cond.methodLink "WeirStream$Stage" (151 : Nat) ({ cls := "WeirStream$Stage", name := "putOut", desc := "(J)V" } : Jvm.MethodName)) ∈ lw_all := lw_in (lw_tb (List.mem_of_getElem? (i := 574) (by decide +kernel))) rfl
theorem wq576 : (Jvm.Cond.instanceMethod ({ cls := "WeirStream$Stage", name := "putOut", desc := "(J)V" } : Jvm.MethodName)) ∈ lw_all := lw_in (lw_tb (List.mem_of_getElem? (i := 576) (by decide +kernel))) rfl
theorem wq577 : (Jvm.Cond.code ({ cls := "WeirStream$Stage", name := "putOut", desc := "(J)V" } : Jvm.MethodName) prog_10_method_11_code (3 : Nat) (Option.none : Option Jvm.ClassFile.FieldType)) ∈ lw_all := lw_in (lw_tb (List.mem_of_getElem? (i := 577) (by decide +kernel))) rfl
theorem wr847 : (Jvm.Cond.fieldLinkNest "WeirStream$Stage" (185 : Nat) "WeirStream$Plan" "size" "I" "WeirStream") ∈ lw_tbl := lw_tb (List.mem_of_getElem? (i := 847) (by decide +kernel))
theorem wr849 : (Jvm.Cond.fieldLinkNest "WeirStream$Stage" (179 : Nat) "WeirStream$Plan" "step" "I" "WeirStream") ∈ lw_tbl := lw_tb (List.mem_of_getElem? (i := 849) (by decide +kernel))
theorem wr851 : (Jvm.Cond.fieldLinkNest "WeirStream$Stage" (187 : Nat) "WeirStream$Plan" "lateness" "I" "WeirStream") ∈ lw_tbl := lw_tb (List.mem_of_getElem? (i := 851) (by decide +kernel))
theorem wr853 : (Jvm.Cond.fieldLinkNest "WeirStream$Stage" (241 : Nat) "WeirStream$Plan" "gap" "I" "WeirStream") ∈ lw_tbl := lw_tb (List.mem_of_getElem? (i := 853) (by decide +kernel))
theorem wr859 : (Jvm.Cond.fieldLinkNest "WeirStream$Stage" (213 : Nat) "WeirStream$Plan" "account" "I" "WeirStream") ∈ lw_tbl := lw_tb (List.mem_of_getElem? (i := 859) (by decide +kernel))
theorem wr1055 : (Jvm.Cond.fieldLinkNest "WeirStream$Stage" (292 : Nat) "WeirStream$State" "firstMark" "I" "WeirStream") ∈ lw_tbl := lw_tb (List.mem_of_getElem? (i := 1055) (by decide +kernel))
theorem wr1057 : (Jvm.Cond.fieldLinkNest "WeirStream$Stage" (289 : Nat) "WeirStream$State" "secondMark" "I" "WeirStream") ∈ lw_tbl := lw_tb (List.mem_of_getElem? (i := 1057) (by decide +kernel))
theorem wr1068 : (Jvm.Cond.fieldLinkNest "WeirStream$Stage" (198 : Nat) "WeirStream$State" "late" "I" "WeirStream") ∈ lw_tbl := lw_tb (List.mem_of_getElem? (i := 1068) (by decide +kernel))
theorem wr1074 : (Jvm.Cond.fieldLinkNest "WeirStream$Stage" (201 : Nat) "WeirStream$State" "spans" "LWeirStream$Spans;" "WeirStream") ∈ lw_tbl := lw_tb (List.mem_of_getElem? (i := 1074) (by decide +kernel))
theorem wr1077 : (Jvm.Cond.fieldLinkNest "WeirStream$Stage" (269 : Nat) "WeirStream$State" "left" "LWeirStream$Row;" "WeirStream") ∈ lw_tbl := lw_tb (List.mem_of_getElem? (i := 1077) (by decide +kernel))
theorem wr1079 : (Jvm.Cond.fieldLinkNest "WeirStream$Stage" (272 : Nat) "WeirStream$State" "right" "LWeirStream$Row;" "WeirStream") ∈ lw_tbl := lw_tb (List.mem_of_getElem? (i := 1079) (by decide +kernel))
theorem ws8 : Cond.selects "WeirStream$Stage" ⟨"WeirStream$Stage", "fireFrom", "(I)V"⟩ ⟨"WeirStream$Stage", "fireFrom", "(I)V"⟩ ∈ lw_all := lw_in (lw_ps (List.mem_of_getElem? (i := 8) (by decide +kernel))) rfl
theorem ws9 : Cond.selects "WeirStream$Stage" ⟨"WeirStream$Stage", "fire", "(I)V"⟩ ⟨"WeirStream$Stage", "fire", "(I)V"⟩ ∈ lw_all := lw_in (lw_ps (List.mem_of_getElem? (i := 9) (by decide +kernel))) rfl
theorem ws10 : Cond.selects "WeirStream$Stage" ⟨"WeirStream$Stage", "passes", "(J)Z"⟩ ⟨"WeirStream$Stage", "passes", "(J)Z"⟩ ∈ lw_all := lw_in (lw_ps (List.mem_of_getElem? (i := 10) (by decide +kernel))) rfl
theorem ws11 : Cond.selects "WeirStream$Stage" ⟨"WeirStream$Stage", "mapped", "(J)J"⟩ ⟨"WeirStream$Stage", "mapped", "(J)J"⟩ ∈ lw_all := lw_in (lw_ps (List.mem_of_getElem? (i := 11) (by decide +kernel))) rfl
theorem ws12 : Cond.selects "WeirStream$Stage" ⟨"WeirStream$Stage", "takeIntoWindows", "(J)V"⟩ ⟨"WeirStream$Stage", "takeIntoWindows", "(J)V"⟩ ∈ lw_all := lw_in (lw_ps (List.mem_of_getElem? (i := 12) (by decide +kernel))) rfl
theorem ws13 : Cond.selects "WeirStream$Stage" ⟨"WeirStream$Stage", "takeIntoWindow", "(JII)I"⟩ ⟨"WeirStream$Stage", "takeIntoWindow", "(JII)I"⟩ ∈ lw_all := lw_in (lw_ps (List.mem_of_getElem? (i := 13) (by decide +kernel))) rfl
theorem ws14 : Cond.selects "WeirStream$Stage" ⟨"WeirStream$Stage", "takeIntoSession", "(J)V"⟩ ⟨"WeirStream$Stage", "takeIntoSession", "(J)V"⟩ ∈ lw_all := lw_in (lw_ps (List.mem_of_getElem? (i := 14) (by decide +kernel))) rfl
theorem ws15 : Cond.selects "WeirStream$Stage" ⟨"WeirStream$Stage", "takeIntoJoin", "(JZ)V"⟩ ⟨"WeirStream$Stage", "takeIntoJoin", "(JZ)V"⟩ ∈ lw_all := lw_in (lw_ps (List.mem_of_getElem? (i := 15) (by decide +kernel))) rfl
theorem ws16 : Cond.selects "WeirStream$Stage" ⟨"WeirStream$Stage", "meets", "(JJ)Z"⟩ ⟨"WeirStream$Stage", "meets", "(JJ)Z"⟩ ∈ lw_all := lw_in (lw_ps (List.mem_of_getElem? (i := 16) (by decide +kernel))) rfl
theorem ws17 : Cond.selects "WeirStream$Stage" ⟨"WeirStream$Stage", "joined", "(II)I"⟩ ⟨"WeirStream$Stage", "joined", "(II)I"⟩ ∈ lw_all := lw_in (lw_ps (List.mem_of_getElem? (i := 17) (by decide +kernel))) rfl
theorem ws18 : Cond.selects "WeirStream$Stage" ⟨"WeirStream$Stage", "putOut", "(J)V"⟩ ⟨"WeirStream$Stage", "putOut", "(J)V"⟩ ∈ lw_all := lw_in (lw_ps (List.mem_of_getElem? (i := 18) (by decide +kernel))) rfl
theorem dX8_takeIntoWindow_0 : decode cX8_takeIntoWindow 0 = .ok (.aload_n 0, 1) := by decide +kernel
theorem dX8_takeIntoWindow_1 : decode cX8_takeIntoWindow 1 = .ok (.getfield 28, 3) := by decide +kernel
theorem dX8_takeIntoWindow_4 : decode cX8_takeIntoWindow 4 = .ok (.getfield 201, 3) := by decide +kernel
theorem dX8_takeIntoWindow_7 : decode cX8_takeIntoWindow 7 = .ok (.astore 5, 2) := by decide +kernel
theorem dX8_takeIntoWindow_9 : decode cX8_takeIntoWindow 9 = .ok (.iload 4, 2) := by decide +kernel
theorem dX8_takeIntoWindow_11 : decode cX8_takeIntoWindow 11 = .ok (.lload_n 1, 1) := by decide +kernel
theorem dX8_takeIntoWindow_12 : decode cX8_takeIntoWindow 12 = .ok (.invokestatic 163, 3) := by decide +kernel
theorem dX8_takeIntoWindow_15 : decode cX8_takeIntoWindow 15 = .ok (.iload_n 3, 1) := by decide +kernel
theorem dX8_takeIntoWindow_16 : decode cX8_takeIntoWindow 16 = .ok (.invokestatic 205, 3) := by decide +kernel
theorem dX8_takeIntoWindow_19 : decode cX8_takeIntoWindow 19 = .ok (.lstore 6, 2) := by decide +kernel
theorem dX8_takeIntoWindow_21 : decode cX8_takeIntoWindow 21 = .ok (.aload 5, 2) := by decide +kernel
theorem dX8_takeIntoWindow_23 : decode cX8_takeIntoWindow 23 = .ok (.lload 6, 2) := by decide +kernel
theorem dX8_takeIntoWindow_25 : decode cX8_takeIntoWindow 25 = .ok (.invokevirtual 210, 3) := by decide +kernel
theorem dX8_takeIntoWindow_28 : decode cX8_takeIntoWindow 28 = .ok (.istore 8, 2) := by decide +kernel
theorem dX8_takeIntoWindow_30 : decode cX8_takeIntoWindow 30 = .ok (.aload_n 0, 1) := by decide +kernel
theorem dX8_takeIntoWindow_31 : decode cX8_takeIntoWindow 31 = .ok (.getfield 38, 3) := by decide +kernel
theorem dX8_takeIntoWindow_34 : decode cX8_takeIntoWindow 34 = .ok (.getfield 213, 3) := by decide +kernel
theorem dX8_takeIntoWindow_37 : decode cX8_takeIntoWindow 37 = .ok (.lload_n 1, 1) := by decide +kernel
theorem dX8_takeIntoWindow_38 : decode cX8_takeIntoWindow 38 = .ok (.invokestatic 216, 3) := by decide +kernel
theorem dX8_takeIntoWindow_41 : decode cX8_takeIntoWindow 41 = .ok (.lstore 9, 2) := by decide +kernel
theorem dX8_takeIntoWindow_43 : decode cX8_takeIntoWindow 43 = .ok (.aload 5, 2) := by decide +kernel
theorem dX8_takeIntoWindow_45 : decode cX8_takeIntoWindow 45 = .ok (.iload 8, 2) := by decide +kernel
theorem dX8_takeIntoWindow_47 : decode cX8_takeIntoWindow 47 = .ok (.lload 6, 2) := by decide +kernel
theorem dX8_takeIntoWindow_49 : decode cX8_takeIntoWindow 49 = .ok (.invokevirtual 222, 3) := by decide +kernel
theorem dX8_takeIntoWindow_52 : decode cX8_takeIntoWindow 52 = .ok (.ifCond .eq 36, 3) := by decide +kernel
theorem dX8_takeIntoWindow_88 : decode cX8_takeIntoWindow 88 = .ok (.aload 5, 2) := by decide +kernel
theorem dX8_takeIntoWindow_90 : decode cX8_takeIntoWindow 90 = .ok (.iload 8, 2) := by decide +kernel
theorem dX8_takeIntoWindow_92 : decode cX8_takeIntoWindow 92 = .ok (.lload 6, 2) := by decide +kernel
theorem dX8_takeIntoWindow_94 : decode cX8_takeIntoWindow 94 = .ok (.lload 9, 2) := by decide +kernel
theorem dX8_takeIntoWindow_96 : decode cX8_takeIntoWindow 96 = .ok (.invokevirtual 237, 3) := by decide +kernel
theorem dX8_takeIntoWindow_99 : decode cX8_takeIntoWindow 99 = .ok (.iload 8, 2) := by decide +kernel
theorem dX8_takeIntoWindow_101 : decode cX8_takeIntoWindow 101 = .ok (.ireturn, 1) := by decide +kernel
theorem dX8_takeIntoWindow_55 : decode cX8_takeIntoWindow 55 = .ok (.aload_n 0, 1) := by decide +kernel
theorem dX8_takeIntoWindow_56 : decode cX8_takeIntoWindow 56 = .ok (.getfield 38, 3) := by decide +kernel
theorem dX8_takeIntoWindow_59 : decode cX8_takeIntoWindow 59 = .ok (.getfield 213, 3) := by decide +kernel
theorem dX8_takeIntoWindow_62 : decode cX8_takeIntoWindow 62 = .ok (.aload 5, 2) := by decide +kernel
theorem dX8_takeIntoWindow_64 : decode cX8_takeIntoWindow 64 = .ok (.iload 8, 2) := by decide +kernel
theorem dX8_takeIntoWindow_66 : decode cX8_takeIntoWindow 66 = .ok (.invokevirtual 226, 3) := by decide +kernel
theorem dX8_takeIntoWindow_69 : decode cX8_takeIntoWindow 69 = .ok (.lload 9, 2) := by decide +kernel
theorem dX8_takeIntoWindow_71 : decode cX8_takeIntoWindow 71 = .ok (.invokestatic 229, 3) := by decide +kernel
theorem dX8_takeIntoWindow_74 : decode cX8_takeIntoWindow 74 = .ok (.lstore 9, 2) := by decide +kernel
theorem dX8_takeIntoWindow_76 : decode cX8_takeIntoWindow 76 = .ok (.aload 5, 2) := by decide +kernel
theorem dX8_takeIntoWindow_78 : decode cX8_takeIntoWindow 78 = .ok (.iload 8, 2) := by decide +kernel
theorem dX8_takeIntoWindow_80 : decode cX8_takeIntoWindow 80 = .ok (.lload 9, 2) := by decide +kernel
theorem dX8_takeIntoWindow_82 : decode cX8_takeIntoWindow 82 = .ok (.invokevirtual 233, 3) := by decide +kernel
theorem dX8_takeIntoWindow_85 : decode cX8_takeIntoWindow 85 = .ok (.goto 14, 3) := by decide +kernel
theorem dX8_fire_0 : decode cX8_fire 0 = .ok (.aload_n 0, 1) := by decide +kernel
theorem dX8_fire_1 : decode cX8_fire 1 = .ok (.getfield 38, 3) := by decide +kernel
theorem dX8_fire_4 : decode cX8_fire 4 = .ok (.getfield 213, 3) := by decide +kernel
theorem dX8_fire_7 : decode cX8_fire 7 = .ok (.aload_n 0, 1) := by decide +kernel
theorem dX8_fire_8 : decode cX8_fire 8 = .ok (.getfield 28, 3) := by decide +kernel
theorem dX8_fire_11 : decode cX8_fire 11 = .ok (.getfield 201, 3) := by decide +kernel
theorem dX8_fire_14 : decode cX8_fire 14 = .ok (.iload_n 1, 1) := by decide +kernel
theorem dX8_fire_15 : decode cX8_fire 15 = .ok (.invokevirtual 226, 3) := by decide +kernel
theorem dX8_fire_18 : decode cX8_fire 18 = .ok (.invokestatic 265, 3) := by decide +kernel
theorem dX8_fire_21 : decode cX8_fire 21 = .ok (.istore_n 2, 1) := by decide +kernel
theorem dX8_fire_22 : decode cX8_fire 22 = .ok (.aload_n 0, 1) := by decide +kernel
theorem dX8_fire_23 : decode cX8_fire 23 = .ok (.aload_n 0, 1) := by decide +kernel
theorem dX8_fire_24 : decode cX8_fire 24 = .ok (.getfield 28, 3) := by decide +kernel
theorem dX8_fire_27 : decode cX8_fire 27 = .ok (.getfield 201, 3) := by decide +kernel
theorem dX8_fire_30 : decode cX8_fire 30 = .ok (.iload_n 1, 1) := by decide +kernel
theorem dX8_fire_31 : decode cX8_fire 31 = .ok (.invokevirtual 245, 3) := by decide +kernel
theorem dX8_fire_34 : decode cX8_fire 34 = .ok (.iload_n 2, 1) := by decide +kernel
theorem dX8_fire_35 : decode cX8_fire 35 = .ok (.aload_n 0, 1) := by decide +kernel
theorem dX8_fire_36 : decode cX8_fire 36 = .ok (.getfield 28, 3) := by decide +kernel
theorem dX8_fire_39 : decode cX8_fire 39 = .ok (.getfield 201, 3) := by decide +kernel
theorem dX8_fire_42 : decode cX8_fire 42 = .ok (.iload_n 1, 1) := by decide +kernel
theorem dX8_fire_43 : decode cX8_fire 43 = .ok (.invokevirtual 252, 3) := by decide +kernel
theorem dX8_fire_46 : decode cX8_fire 46 = .ok (.iconst 1, 1) := by decide +kernel
theorem dX8_fire_47 : decode cX8_fire 47 = .ok (.isub, 1) := by decide +kernel
theorem dX8_fire_48 : decode cX8_fire 48 = .ok (.invokestatic 172, 3) := by decide +kernel
theorem dX8_fire_51 : decode cX8_fire 51 = .ok (.invokevirtual 124, 3) := by decide +kernel
theorem dX8_fire_54 : decode cX8_fire 54 = .ok (.return_, 1) := by decide +kernel
theorem dX8_takeIntoWindows_48 : decode cX8_takeIntoWindows 48 = .ok (.iload 6, 2) := by decide +kernel
theorem dX8_takeIntoWindows_50 : decode cX8_takeIntoWindows 50 = .ok (.ifCond .lt 94, 3) := by decide +kernel
theorem dX8_takeIntoWindows_53 : decode cX8_takeIntoWindows 53 = .ok (.iload 4, 2) := by decide +kernel
theorem dX8_takeIntoWindows_55 : decode cX8_takeIntoWindows 55 = .ok (.iload 6, 2) := by decide +kernel
theorem dX8_takeIntoWindows_57 : decode cX8_takeIntoWindows 57 = .ok (.aload_n 0, 1) := by decide +kernel
theorem dX8_takeIntoWindows_58 : decode cX8_takeIntoWindows 58 = .ok (.getfield 38, 3) := by decide +kernel
theorem dX8_takeIntoWindows_61 : decode cX8_takeIntoWindows 61 = .ok (.getfield 179, 3) := by decide +kernel
theorem dX8_takeIntoWindows_64 : decode cX8_takeIntoWindows 64 = .ok (.imul, 1) := by decide +kernel
theorem dX8_takeIntoWindows_65 : decode cX8_takeIntoWindows 65 = .ok (.isub, 1) := by decide +kernel
theorem dX8_takeIntoWindows_66 : decode cX8_takeIntoWindows 66 = .ok (.istore 7, 2) := by decide +kernel
theorem dX8_takeIntoWindows_68 : decode cX8_takeIntoWindows 68 = .ok (.iload 7, 2) := by decide +kernel
theorem dX8_takeIntoWindows_70 : decode cX8_takeIntoWindows 70 = .ok (.aload_n 0, 1) := by decide +kernel
theorem dX8_takeIntoWindows_71 : decode cX8_takeIntoWindows 71 = .ok (.getfield 38, 3) := by decide +kernel
theorem dX8_takeIntoWindows_74 : decode cX8_takeIntoWindows 74 = .ok (.getfield 185, 3) := by decide +kernel
theorem dX8_takeIntoWindows_77 : decode cX8_takeIntoWindows 77 = .ok (.iadd, 1) := by decide +kernel
theorem dX8_takeIntoWindows_78 : decode cX8_takeIntoWindows 78 = .ok (.istore 8, 2) := by decide +kernel
theorem dX8_takeIntoWindows_80 : decode cX8_takeIntoWindows 80 = .ok (.iload 8, 2) := by decide +kernel
theorem dX8_takeIntoWindows_82 : decode cX8_takeIntoWindows 82 = .ok (.iload_n 3, 1) := by decide +kernel
theorem dX8_takeIntoWindows_83 : decode cX8_takeIntoWindows 83 = .ok (.if_icmp .le 55, 3) := by decide +kernel
theorem dX8_takeIntoWindows_138 : decode cX8_takeIntoWindows 138 = .ok (.iinc 6 (-1), 3) := by decide +kernel
theorem dX8_takeIntoWindows_141 : decode cX8_takeIntoWindows 141 = .ok (.goto (-93), 3) := by decide +kernel
theorem dX8_takeIntoWindows_86 : decode cX8_takeIntoWindows 86 = .ok (.aload_n 0, 1) := by decide +kernel
theorem dX8_takeIntoWindows_87 : decode cX8_takeIntoWindows 87 = .ok (.getfield 28, 3) := by decide +kernel
theorem dX8_takeIntoWindows_90 : decode cX8_takeIntoWindows 90 = .ok (.getfield 82, 3) := by decide +kernel
theorem dX8_takeIntoWindows_93 : decode cX8_takeIntoWindows 93 = .ok (.iload 8, 2) := by decide +kernel
theorem dX8_takeIntoWindows_95 : decode cX8_takeIntoWindows 95 = .ok (.aload_n 0, 1) := by decide +kernel
theorem dX8_takeIntoWindows_96 : decode cX8_takeIntoWindows 96 = .ok (.getfield 38, 3) := by decide +kernel
theorem dX8_takeIntoWindows_99 : decode cX8_takeIntoWindows 99 = .ok (.getfield 187, 3) := by decide +kernel
theorem dX8_takeIntoWindows_102 : decode cX8_takeIntoWindows 102 = .ok (.iadd, 1) := by decide +kernel
theorem dX8_takeIntoWindows_103 : decode cX8_takeIntoWindows 103 = .ok (.if_icmp .ge 35, 3) := by decide +kernel
theorem dX8_takeIntoWindows_106 : decode cX8_takeIntoWindows 106 = .ok (.iconst 0, 1) := by decide +kernel
theorem dX8_takeIntoWindows_107 : decode cX8_takeIntoWindows 107 = .ok (.istore 5, 2) := by decide +kernel
theorem dX8_takeIntoWindows_109 : decode cX8_takeIntoWindows 109 = .ok (.aload_n 0, 1) := by decide +kernel
theorem dX8_takeIntoWindows_110 : decode cX8_takeIntoWindows 110 = .ok (.lload_n 1, 1) := by decide +kernel
theorem dX8_takeIntoWindows_111 : decode cX8_takeIntoWindows 111 = .ok (.iload 7, 2) := by decide +kernel
theorem dX8_takeIntoWindows_113 : decode cX8_takeIntoWindows 113 = .ok (.iload 8, 2) := by decide +kernel
theorem dX8_takeIntoWindows_115 : decode cX8_takeIntoWindows 115 = .ok (.invokevirtual 190, 3) := by decide +kernel
theorem dX8_takeIntoWindows_118 : decode cX8_takeIntoWindows 118 = .ok (.istore 9, 2) := by decide +kernel
theorem dX8_takeIntoWindows_120 : decode cX8_takeIntoWindows 120 = .ok (.aload_n 0, 1) := by decide +kernel
theorem dX8_takeIntoWindows_121 : decode cX8_takeIntoWindows 121 = .ok (.getfield 28, 3) := by decide +kernel
theorem dX8_takeIntoWindows_124 : decode cX8_takeIntoWindows 124 = .ok (.getfield 82, 3) := by decide +kernel
theorem dX8_takeIntoWindows_127 : decode cX8_takeIntoWindows 127 = .ok (.iload 8, 2) := by decide +kernel
theorem dX8_takeIntoWindows_129 : decode cX8_takeIntoWindows 129 = .ok (.if_icmp .lt 9, 3) := by decide +kernel
theorem dX8_takeIntoWindows_132 : decode cX8_takeIntoWindows 132 = .ok (.aload_n 0, 1) := by decide +kernel
theorem dX8_takeIntoWindows_133 : decode cX8_takeIntoWindows 133 = .ok (.iload 9, 2) := by decide +kernel
theorem dX8_takeIntoWindows_135 : decode cX8_takeIntoWindows 135 = .ok (.invokevirtual 194, 3) := by decide +kernel
theorem dX8_takeIntoWindows_0 : decode cX8_takeIntoWindows 0 = .ok (.lload_n 1, 1) := by decide +kernel
theorem dX8_takeIntoWindows_1 : decode cX8_takeIntoWindows 1 = .ok (.invokestatic 127, 3) := by decide +kernel
theorem dX8_takeIntoWindows_4 : decode cX8_takeIntoWindows 4 = .ok (.istore_n 3, 1) := by decide +kernel
theorem dX8_takeIntoWindows_5 : decode cX8_takeIntoWindows 5 = .ok (.aload_n 0, 1) := by decide +kernel
theorem dX8_takeIntoWindows_6 : decode cX8_takeIntoWindows 6 = .ok (.getfield 38, 3) := by decide +kernel
theorem dX8_takeIntoWindows_9 : decode cX8_takeIntoWindows 9 = .ok (.getfield 179, 3) := by decide +kernel
theorem dX8_takeIntoWindows_12 : decode cX8_takeIntoWindows 12 = .ok (.iconst 1, 1) := by decide +kernel
theorem dX8_takeIntoWindows_13 : decode cX8_takeIntoWindows 13 = .ok (.if_icmp .ge 7, 3) := by decide +kernel
theorem dX8_takeIntoWindows_20 : decode cX8_takeIntoWindows 20 = .ok (.iload_n 3, 1) := by decide +kernel
theorem dX8_takeIntoWindows_21 : decode cX8_takeIntoWindows 21 = .ok (.aload_n 0, 1) := by decide +kernel
theorem dX8_takeIntoWindows_22 : decode cX8_takeIntoWindows 22 = .ok (.getfield 38, 3) := by decide +kernel
theorem dX8_takeIntoWindows_25 : decode cX8_takeIntoWindows 25 = .ok (.getfield 179, 3) := by decide +kernel
theorem dX8_takeIntoWindows_28 : decode cX8_takeIntoWindows 28 = .ok (.invokestatic 182, 3) := by decide +kernel
theorem dX8_takeIntoWindows_31 : decode cX8_takeIntoWindows 31 = .ok (.aload_n 0, 1) := by decide +kernel
theorem dX8_takeIntoWindows_32 : decode cX8_takeIntoWindows 32 = .ok (.getfield 38, 3) := by decide +kernel
theorem dX8_takeIntoWindows_35 : decode cX8_takeIntoWindows 35 = .ok (.getfield 179, 3) := by decide +kernel
theorem dX8_takeIntoWindows_38 : decode cX8_takeIntoWindows 38 = .ok (.imul, 1) := by decide +kernel
theorem dX8_takeIntoWindows_39 : decode cX8_takeIntoWindows 39 = .ok (.istore 4, 2) := by decide +kernel
theorem dX8_takeIntoWindows_41 : decode cX8_takeIntoWindows 41 = .ok (.iconst 1, 1) := by decide +kernel
theorem dX8_takeIntoWindows_42 : decode cX8_takeIntoWindows 42 = .ok (.istore 5, 2) := by decide +kernel
theorem dX8_takeIntoWindows_44 : decode cX8_takeIntoWindows 44 = .ok (.bipush 7, 2) := by decide +kernel
theorem dX8_takeIntoWindows_46 : decode cX8_takeIntoWindows 46 = .ok (.istore 6, 2) := by decide +kernel
theorem dX8_takeIntoWindows_144 : decode cX8_takeIntoWindows 144 = .ok (.iload 5, 2) := by decide +kernel
theorem dX8_takeIntoWindows_146 : decode cX8_takeIntoWindows 146 = .ok (.ifCond .eq 16, 3) := by decide +kernel
theorem dX8_takeIntoWindows_162 : decode cX8_takeIntoWindows 162 = .ok (.return_, 1) := by decide +kernel
theorem dX8_takeIntoWindows_149 : decode cX8_takeIntoWindows 149 = .ok (.aload_n 0, 1) := by decide +kernel
theorem dX8_takeIntoWindows_150 : decode cX8_takeIntoWindows 150 = .ok (.getfield 28, 3) := by decide +kernel
theorem dX8_takeIntoWindows_153 : decode cX8_takeIntoWindows 153 = .ok (.dup, 1) := by decide +kernel
theorem dX8_takeIntoWindows_154 : decode cX8_takeIntoWindows 154 = .ok (.getfield 198, 3) := by decide +kernel
theorem dX8_takeIntoWindows_157 : decode cX8_takeIntoWindows 157 = .ok (.iconst 1, 1) := by decide +kernel
theorem dX8_takeIntoWindows_158 : decode cX8_takeIntoWindows 158 = .ok (.iadd, 1) := by decide +kernel
theorem dX8_takeIntoWindows_159 : decode cX8_takeIntoWindows 159 = .ok (.putfield 198, 3) := by decide +kernel
theorem dX8_takeIntoWindows_16 : decode cX8_takeIntoWindows 16 = .ok (.iload_n 3, 1) := by decide +kernel
theorem dX8_takeIntoWindows_17 : decode cX8_takeIntoWindows 17 = .ok (.goto 22, 3) := by decide +kernel
theorem dX8_takeIntoSession_76 : decode cX8_takeIntoSession 76 = .ok (.iload 11, 2) := by decide +kernel
theorem dX8_takeIntoSession_78 : decode cX8_takeIntoSession 78 = .ok (.ifCond .lt 106, 3) := by decide +kernel
theorem dX8_takeIntoSession_81 : decode cX8_takeIntoSession 81 = .ok (.aload_n 3, 1) := by decide +kernel
theorem dX8_takeIntoSession_82 : decode cX8_takeIntoSession 82 = .ok (.iload 11, 2) := by decide +kernel
theorem dX8_takeIntoSession_84 : decode cX8_takeIntoSession 84 = .ok (.invokevirtual 245, 3) := by decide +kernel
theorem dX8_takeIntoSession_87 : decode cX8_takeIntoSession 87 = .ok (.iload 4, 2) := by decide +kernel
theorem dX8_takeIntoSession_89 : decode cX8_takeIntoSession 89 = .ok (.if_icmp .ne 89, 3) := by decide +kernel
theorem dX8_takeIntoSession_92 : decode cX8_takeIntoSession 92 = .ok (.aload_n 3, 1) := by decide +kernel
theorem dX8_takeIntoSession_93 : decode cX8_takeIntoSession 93 = .ok (.iload 11, 2) := by decide +kernel
theorem dX8_takeIntoSession_95 : decode cX8_takeIntoSession 95 = .ok (.invokevirtual 249, 3) := by decide +kernel
theorem dX8_takeIntoSession_98 : decode cX8_takeIntoSession 98 = .ok (.iload 5, 2) := by decide +kernel
theorem dX8_takeIntoSession_100 : decode cX8_takeIntoSession 100 = .ok (.aload_n 0, 1) := by decide +kernel
theorem dX8_takeIntoSession_101 : decode cX8_takeIntoSession 101 = .ok (.getfield 38, 3) := by decide +kernel
theorem dX8_takeIntoSession_104 : decode cX8_takeIntoSession 104 = .ok (.getfield 241, 3) := by decide +kernel
theorem dX8_takeIntoSession_107 : decode cX8_takeIntoSession 107 = .ok (.iadd, 1) := by decide +kernel
theorem dX8_takeIntoSession_108 : decode cX8_takeIntoSession 108 = .ok (.if_icmp .ge 70, 3) := by decide +kernel
theorem dX8_takeIntoSession_178 : decode cX8_takeIntoSession 178 = .ok (.iinc 11 (-1), 3) := by decide +kernel
theorem dX8_takeIntoSession_181 : decode cX8_takeIntoSession 181 = .ok (.goto (-105), 3) := by decide +kernel
theorem dX8_takeIntoSession_111 : decode cX8_takeIntoSession 111 = .ok (.aload_n 3, 1) := by decide +kernel
theorem dX8_takeIntoSession_112 : decode cX8_takeIntoSession 112 = .ok (.iload 11, 2) := by decide +kernel
theorem dX8_takeIntoSession_114 : decode cX8_takeIntoSession 114 = .ok (.invokevirtual 252, 3) := by decide +kernel
theorem dX8_takeIntoSession_117 : decode cX8_takeIntoSession 117 = .ok (.iload 5, 2) := by decide +kernel
theorem dX8_takeIntoSession_119 : decode cX8_takeIntoSession 119 = .ok (.if_icmp .le 59, 3) := by decide +kernel
theorem dX8_takeIntoSession_122 : decode cX8_takeIntoSession 122 = .ok (.iconst 0, 1) := by decide +kernel
theorem dX8_takeIntoSession_123 : decode cX8_takeIntoSession 123 = .ok (.istore 8, 2) := by decide +kernel
theorem dX8_takeIntoSession_125 : decode cX8_takeIntoSession 125 = .ok (.iload 6, 2) := by decide +kernel
theorem dX8_takeIntoSession_127 : decode cX8_takeIntoSession 127 = .ok (.aload_n 3, 1) := by decide +kernel
theorem dX8_takeIntoSession_128 : decode cX8_takeIntoSession 128 = .ok (.iload 11, 2) := by decide +kernel
theorem dX8_takeIntoSession_130 : decode cX8_takeIntoSession 130 = .ok (.invokevirtual 249, 3) := by decide +kernel
theorem dX8_takeIntoSession_133 : decode cX8_takeIntoSession 133 = .ok (.invokestatic 255, 3) := by decide +kernel
theorem dX8_takeIntoSession_136 : decode cX8_takeIntoSession 136 = .ok (.istore 6, 2) := by decide +kernel
theorem dX8_takeIntoSession_138 : decode cX8_takeIntoSession 138 = .ok (.iload 7, 2) := by decide +kernel
theorem dX8_takeIntoSession_140 : decode cX8_takeIntoSession 140 = .ok (.aload_n 3, 1) := by decide +kernel
theorem dX8_takeIntoSession_141 : decode cX8_takeIntoSession 141 = .ok (.iload 11, 2) := by decide +kernel
theorem dX8_takeIntoSession_143 : decode cX8_takeIntoSession 143 = .ok (.invokevirtual 252, 3) := by decide +kernel
theorem dX8_takeIntoSession_146 : decode cX8_takeIntoSession 146 = .ok (.invokestatic 258, 3) := by decide +kernel
theorem dX8_takeIntoSession_149 : decode cX8_takeIntoSession 149 = .ok (.istore 7, 2) := by decide +kernel
theorem dX8_takeIntoSession_151 : decode cX8_takeIntoSession 151 = .ok (.aload_n 0, 1) := by decide +kernel
theorem dX8_takeIntoSession_152 : decode cX8_takeIntoSession 152 = .ok (.getfield 38, 3) := by decide +kernel
theorem dX8_takeIntoSession_155 : decode cX8_takeIntoSession 155 = .ok (.getfield 213, 3) := by decide +kernel
theorem dX8_takeIntoSession_158 : decode cX8_takeIntoSession 158 = .ok (.aload_n 3, 1) := by decide +kernel
theorem dX8_takeIntoSession_159 : decode cX8_takeIntoSession 159 = .ok (.iload 11, 2) := by decide +kernel
theorem dX8_takeIntoSession_161 : decode cX8_takeIntoSession 161 = .ok (.invokevirtual 226, 3) := by decide +kernel
theorem dX8_takeIntoSession_164 : decode cX8_takeIntoSession 164 = .ok (.lload 9, 2) := by decide +kernel
theorem dX8_takeIntoSession_166 : decode cX8_takeIntoSession 166 = .ok (.invokestatic 229, 3) := by decide +kernel
theorem dX8_takeIntoSession_169 : decode cX8_takeIntoSession 169 = .ok (.lstore 9, 2) := by decide +kernel
theorem dX8_takeIntoSession_171 : decode cX8_takeIntoSession 171 = .ok (.aload_n 3, 1) := by decide +kernel
theorem dX8_takeIntoSession_172 : decode cX8_takeIntoSession 172 = .ok (.iload 11, 2) := by decide +kernel
theorem dX8_takeIntoSession_174 : decode cX8_takeIntoSession 174 = .ok (.iconst 1, 1) := by decide +kernel
theorem dX8_takeIntoSession_175 : decode cX8_takeIntoSession 175 = .ok (.invokevirtual 261, 3) := by decide +kernel
theorem dX8_takeIntoSession_0 : decode cX8_takeIntoSession 0 = .ok (.aload_n 0, 1) := by decide +kernel
theorem dX8_takeIntoSession_1 : decode cX8_takeIntoSession 1 = .ok (.getfield 28, 3) := by decide +kernel
theorem dX8_takeIntoSession_4 : decode cX8_takeIntoSession 4 = .ok (.getfield 201, 3) := by decide +kernel
theorem dX8_takeIntoSession_7 : decode cX8_takeIntoSession 7 = .ok (.astore_n 3, 1) := by decide +kernel
theorem dX8_takeIntoSession_8 : decode cX8_takeIntoSession 8 = .ok (.lload_n 1, 1) := by decide +kernel
theorem dX8_takeIntoSession_9 : decode cX8_takeIntoSession 9 = .ok (.invokestatic 163, 3) := by decide +kernel
theorem dX8_takeIntoSession_12 : decode cX8_takeIntoSession 12 = .ok (.istore 4, 2) := by decide +kernel
theorem dX8_takeIntoSession_14 : decode cX8_takeIntoSession 14 = .ok (.lload_n 1, 1) := by decide +kernel
theorem dX8_takeIntoSession_15 : decode cX8_takeIntoSession 15 = .ok (.invokestatic 127, 3) := by decide +kernel
theorem dX8_takeIntoSession_18 : decode cX8_takeIntoSession 18 = .ok (.istore 5, 2) := by decide +kernel
theorem dX8_takeIntoSession_20 : decode cX8_takeIntoSession 20 = .ok (.iload 5, 2) := by decide +kernel
theorem dX8_takeIntoSession_22 : decode cX8_takeIntoSession 22 = .ok (.istore 6, 2) := by decide +kernel
theorem dX8_takeIntoSession_24 : decode cX8_takeIntoSession 24 = .ok (.iload 5, 2) := by decide +kernel
theorem dX8_takeIntoSession_26 : decode cX8_takeIntoSession 26 = .ok (.aload_n 0, 1) := by decide +kernel
theorem dX8_takeIntoSession_27 : decode cX8_takeIntoSession 27 = .ok (.getfield 38, 3) := by decide +kernel
theorem dX8_takeIntoSession_30 : decode cX8_takeIntoSession 30 = .ok (.getfield 241, 3) := by decide +kernel
theorem dX8_takeIntoSession_33 : decode cX8_takeIntoSession 33 = .ok (.iadd, 1) := by decide +kernel
theorem dX8_takeIntoSession_34 : decode cX8_takeIntoSession 34 = .ok (.istore 7, 2) := by decide +kernel
theorem dX8_takeIntoSession_36 : decode cX8_takeIntoSession 36 = .ok (.iload 7, 2) := by decide +kernel
theorem dX8_takeIntoSession_38 : decode cX8_takeIntoSession 38 = .ok (.aload_n 0, 1) := by decide +kernel
theorem dX8_takeIntoSession_39 : decode cX8_takeIntoSession 39 = .ok (.getfield 28, 3) := by decide +kernel
theorem dX8_takeIntoSession_42 : decode cX8_takeIntoSession 42 = .ok (.getfield 82, 3) := by decide +kernel
theorem dX8_takeIntoSession_45 : decode cX8_takeIntoSession 45 = .ok (.if_icmp .gt 7, 3) := by decide +kernel
theorem dX8_takeIntoSession_52 : decode cX8_takeIntoSession 52 = .ok (.iconst 0, 1) := by decide +kernel
theorem dX8_takeIntoSession_53 : decode cX8_takeIntoSession 53 = .ok (.istore 8, 2) := by decide +kernel
theorem dX8_takeIntoSession_55 : decode cX8_takeIntoSession 55 = .ok (.aload_n 0, 1) := by decide +kernel
theorem dX8_takeIntoSession_56 : decode cX8_takeIntoSession 56 = .ok (.getfield 38, 3) := by decide +kernel
theorem dX8_takeIntoSession_59 : decode cX8_takeIntoSession 59 = .ok (.getfield 213, 3) := by decide +kernel
theorem dX8_takeIntoSession_62 : decode cX8_takeIntoSession 62 = .ok (.lload_n 1, 1) := by decide +kernel
theorem dX8_takeIntoSession_63 : decode cX8_takeIntoSession 63 = .ok (.invokestatic 216, 3) := by decide +kernel
theorem dX8_takeIntoSession_66 : decode cX8_takeIntoSession 66 = .ok (.lstore 9, 2) := by decide +kernel
theorem dX8_takeIntoSession_68 : decode cX8_takeIntoSession 68 = .ok (.aload_n 3, 1) := by decide +kernel
theorem dX8_takeIntoSession_69 : decode cX8_takeIntoSession 69 = .ok (.invokevirtual 244, 3) := by decide +kernel
theorem dX8_takeIntoSession_72 : decode cX8_takeIntoSession 72 = .ok (.iconst 1, 1) := by decide +kernel
theorem dX8_takeIntoSession_73 : decode cX8_takeIntoSession 73 = .ok (.isub, 1) := by decide +kernel
theorem dX8_takeIntoSession_74 : decode cX8_takeIntoSession 74 = .ok (.istore 11, 2) := by decide +kernel
theorem dX8_takeIntoSession_184 : decode cX8_takeIntoSession 184 = .ok (.iload 8, 2) := by decide +kernel
theorem dX8_takeIntoSession_186 : decode cX8_takeIntoSession 186 = .ok (.ifCond .eq 17, 3) := by decide +kernel
theorem dX8_takeIntoSession_203 : decode cX8_takeIntoSession 203 = .ok (.iload 7, 2) := by decide +kernel
theorem dX8_takeIntoSession_205 : decode cX8_takeIntoSession 205 = .ok (.iload 4, 2) := by decide +kernel
theorem dX8_takeIntoSession_207 : decode cX8_takeIntoSession 207 = .ok (.iload 6, 2) := by decide +kernel
theorem dX8_takeIntoSession_209 : decode cX8_takeIntoSession 209 = .ok (.invokestatic 205, 3) := by decide +kernel
theorem dX8_takeIntoSession_212 : decode cX8_takeIntoSession 212 = .ok (.lstore 11, 2) := by decide +kernel
theorem dX8_takeIntoSession_214 : decode cX8_takeIntoSession 214 = .ok (.aload_n 3, 1) := by decide +kernel
theorem dX8_takeIntoSession_215 : decode cX8_takeIntoSession 215 = .ok (.aload_n 3, 1) := by decide +kernel
theorem dX8_takeIntoSession_216 : decode cX8_takeIntoSession 216 = .ok (.lload 11, 2) := by decide +kernel
theorem dX8_takeIntoSession_218 : decode cX8_takeIntoSession 218 = .ok (.invokevirtual 210, 3) := by decide +kernel
theorem dX8_takeIntoSession_221 : decode cX8_takeIntoSession 221 = .ok (.lload 11, 2) := by decide +kernel
theorem dX8_takeIntoSession_223 : decode cX8_takeIntoSession 223 = .ok (.lload 9, 2) := by decide +kernel
theorem dX8_takeIntoSession_225 : decode cX8_takeIntoSession 225 = .ok (.invokevirtual 237, 3) := by decide +kernel
theorem dX8_takeIntoSession_228 : decode cX8_takeIntoSession 228 = .ok (.return_, 1) := by decide +kernel
theorem dX8_takeIntoSession_189 : decode cX8_takeIntoSession 189 = .ok (.aload_n 0, 1) := by decide +kernel
theorem dX8_takeIntoSession_190 : decode cX8_takeIntoSession 190 = .ok (.getfield 28, 3) := by decide +kernel
theorem dX8_takeIntoSession_193 : decode cX8_takeIntoSession 193 = .ok (.dup, 1) := by decide +kernel
theorem dX8_takeIntoSession_194 : decode cX8_takeIntoSession 194 = .ok (.getfield 198, 3) := by decide +kernel
theorem dX8_takeIntoSession_197 : decode cX8_takeIntoSession 197 = .ok (.iconst 1, 1) := by decide +kernel
theorem dX8_takeIntoSession_198 : decode cX8_takeIntoSession 198 = .ok (.iadd, 1) := by decide +kernel
theorem dX8_takeIntoSession_199 : decode cX8_takeIntoSession 199 = .ok (.putfield 198, 3) := by decide +kernel
theorem dX8_takeIntoSession_202 : decode cX8_takeIntoSession 202 = .ok (.return_, 1) := by decide +kernel
theorem dX8_takeIntoSession_48 : decode cX8_takeIntoSession 48 = .ok (.iconst 1, 1) := by decide +kernel
theorem dX8_takeIntoSession_49 : decode cX8_takeIntoSession 49 = .ok (.goto 4, 3) := by decide +kernel
theorem dX8_takeIntoJoin_54 : decode cX8_takeIntoJoin 54 = .ok (.iload 5, 2) := by decide +kernel
theorem dX8_takeIntoJoin_56 : decode cX8_takeIntoJoin 56 = .ok (.aload 4, 2) := by decide +kernel
theorem dX8_takeIntoJoin_58 : decode cX8_takeIntoJoin 58 = .ok (.invokevirtual 56, 3) := by decide +kernel
theorem dX8_takeIntoJoin_61 : decode cX8_takeIntoJoin 61 = .ok (.if_icmp .ge 97, 3) := by decide +kernel
theorem dX8_takeIntoJoin_64 : decode cX8_takeIntoJoin 64 = .ok (.iload_n 3, 1) := by decide +kernel
theorem dX8_takeIntoJoin_65 : decode cX8_takeIntoJoin 65 = .ok (.ifCond .eq 13, 3) := by decide +kernel
theorem dX8_takeIntoJoin_78 : decode cX8_takeIntoJoin 78 = .ok (.lload_n 1, 1) := by decide +kernel
theorem dX8_takeIntoJoin_79 : decode cX8_takeIntoJoin 79 = .ok (.lstore 6, 2) := by decide +kernel
theorem dX8_takeIntoJoin_81 : decode cX8_takeIntoJoin 81 = .ok (.iload_n 3, 1) := by decide +kernel
theorem dX8_takeIntoJoin_82 : decode cX8_takeIntoJoin 82 = .ok (.ifCond .eq 7, 3) := by decide +kernel
theorem dX8_takeIntoJoin_89 : decode cX8_takeIntoJoin 89 = .ok (.aload 4, 2) := by decide +kernel
theorem dX8_takeIntoJoin_91 : decode cX8_takeIntoJoin 91 = .ok (.iload 5, 2) := by decide +kernel
theorem dX8_takeIntoJoin_93 : decode cX8_takeIntoJoin 93 = .ok (.invokevirtual 120, 3) := by decide +kernel
theorem dX8_takeIntoJoin_96 : decode cX8_takeIntoJoin 96 = .ok (.lstore 8, 2) := by decide +kernel
theorem dX8_takeIntoJoin_98 : decode cX8_takeIntoJoin 98 = .ok (.aload_n 0, 1) := by decide +kernel
theorem dX8_takeIntoJoin_99 : decode cX8_takeIntoJoin 99 = .ok (.lload 6, 2) := by decide +kernel
theorem dX8_takeIntoJoin_101 : decode cX8_takeIntoJoin 101 = .ok (.lload 8, 2) := by decide +kernel
theorem dX8_takeIntoJoin_103 : decode cX8_takeIntoJoin 103 = .ok (.invokevirtual 275, 3) := by decide +kernel
theorem dX8_takeIntoJoin_106 : decode cX8_takeIntoJoin 106 = .ok (.ifCond .eq 46, 3) := by decide +kernel
theorem dX8_takeIntoJoin_152 : decode cX8_takeIntoJoin 152 = .ok (.iinc 5 1, 3) := by decide +kernel
theorem dX8_takeIntoJoin_155 : decode cX8_takeIntoJoin 155 = .ok (.goto (-101), 3) := by decide +kernel
theorem dX8_takeIntoJoin_109 : decode cX8_takeIntoJoin 109 = .ok (.lload 6, 2) := by decide +kernel
theorem dX8_takeIntoJoin_111 : decode cX8_takeIntoJoin 111 = .ok (.invokestatic 127, 3) := by decide +kernel
theorem dX8_takeIntoJoin_114 : decode cX8_takeIntoJoin 114 = .ok (.lload 8, 2) := by decide +kernel
theorem dX8_takeIntoJoin_116 : decode cX8_takeIntoJoin 116 = .ok (.invokestatic 127, 3) := by decide +kernel
theorem dX8_takeIntoJoin_119 : decode cX8_takeIntoJoin 119 = .ok (.invokestatic 258, 3) := by decide +kernel
theorem dX8_takeIntoJoin_122 : decode cX8_takeIntoJoin 122 = .ok (.istore 10, 2) := by decide +kernel
theorem dX8_takeIntoJoin_124 : decode cX8_takeIntoJoin 124 = .ok (.aload_n 0, 1) := by decide +kernel
theorem dX8_takeIntoJoin_125 : decode cX8_takeIntoJoin 125 = .ok (.lload 6, 2) := by decide +kernel
theorem dX8_takeIntoJoin_127 : decode cX8_takeIntoJoin 127 = .ok (.invokestatic 163, 3) := by decide +kernel
theorem dX8_takeIntoJoin_130 : decode cX8_takeIntoJoin 130 = .ok (.aload_n 0, 1) := by decide +kernel
theorem dX8_takeIntoJoin_131 : decode cX8_takeIntoJoin 131 = .ok (.lload 6, 2) := by decide +kernel
theorem dX8_takeIntoJoin_133 : decode cX8_takeIntoJoin 133 = .ok (.invokestatic 154, 3) := by decide +kernel
theorem dX8_takeIntoJoin_136 : decode cX8_takeIntoJoin 136 = .ok (.lload 8, 2) := by decide +kernel
theorem dX8_takeIntoJoin_138 : decode cX8_takeIntoJoin 138 = .ok (.invokestatic 154, 3) := by decide +kernel
theorem dX8_takeIntoJoin_141 : decode cX8_takeIntoJoin 141 = .ok (.invokevirtual 279, 3) := by decide +kernel
theorem dX8_takeIntoJoin_144 : decode cX8_takeIntoJoin 144 = .ok (.iload 10, 2) := by decide +kernel
theorem dX8_takeIntoJoin_146 : decode cX8_takeIntoJoin 146 = .ok (.invokestatic 172, 3) := by decide +kernel
theorem dX8_takeIntoJoin_149 : decode cX8_takeIntoJoin 149 = .ok (.invokevirtual 124, 3) := by decide +kernel
theorem dX8_takeIntoJoin_68 : decode cX8_takeIntoJoin 68 = .ok (.aload 4, 2) := by decide +kernel
theorem dX8_takeIntoJoin_70 : decode cX8_takeIntoJoin 70 = .ok (.iload 5, 2) := by decide +kernel
theorem dX8_takeIntoJoin_72 : decode cX8_takeIntoJoin 72 = .ok (.invokevirtual 120, 3) := by decide +kernel
theorem dX8_takeIntoJoin_75 : decode cX8_takeIntoJoin 75 = .ok (.goto 4, 3) := by decide +kernel
theorem dX8_takeIntoJoin_85 : decode cX8_takeIntoJoin 85 = .ok (.lload_n 1, 1) := by decide +kernel
theorem dX8_takeIntoJoin_86 : decode cX8_takeIntoJoin 86 = .ok (.goto 10, 3) := by decide +kernel
theorem dX8_takeIntoJoin_0 : decode cX8_takeIntoJoin 0 = .ok (.lload_n 1, 1) := by decide +kernel
theorem dX8_takeIntoJoin_1 : decode cX8_takeIntoJoin 1 = .ok (.invokestatic 127, 3) := by decide +kernel
theorem dX8_takeIntoJoin_4 : decode cX8_takeIntoJoin 4 = .ok (.aload_n 0, 1) := by decide +kernel
theorem dX8_takeIntoJoin_5 : decode cX8_takeIntoJoin 5 = .ok (.getfield 28, 3) := by decide +kernel
theorem dX8_takeIntoJoin_8 : decode cX8_takeIntoJoin 8 = .ok (.getfield 82, 3) := by decide +kernel
theorem dX8_takeIntoJoin_11 : decode cX8_takeIntoJoin 11 = .ok (.if_icmp .ge 17, 3) := by decide +kernel
theorem dX8_takeIntoJoin_28 : decode cX8_takeIntoJoin 28 = .ok (.iload_n 3, 1) := by decide +kernel
theorem dX8_takeIntoJoin_29 : decode cX8_takeIntoJoin 29 = .ok (.ifCond .eq 13, 3) := by decide +kernel
theorem dX8_takeIntoJoin_42 : decode cX8_takeIntoJoin 42 = .ok (.aload_n 0, 1) := by decide +kernel
theorem dX8_takeIntoJoin_43 : decode cX8_takeIntoJoin 43 = .ok (.getfield 28, 3) := by decide +kernel
theorem dX8_takeIntoJoin_46 : decode cX8_takeIntoJoin 46 = .ok (.getfield 272, 3) := by decide +kernel
theorem dX8_takeIntoJoin_49 : decode cX8_takeIntoJoin 49 = .ok (.astore 4, 2) := by decide +kernel
theorem dX8_takeIntoJoin_51 : decode cX8_takeIntoJoin 51 = .ok (.iconst 0, 1) := by decide +kernel
theorem dX8_takeIntoJoin_52 : decode cX8_takeIntoJoin 52 = .ok (.istore 5, 2) := by decide +kernel
theorem dX8_takeIntoJoin_158 : decode cX8_takeIntoJoin 158 = .ok (.iload_n 3, 1) := by decide +kernel
theorem dX8_takeIntoJoin_159 : decode cX8_takeIntoJoin 159 = .ok (.ifCond .eq 13, 3) := by decide +kernel
theorem dX8_takeIntoJoin_172 : decode cX8_takeIntoJoin 172 = .ok (.aload_n 0, 1) := by decide +kernel
theorem dX8_takeIntoJoin_173 : decode cX8_takeIntoJoin 173 = .ok (.getfield 28, 3) := by decide +kernel
theorem dX8_takeIntoJoin_176 : decode cX8_takeIntoJoin 176 = .ok (.getfield 269, 3) := by decide +kernel
theorem dX8_takeIntoJoin_179 : decode cX8_takeIntoJoin 179 = .ok (.astore 5, 2) := by decide +kernel
theorem dX8_takeIntoJoin_181 : decode cX8_takeIntoJoin 181 = .ok (.aload 5, 2) := by decide +kernel
theorem dX8_takeIntoJoin_183 : decode cX8_takeIntoJoin 183 = .ok (.lload_n 1, 1) := by decide +kernel
theorem dX8_takeIntoJoin_184 : decode cX8_takeIntoJoin 184 = .ok (.invokevirtual 116, 3) := by decide +kernel
theorem dX8_takeIntoJoin_187 : decode cX8_takeIntoJoin 187 = .ok (.aload 5, 2) := by decide +kernel
theorem dX8_takeIntoJoin_189 : decode cX8_takeIntoJoin 189 = .ok (.invokevirtual 56, 3) := by decide +kernel
theorem dX8_takeIntoJoin_192 : decode cX8_takeIntoJoin 192 = .ok (.bipush 16, 2) := by decide +kernel
theorem dX8_takeIntoJoin_194 : decode cX8_takeIntoJoin 194 = .ok (.if_icmp .le 10, 3) := by decide +kernel
theorem dX8_takeIntoJoin_204 : decode cX8_takeIntoJoin 204 = .ok (.return_, 1) := by decide +kernel
theorem dX8_takeIntoJoin_197 : decode cX8_takeIntoJoin 197 = .ok (.aload 5, 2) := by decide +kernel
theorem dX8_takeIntoJoin_199 : decode cX8_takeIntoJoin 199 = .ok (.iconst 0, 1) := by decide +kernel
theorem dX8_takeIntoJoin_200 : decode cX8_takeIntoJoin 200 = .ok (.iconst 1, 1) := by decide +kernel
theorem dX8_takeIntoJoin_201 : decode cX8_takeIntoJoin 201 = .ok (.invokevirtual 282, 3) := by decide +kernel
theorem dX8_takeIntoJoin_32 : decode cX8_takeIntoJoin 32 = .ok (.aload_n 0, 1) := by decide +kernel
theorem dX8_takeIntoJoin_33 : decode cX8_takeIntoJoin 33 = .ok (.getfield 28, 3) := by decide +kernel
theorem dX8_takeIntoJoin_36 : decode cX8_takeIntoJoin 36 = .ok (.getfield 269, 3) := by decide +kernel
theorem dX8_takeIntoJoin_39 : decode cX8_takeIntoJoin 39 = .ok (.goto 10, 3) := by decide +kernel
theorem dX8_takeIntoJoin_162 : decode cX8_takeIntoJoin 162 = .ok (.aload_n 0, 1) := by decide +kernel
theorem dX8_takeIntoJoin_163 : decode cX8_takeIntoJoin 163 = .ok (.getfield 28, 3) := by decide +kernel
theorem dX8_takeIntoJoin_166 : decode cX8_takeIntoJoin 166 = .ok (.getfield 272, 3) := by decide +kernel
theorem dX8_takeIntoJoin_169 : decode cX8_takeIntoJoin 169 = .ok (.goto 10, 3) := by decide +kernel
theorem dX8_takeIntoJoin_14 : decode cX8_takeIntoJoin 14 = .ok (.aload_n 0, 1) := by decide +kernel
theorem dX8_takeIntoJoin_15 : decode cX8_takeIntoJoin 15 = .ok (.getfield 28, 3) := by decide +kernel
theorem dX8_takeIntoJoin_18 : decode cX8_takeIntoJoin 18 = .ok (.dup, 1) := by decide +kernel
theorem dX8_takeIntoJoin_19 : decode cX8_takeIntoJoin 19 = .ok (.getfield 198, 3) := by decide +kernel
theorem dX8_takeIntoJoin_22 : decode cX8_takeIntoJoin 22 = .ok (.iconst 1, 1) := by decide +kernel
theorem dX8_takeIntoJoin_23 : decode cX8_takeIntoJoin 23 = .ok (.iadd, 1) := by decide +kernel
theorem dX8_takeIntoJoin_24 : decode cX8_takeIntoJoin 24 = .ok (.putfield 198, 3) := by decide +kernel
theorem dX8_takeIntoJoin_27 : decode cX8_takeIntoJoin 27 = .ok (.return_, 1) := by decide +kernel
theorem dX8_takeEvent_0 : decode cX8_takeEvent 0 = .ok (.aload_n 0, 1) := by decide +kernel
theorem dX8_takeEvent_1 : decode cX8_takeEvent 1 = .ok (.getfield 28, 3) := by decide +kernel
theorem dX8_takeEvent_4 : decode cX8_takeEvent 4 = .ok (.dup, 1) := by decide +kernel
theorem dX8_takeEvent_5 : decode cX8_takeEvent 5 = .ok (.getfield 60, 3) := by decide +kernel
theorem dX8_takeEvent_8 : decode cX8_takeEvent 8 = .ok (.iconst 1, 1) := by decide +kernel
theorem dX8_takeEvent_9 : decode cX8_takeEvent 9 = .ok (.iadd, 1) := by decide +kernel
theorem dX8_takeEvent_10 : decode cX8_takeEvent 10 = .ok (.putfield 60, 3) := by decide +kernel
theorem dX8_takeEvent_13 : decode cX8_takeEvent 13 = .ok (.aload_n 0, 1) := by decide +kernel
theorem dX8_takeEvent_14 : decode cX8_takeEvent 14 = .ok (.getfield 38, 3) := by decide +kernel
theorem dX8_takeEvent_17 : decode cX8_takeEvent 17 = .ok (.getfield 68, 3) := by decide +kernel
theorem dX8_takeEvent_20 : decode cX8_takeEvent 20 = .ok (.tableswitch 101 1 6 #[40, 56, 68, 76, 84, 93], 40) := by decide +kernel
theorem dX8_takeEvent_60 : decode cX8_takeEvent 60 = .ok (.aload_n 0, 1) := by decide +kernel
theorem dX8_takeEvent_61 : decode cX8_takeEvent 61 = .ok (.lload_n 1, 1) := by decide +kernel
theorem dX8_takeEvent_62 : decode cX8_takeEvent 62 = .ok (.invokevirtual 133, 3) := by decide +kernel
theorem dX8_takeEvent_65 : decode cX8_takeEvent 65 = .ok (.ifCond .eq 61, 3) := by decide +kernel
theorem dX8_takeEvent_126 : decode cX8_takeEvent 126 = .ok (.return_, 1) := by decide +kernel
theorem dX8_takeEvent_68 : decode cX8_takeEvent 68 = .ok (.aload_n 0, 1) := by decide +kernel
theorem dX8_takeEvent_69 : decode cX8_takeEvent 69 = .ok (.lload_n 1, 1) := by decide +kernel
theorem dX8_takeEvent_70 : decode cX8_takeEvent 70 = .ok (.invokevirtual 124, 3) := by decide +kernel
theorem dX8_takeEvent_73 : decode cX8_takeEvent 73 = .ok (.goto 53, 3) := by decide +kernel
theorem dX8_takeEvent_76 : decode cX8_takeEvent 76 = .ok (.aload_n 0, 1) := by decide +kernel
theorem dX8_takeEvent_77 : decode cX8_takeEvent 77 = .ok (.aload_n 0, 1) := by decide +kernel
theorem dX8_takeEvent_78 : decode cX8_takeEvent 78 = .ok (.lload_n 1, 1) := by decide +kernel
theorem dX8_takeEvent_79 : decode cX8_takeEvent 79 = .ok (.invokevirtual 137, 3) := by decide +kernel
theorem dX8_takeEvent_82 : decode cX8_takeEvent 82 = .ok (.invokevirtual 124, 3) := by decide +kernel
theorem dX8_takeEvent_85 : decode cX8_takeEvent 85 = .ok (.goto 41, 3) := by decide +kernel
theorem dX8_takeEvent_88 : decode cX8_takeEvent 88 = .ok (.aload_n 0, 1) := by decide +kernel
theorem dX8_takeEvent_89 : decode cX8_takeEvent 89 = .ok (.lload_n 1, 1) := by decide +kernel
theorem dX8_takeEvent_90 : decode cX8_takeEvent 90 = .ok (.invokevirtual 141, 3) := by decide +kernel
theorem dX8_takeEvent_93 : decode cX8_takeEvent 93 = .ok (.goto 33, 3) := by decide +kernel
theorem dX8_takeEvent_96 : decode cX8_takeEvent 96 = .ok (.aload_n 0, 1) := by decide +kernel
theorem dX8_takeEvent_97 : decode cX8_takeEvent 97 = .ok (.lload_n 1, 1) := by decide +kernel
theorem dX8_takeEvent_98 : decode cX8_takeEvent 98 = .ok (.invokevirtual 144, 3) := by decide +kernel
theorem dX8_takeEvent_101 : decode cX8_takeEvent 101 = .ok (.goto 25, 3) := by decide +kernel
theorem dX8_takeEvent_104 : decode cX8_takeEvent 104 = .ok (.aload_n 0, 1) := by decide +kernel
theorem dX8_takeEvent_105 : decode cX8_takeEvent 105 = .ok (.lload_n 1, 1) := by decide +kernel
theorem dX8_takeEvent_106 : decode cX8_takeEvent 106 = .ok (.iload_n 3, 1) := by decide +kernel
theorem dX8_takeEvent_107 : decode cX8_takeEvent 107 = .ok (.invokevirtual 147, 3) := by decide +kernel
theorem dX8_takeEvent_110 : decode cX8_takeEvent 110 = .ok (.goto 16, 3) := by decide +kernel
theorem dX8_takeEvent_113 : decode cX8_takeEvent 113 = .ok (.aload_n 0, 1) := by decide +kernel
theorem dX8_takeEvent_114 : decode cX8_takeEvent 114 = .ok (.lload_n 1, 1) := by decide +kernel
theorem dX8_takeEvent_115 : decode cX8_takeEvent 115 = .ok (.invokevirtual 124, 3) := by decide +kernel
theorem dX8_takeEvent_118 : decode cX8_takeEvent 118 = .ok (.goto 8, 3) := by decide +kernel
theorem dX8_takeEvent_121 : decode cX8_takeEvent 121 = .ok (.aload_n 0, 1) := by decide +kernel
theorem dX8_takeEvent_122 : decode cX8_takeEvent 122 = .ok (.lload_n 1, 1) := by decide +kernel
theorem dX8_takeEvent_123 : decode cX8_takeEvent 123 = .ok (.invokevirtual 151, 3) := by decide +kernel
theorem dX8_leastMark_0 : decode cX8_leastMark 0 = .ok (.iload_n 2, 1) := by decide +kernel
theorem dX8_leastMark_1 : decode cX8_leastMark 1 = .ok (.ifCond .eq 14, 3) := by decide +kernel
theorem dX8_leastMark_15 : decode cX8_leastMark 15 = .ok (.aload_n 0, 1) := by decide +kernel
theorem dX8_leastMark_16 : decode cX8_leastMark 16 = .ok (.getfield 28, 3) := by decide +kernel
theorem dX8_leastMark_19 : decode cX8_leastMark 19 = .ok (.iload_n 1, 1) := by decide +kernel
theorem dX8_leastMark_20 : decode cX8_leastMark 20 = .ok (.putfield 292, 3) := by decide +kernel
theorem dX8_leastMark_23 : decode cX8_leastMark 23 = .ok (.aload_n 0, 1) := by decide +kernel
theorem dX8_leastMark_24 : decode cX8_leastMark 24 = .ok (.getfield 49, 3) := by decide +kernel
theorem dX8_leastMark_27 : decode cX8_leastMark 27 = .ok (.ifnonnull 13, 3) := by decide +kernel
theorem dX8_leastMark_40 : decode cX8_leastMark 40 = .ok (.aload_n 0, 1) := by decide +kernel
theorem dX8_leastMark_41 : decode cX8_leastMark 41 = .ok (.getfield 28, 3) := by decide +kernel
theorem dX8_leastMark_44 : decode cX8_leastMark 44 = .ok (.getfield 292, 3) := by decide +kernel
theorem dX8_leastMark_47 : decode cX8_leastMark 47 = .ok (.aload_n 0, 1) := by decide +kernel
theorem dX8_leastMark_48 : decode cX8_leastMark 48 = .ok (.getfield 28, 3) := by decide +kernel
theorem dX8_leastMark_51 : decode cX8_leastMark 51 = .ok (.getfield 289, 3) := by decide +kernel
theorem dX8_leastMark_54 : decode cX8_leastMark 54 = .ok (.invokestatic 255, 3) := by decide +kernel
theorem dX8_leastMark_57 : decode cX8_leastMark 57 = .ok (.ireturn, 1) := by decide +kernel
theorem dX8_leastMark_30 : decode cX8_leastMark 30 = .ok (.aload_n 0, 1) := by decide +kernel
theorem dX8_leastMark_31 : decode cX8_leastMark 31 = .ok (.getfield 28, 3) := by decide +kernel
theorem dX8_leastMark_34 : decode cX8_leastMark 34 = .ok (.getfield 292, 3) := by decide +kernel
theorem dX8_leastMark_37 : decode cX8_leastMark 37 = .ok (.goto 20, 3) := by decide +kernel
theorem dX8_leastMark_4 : decode cX8_leastMark 4 = .ok (.aload_n 0, 1) := by decide +kernel
theorem dX8_leastMark_5 : decode cX8_leastMark 5 = .ok (.getfield 28, 3) := by decide +kernel
theorem dX8_leastMark_8 : decode cX8_leastMark 8 = .ok (.iload_n 1, 1) := by decide +kernel
theorem dX8_leastMark_9 : decode cX8_leastMark 9 = .ok (.putfield 289, 3) := by decide +kernel
theorem dX8_leastMark_12 : decode cX8_leastMark 12 = .ok (.goto 11, 3) := by decide +kernel
theorem dX8_fireFrom_30 : decode cX8_fireFrom 30 = .ok (.iload_n 3, 1) := by decide +kernel
theorem dX8_fireFrom_31 : decode cX8_fireFrom 31 = .ok (.iload_n 2, 1) := by decide +kernel
theorem dX8_fireFrom_32 : decode cX8_fireFrom 32 = .ok (.if_icmp .ge 14, 3) := by decide +kernel
theorem dX8_fireFrom_35 : decode cX8_fireFrom 35 = .ok (.aload_n 0, 1) := by decide +kernel
theorem dX8_fireFrom_36 : decode cX8_fireFrom 36 = .ok (.iload_n 3, 1) := by decide +kernel
theorem dX8_fireFrom_37 : decode cX8_fireFrom 37 = .ok (.invokevirtual 194, 3) := by decide +kernel
theorem dX8_fireFrom_40 : decode cX8_fireFrom 40 = .ok (.iinc 3 1, 3) := by decide +kernel
theorem dX8_fireFrom_43 : decode cX8_fireFrom 43 = .ok (.goto (-13), 3) := by decide +kernel
theorem dX8_fireFrom_0 : decode cX8_fireFrom 0 = .ok (.aload_n 0, 1) := by decide +kernel
theorem dX8_fireFrom_1 : decode cX8_fireFrom 1 = .ok (.getfield 28, 3) := by decide +kernel
theorem dX8_fireFrom_4 : decode cX8_fireFrom 4 = .ok (.getfield 201, 3) := by decide +kernel
theorem dX8_fireFrom_7 : decode cX8_fireFrom 7 = .ok (.aload_n 0, 1) := by decide +kernel
theorem dX8_fireFrom_8 : decode cX8_fireFrom 8 = .ok (.getfield 28, 3) := by decide +kernel
theorem dX8_fireFrom_11 : decode cX8_fireFrom 11 = .ok (.getfield 82, 3) := by decide +kernel
theorem dX8_fireFrom_14 : decode cX8_fireFrom 14 = .ok (.invokevirtual 304, 3) := by decide +kernel
theorem dX8_fireFrom_17 : decode cX8_fireFrom 17 = .ok (.istore_n 2, 1) := by decide +kernel
theorem dX8_fireFrom_18 : decode cX8_fireFrom 18 = .ok (.aload_n 0, 1) := by decide +kernel
theorem dX8_fireFrom_19 : decode cX8_fireFrom 19 = .ok (.getfield 28, 3) := by decide +kernel
theorem dX8_fireFrom_22 : decode cX8_fireFrom 22 = .ok (.getfield 201, 3) := by decide +kernel
theorem dX8_fireFrom_25 : decode cX8_fireFrom 25 = .ok (.iload_n 1, 1) := by decide +kernel
theorem dX8_fireFrom_26 : decode cX8_fireFrom 26 = .ok (.invokevirtual 304, 3) := by decide +kernel
theorem dX8_fireFrom_29 : decode cX8_fireFrom 29 = .ok (.istore_n 3, 1) := by decide +kernel
theorem dX8_fireFrom_46 : decode cX8_fireFrom 46 = .ok (.aload_n 0, 1) := by decide +kernel
theorem dX8_fireFrom_47 : decode cX8_fireFrom 47 = .ok (.getfield 28, 3) := by decide +kernel
theorem dX8_fireFrom_50 : decode cX8_fireFrom 50 = .ok (.getfield 201, 3) := by decide +kernel
theorem dX8_fireFrom_53 : decode cX8_fireFrom 53 = .ok (.iconst 0, 1) := by decide +kernel
theorem dX8_fireFrom_54 : decode cX8_fireFrom 54 = .ok (.aload_n 0, 1) := by decide +kernel
theorem dX8_fireFrom_55 : decode cX8_fireFrom 55 = .ok (.getfield 28, 3) := by decide +kernel
theorem dX8_fireFrom_58 : decode cX8_fireFrom 58 = .ok (.getfield 201, 3) := by decide +kernel
theorem dX8_fireFrom_61 : decode cX8_fireFrom 61 = .ok (.aload_n 0, 1) := by decide +kernel
theorem dX8_fireFrom_62 : decode cX8_fireFrom 62 = .ok (.getfield 28, 3) := by decide +kernel
theorem dX8_fireFrom_65 : decode cX8_fireFrom 65 = .ok (.getfield 82, 3) := by decide +kernel
theorem dX8_fireFrom_68 : decode cX8_fireFrom 68 = .ok (.aload_n 0, 1) := by decide +kernel
theorem dX8_fireFrom_69 : decode cX8_fireFrom 69 = .ok (.getfield 38, 3) := by decide +kernel
theorem dX8_fireFrom_72 : decode cX8_fireFrom 72 = .ok (.getfield 187, 3) := by decide +kernel
theorem dX8_fireFrom_75 : decode cX8_fireFrom 75 = .ok (.isub, 1) := by decide +kernel
theorem dX8_fireFrom_76 : decode cX8_fireFrom 76 = .ok (.invokevirtual 304, 3) := by decide +kernel
theorem dX8_fireFrom_79 : decode cX8_fireFrom 79 = .ok (.invokevirtual 261, 3) := by decide +kernel
theorem dX8_fireFrom_82 : decode cX8_fireFrom 82 = .ok (.return_, 1) := by decide +kernel
theorem dX8_forgetBelow_7 : decode cX8_forgetBelow 7 = .ok (.iload_n 2, 1) := by decide +kernel
theorem dX8_forgetBelow_8 : decode cX8_forgetBelow 8 = .ok (.ifCond .lt 27, 3) := by decide +kernel
theorem dX8_forgetBelow_11 : decode cX8_forgetBelow 11 = .ok (.aload_n 0, 1) := by decide +kernel
theorem dX8_forgetBelow_12 : decode cX8_forgetBelow 12 = .ok (.iload_n 2, 1) := by decide +kernel
theorem dX8_forgetBelow_13 : decode cX8_forgetBelow 13 = .ok (.invokevirtual 120, 3) := by decide +kernel
theorem dX8_forgetBelow_16 : decode cX8_forgetBelow 16 = .ok (.invokestatic 127, 3) := by decide +kernel
theorem dX8_forgetBelow_19 : decode cX8_forgetBelow 19 = .ok (.iload_n 1, 1) := by decide +kernel
theorem dX8_forgetBelow_20 : decode cX8_forgetBelow 20 = .ok (.if_icmp .ge 9, 3) := by decide +kernel
theorem dX8_forgetBelow_29 : decode cX8_forgetBelow 29 = .ok (.iinc 2 (-1), 3) := by decide +kernel
theorem dX8_forgetBelow_32 : decode cX8_forgetBelow 32 = .ok (.goto (-25), 3) := by decide +kernel
theorem dX8_forgetBelow_23 : decode cX8_forgetBelow 23 = .ok (.aload_n 0, 1) := by decide +kernel
theorem dX8_forgetBelow_24 : decode cX8_forgetBelow 24 = .ok (.iload_n 2, 1) := by decide +kernel
theorem dX8_forgetBelow_25 : decode cX8_forgetBelow 25 = .ok (.iconst 1, 1) := by decide +kernel
theorem dX8_forgetBelow_26 : decode cX8_forgetBelow 26 = .ok (.invokevirtual 282, 3) := by decide +kernel
theorem dX8_forgetBelow_0 : decode cX8_forgetBelow 0 = .ok (.aload_n 0, 1) := by decide +kernel
theorem dX8_forgetBelow_1 : decode cX8_forgetBelow 1 = .ok (.invokevirtual 56, 3) := by decide +kernel
theorem dX8_forgetBelow_4 : decode cX8_forgetBelow 4 = .ok (.iconst 1, 1) := by decide +kernel
theorem dX8_forgetBelow_5 : decode cX8_forgetBelow 5 = .ok (.isub, 1) := by decide +kernel
theorem dX8_forgetBelow_6 : decode cX8_forgetBelow 6 = .ok (.istore_n 2, 1) := by decide +kernel
theorem dX8_forgetBelow_35 : decode cX8_forgetBelow 35 = .ok (.return_, 1) := by decide +kernel
theorem dX8_raiseMark_0 : decode cX8_raiseMark 0 = .ok (.iload_n 1, 1) := by decide +kernel
theorem dX8_raiseMark_1 : decode cX8_raiseMark 1 = .ok (.aload_n 0, 1) := by decide +kernel
theorem dX8_raiseMark_2 : decode cX8_raiseMark 2 = .ok (.getfield 28, 3) := by decide +kernel
theorem dX8_raiseMark_5 : decode cX8_raiseMark 5 = .ok (.getfield 82, 3) := by decide +kernel
theorem dX8_raiseMark_8 : decode cX8_raiseMark 8 = .ok (.if_icmp .gt 4, 3) := by decide +kernel
theorem dX8_raiseMark_12 : decode cX8_raiseMark 12 = .ok (.aload_n 0, 1) := by decide +kernel
theorem dX8_raiseMark_13 : decode cX8_raiseMark 13 = .ok (.getfield 28, 3) := by decide +kernel
theorem dX8_raiseMark_16 : decode cX8_raiseMark 16 = .ok (.getfield 82, 3) := by decide +kernel
theorem dX8_raiseMark_19 : decode cX8_raiseMark 19 = .ok (.istore_n 2, 1) := by decide +kernel
theorem dX8_raiseMark_20 : decode cX8_raiseMark 20 = .ok (.aload_n 0, 1) := by decide +kernel
theorem dX8_raiseMark_21 : decode cX8_raiseMark 21 = .ok (.getfield 28, 3) := by decide +kernel
theorem dX8_raiseMark_24 : decode cX8_raiseMark 24 = .ok (.iload_n 1, 1) := by decide +kernel
theorem dX8_raiseMark_25 : decode cX8_raiseMark 25 = .ok (.putfield 82, 3) := by decide +kernel
theorem dX8_raiseMark_28 : decode cX8_raiseMark 28 = .ok (.aload_n 0, 1) := by decide +kernel
theorem dX8_raiseMark_29 : decode cX8_raiseMark 29 = .ok (.getfield 38, 3) := by decide +kernel
theorem dX8_raiseMark_32 : decode cX8_raiseMark 32 = .ok (.getfield 68, 3) := by decide +kernel
theorem dX8_raiseMark_35 : decode cX8_raiseMark 35 = .ok (.iconst 3, 1) := by decide +kernel
theorem dX8_raiseMark_36 : decode cX8_raiseMark 36 = .ok (.if_icmp .eq 14, 3) := by decide +kernel
theorem dX8_raiseMark_50 : decode cX8_raiseMark 50 = .ok (.aload_n 0, 1) := by decide +kernel
theorem dX8_raiseMark_51 : decode cX8_raiseMark 51 = .ok (.iload_n 2, 1) := by decide +kernel
theorem dX8_raiseMark_52 : decode cX8_raiseMark 52 = .ok (.invokevirtual 295, 3) := by decide +kernel
theorem dX8_raiseMark_55 : decode cX8_raiseMark 55 = .ok (.goto 52, 3) := by decide +kernel
theorem dX8_raiseMark_107 : decode cX8_raiseMark 107 = .ok (.aload_n 0, 1) := by decide +kernel
theorem dX8_raiseMark_108 : decode cX8_raiseMark 108 = .ok (.iload_n 1, 1) := by decide +kernel
theorem dX8_raiseMark_109 : decode cX8_raiseMark 109 = .ok (.invokestatic 302, 3) := by decide +kernel
theorem dX8_raiseMark_112 : decode cX8_raiseMark 112 = .ok (.invokevirtual 124, 3) := by decide +kernel
theorem dX8_raiseMark_115 : decode cX8_raiseMark 115 = .ok (.return_, 1) := by decide +kernel
theorem dX8_raiseMark_39 : decode cX8_raiseMark 39 = .ok (.aload_n 0, 1) := by decide +kernel
theorem dX8_raiseMark_40 : decode cX8_raiseMark 40 = .ok (.getfield 38, 3) := by decide +kernel
theorem dX8_raiseMark_43 : decode cX8_raiseMark 43 = .ok (.getfield 68, 3) := by decide +kernel
theorem dX8_raiseMark_46 : decode cX8_raiseMark 46 = .ok (.iconst 4, 1) := by decide +kernel
theorem dX8_raiseMark_47 : decode cX8_raiseMark 47 = .ok (.if_icmp .ne 11, 3) := by decide +kernel
theorem dX8_raiseMark_58 : decode cX8_raiseMark 58 = .ok (.aload_n 0, 1) := by decide +kernel
theorem dX8_raiseMark_59 : decode cX8_raiseMark 59 = .ok (.getfield 38, 3) := by decide +kernel
theorem dX8_raiseMark_62 : decode cX8_raiseMark 62 = .ok (.getfield 68, 3) := by decide +kernel
theorem dX8_raiseMark_65 : decode cX8_raiseMark 65 = .ok (.iconst 5, 1) := by decide +kernel
theorem dX8_raiseMark_66 : decode cX8_raiseMark 66 = .ok (.if_icmp .ne 41, 3) := by decide +kernel
theorem dX8_raiseMark_69 : decode cX8_raiseMark 69 = .ok (.aload_n 0, 1) := by decide +kernel
theorem dX8_raiseMark_70 : decode cX8_raiseMark 70 = .ok (.getfield 28, 3) := by decide +kernel
theorem dX8_raiseMark_73 : decode cX8_raiseMark 73 = .ok (.getfield 269, 3) := by decide +kernel
theorem dX8_raiseMark_76 : decode cX8_raiseMark 76 = .ok (.iload_n 1, 1) := by decide +kernel
theorem dX8_raiseMark_77 : decode cX8_raiseMark 77 = .ok (.aload_n 0, 1) := by decide +kernel
theorem dX8_raiseMark_78 : decode cX8_raiseMark 78 = .ok (.getfield 38, 3) := by decide +kernel
theorem dX8_raiseMark_81 : decode cX8_raiseMark 81 = .ok (.getfield 286, 3) := by decide +kernel
theorem dX8_raiseMark_84 : decode cX8_raiseMark 84 = .ok (.isub, 1) := by decide +kernel
theorem dX8_raiseMark_85 : decode cX8_raiseMark 85 = .ok (.invokestatic 298, 3) := by decide +kernel
theorem dX8_raiseMark_88 : decode cX8_raiseMark 88 = .ok (.aload_n 0, 1) := by decide +kernel
theorem dX8_raiseMark_89 : decode cX8_raiseMark 89 = .ok (.getfield 28, 3) := by decide +kernel
theorem dX8_raiseMark_92 : decode cX8_raiseMark 92 = .ok (.getfield 272, 3) := by decide +kernel
theorem dX8_raiseMark_95 : decode cX8_raiseMark 95 = .ok (.iload_n 1, 1) := by decide +kernel
theorem dX8_raiseMark_96 : decode cX8_raiseMark 96 = .ok (.aload_n 0, 1) := by decide +kernel
theorem dX8_raiseMark_97 : decode cX8_raiseMark 97 = .ok (.getfield 38, 3) := by decide +kernel
theorem dX8_raiseMark_100 : decode cX8_raiseMark 100 = .ok (.getfield 283, 3) := by decide +kernel
theorem dX8_raiseMark_103 : decode cX8_raiseMark 103 = .ok (.isub, 1) := by decide +kernel
theorem dX8_raiseMark_104 : decode cX8_raiseMark 104 = .ok (.invokestatic 298, 3) := by decide +kernel
theorem dX8_raiseMark_11 : decode cX8_raiseMark 11 = .ok (.return_, 1) := by decide +kernel
