theorem wq624 : (Jvm.Cond.instanceMethod ({ cls := "WeirStream", name := "stages", desc := "()I" } : Jvm.MethodName)) ∈ lw_all := lw_in (lw_tb (List.mem_of_getElem? (i := 624) (by decide +kernel))) rfl
theorem wq625 : (Jvm.Cond.selects "WeirStream" ({ cls := "WeirStream", name := "stages", desc := "()I" } : Jvm.MethodName) ({ cls := "WeirStream", name := "stages", desc := "()I" } : Jvm.MethodName)) ∈ lw_all := lw_in (lw_tb (List.mem_of_getElem? (i := 625) (by decide +kernel))) rfl
theorem wq626 : (Jvm.Cond.code ({ cls := "WeirStream", name := "stages", desc := "()I" } : Jvm.MethodName) prog_1_method_18_code (1 : Nat) (Option.some Jvm.ClassFile.FieldType.int)) ∈ lw_all := lw_in (lw_tb (List.mem_of_getElem? (i := 626) (by decide +kernel))) rfl
theorem wq628 : (Jvm.Cond.instanceMethod ({ cls := "WeirStream", name := "sortOf", desc := "(I)I" } : Jvm.MethodName)) ∈ lw_all := lw_in (lw_tb (List.mem_of_getElem? (i := 628) (by decide +kernel))) rfl
theorem wq629 : (Jvm.Cond.selects "WeirStream" ({ cls := "WeirStream", name := "sortOf", desc := "(I)I" } : Jvm.MethodName) ({ cls := "WeirStream", name := "sortOf", desc := "(I)I" } : Jvm.MethodName)) ∈ lw_all := lw_in (lw_tb (List.mem_of_getElem? (i := 629) (by decide +kernel))) rfl
theorem wq630 : (Jvm.Cond.code ({ cls := "WeirStream", name := "sortOf", desc := "(I)I" } : Jvm.MethodName) prog_1_method_20_code (2 : Nat) (Option.some Jvm.ClassFile.FieldType.int)) ∈ lw_all := lw_in (lw_tb (List.mem_of_getElem? (i := 630) (by decide +kernel))) rfl
theorem wq632 : (Jvm.Cond.instanceMethod ({ cls := "WeirStream", name := "markOf", desc := "(I)I" } : Jvm.MethodName)) ∈ lw_all := lw_in (lw_tb (List.mem_of_getElem? (i := 632) (by decide +kernel))) rfl
theorem wq633 : (Jvm.Cond.selects "WeirStream" ({ cls := "WeirStream", name := "markOf", desc := "(I)I" } : Jvm.MethodName) ({ cls := "WeirStream", name := "markOf", desc := "(I)I" } : Jvm.MethodName)) ∈ lw_all := lw_in (lw_tb (List.mem_of_getElem? (i := 633) (by decide +kernel))) rfl
theorem wq634 : (Jvm.Cond.code ({ cls := "WeirStream", name := "markOf", desc := "(I)I" } : Jvm.MethodName) prog_1_method_21_code (2 : Nat) (Option.some Jvm.ClassFile.FieldType.int)) ∈ lw_all := lw_in (lw_tb (List.mem_of_getElem? (i := 634) (by decide +kernel))) rfl
theorem wq636 : (Jvm.Cond.instanceMethod ({ cls := "WeirStream", name := "taken", desc := "(I)I" } : Jvm.MethodName)) ∈ lw_all := lw_in (lw_tb (List.mem_of_getElem? (i := 636) (by decide +kernel))) rfl
theorem wq637 : (Jvm.Cond.selects "WeirStream" ({ cls := "WeirStream", name := "taken", desc := "(I)I" } : Jvm.MethodName) ({ cls := "WeirStream", name := "taken", desc := "(I)I" } : Jvm.MethodName)) ∈ lw_all := lw_in (lw_tb (List.mem_of_getElem? (i := 637) (by decide +kernel))) rfl
theorem wq638 : (Jvm.Cond.code ({ cls := "WeirStream", name := "taken", desc := "(I)I" } : Jvm.MethodName) prog_1_method_22_code (2 : Nat) (Option.some Jvm.ClassFile.FieldType.int)) ∈ lw_all := lw_in (lw_tb (List.mem_of_getElem? (i := 638) (by decide +kernel))) rfl
theorem wq640 : (Jvm.Cond.instanceMethod ({ cls := "WeirStream", name := "kept", desc := "(I)I" } : Jvm.MethodName)) ∈ lw_all := lw_in (lw_tb (List.mem_of_getElem? (i := 640) (by decide +kernel))) rfl
theorem wq641 : (Jvm.Cond.selects "WeirStream" ({ cls := "WeirStream", name := "kept", desc := "(I)I" } : Jvm.MethodName) ({ cls := "WeirStream", name := "kept", desc := "(I)I" } : Jvm.MethodName)) ∈ lw_all := lw_in (lw_tb (List.mem_of_getElem? (i := 641) (by decide +kernel))) rfl
theorem wq642 : (Jvm.Cond.code ({ cls := "WeirStream", name := "kept", desc := "(I)I" } : Jvm.MethodName) prog_1_method_25_code (3 : Nat) (Option.some Jvm.ClassFile.FieldType.int)) ∈ lw_all := lw_in (lw_tb (List.mem_of_getElem? (i := 642) (by decide +kernel))) rfl
theorem wq650 : (Jvm.Cond.instanceMethod ({ cls := "WeirStream", name := "isReady", desc := "(I)Z" } : Jvm.MethodName)) ∈ lw_all := lw_in (lw_tb (List.mem_of_getElem? (i := 650) (by decide +kernel))) rfl
theorem wq651 : (Jvm.Cond.selects "WeirStream" ({ cls := "WeirStream", name := "isReady", desc := "(I)Z" } : Jvm.MethodName) ({ cls := "WeirStream", name := "isReady", desc := "(I)Z" } : Jvm.MethodName)) ∈ lw_all := lw_in (lw_tb (List.mem_of_getElem? (i := 651) (by decide +kernel))) rfl
theorem wq652 : (Jvm.Cond.code ({ cls := "WeirStream", name := "isReady", desc := "(I)Z" } : Jvm.MethodName) prog_1_method_26_code (2 : Nat) (Option.some Jvm.ClassFile.FieldType.boolean)) ∈ lw_all := lw_in (lw_tb (List.mem_of_getElem? (i := 652) (by decide +kernel))) rfl
theorem wq654 : (Jvm.Cond.instanceMethod ({ cls := "WeirStream", name := "isBlocked", desc := "(IZ)Z" } : Jvm.MethodName)) ∈ lw_all := lw_in (lw_tb (List.mem_of_getElem? (i := 654) (by decide +kernel))) rfl
theorem wq655 : (Jvm.Cond.selects "WeirStream" ({ cls := "WeirStream", name := "isBlocked", desc := "(IZ)Z" } : Jvm.MethodName) ({ cls := "WeirStream", name := "isBlocked", desc := "(IZ)Z" } : Jvm.MethodName)) ∈ lw_all := lw_in (lw_tb (List.mem_of_getElem? (i := 655) (by decide +kernel))) rfl
theorem wq656 : (Jvm.Cond.code ({ cls := "WeirStream", name := "isBlocked", desc := "(IZ)Z" } : Jvm.MethodName) prog_1_method_29_code (4 : Nat) (Option.some Jvm.ClassFile.FieldType.boolean)) ∈ lw_all := lw_in (lw_tb (List.mem_of_getElem? (i := 656) (by decide +kernel))) rfl
theorem wq659 : (Jvm.Cond.instanceMethod ({ cls := "WeirStream", name := "outputs", desc := "(I)I" } : Jvm.MethodName)) ∈ lw_all := lw_in (lw_tb (List.mem_of_getElem? (i := 659) (by decide +kernel))) rfl
theorem wq660 : (Jvm.Cond.selects "WeirStream" ({ cls := "WeirStream", name := "outputs", desc := "(I)I" } : Jvm.MethodName) ({ cls := "WeirStream", name := "outputs", desc := "(I)I" } : Jvm.MethodName)) ∈ lw_all := lw_in (lw_tb (List.mem_of_getElem? (i := 660) (by decide +kernel))) rfl
theorem wq661 : (Jvm.Cond.code ({ cls := "WeirStream", name := "outputs", desc := "(I)I" } : Jvm.MethodName) prog_1_method_34_code (2 : Nat) (Option.some Jvm.ClassFile.FieldType.int)) ∈ lw_all := lw_in (lw_tb (List.mem_of_getElem? (i := 661) (by decide +kernel))) rfl
theorem wq667 : (Jvm.Cond.instanceMethod ({ cls := "WeirStream", name := "committed", desc := "(I)I" } : Jvm.MethodName)) ∈ lw_all := lw_in (lw_tb (List.mem_of_getElem? (i := 667) (by decide +kernel))) rfl
theorem wq668 : (Jvm.Cond.selects "WeirStream" ({ cls := "WeirStream", name := "committed", desc := "(I)I" } : Jvm.MethodName) ({ cls := "WeirStream", name := "committed", desc := "(I)I" } : Jvm.MethodName)) ∈ lw_all := lw_in (lw_tb (List.mem_of_getElem? (i := 668) (by decide +kernel))) rfl
theorem wq669 : (Jvm.Cond.code ({ cls := "WeirStream", name := "committed", desc := "(I)I" } : Jvm.MethodName) prog_1_method_35_code (2 : Nat) (Option.some Jvm.ClassFile.FieldType.int)) ∈ lw_all := lw_in (lw_tb (List.mem_of_getElem? (i := 669) (by decide +kernel))) rfl
theorem wq671 : (Jvm.Cond.instanceMethod ({ cls := "WeirStream", name := "begun", desc := "()I" } : Jvm.MethodName)) ∈ lw_all := lw_in (lw_tb (List.mem_of_getElem? (i := 671) (by decide +kernel))) rfl
theorem wq672 : (Jvm.Cond.selects "WeirStream" ({ cls := "WeirStream", name := "begun", desc := "()I" } : Jvm.MethodName) ({ cls := "WeirStream", name := "begun", desc := "()I" } : Jvm.MethodName)) ∈ lw_all := lw_in (lw_tb (List.mem_of_getElem? (i := 672) (by decide +kernel))) rfl
theorem wq673 : (Jvm.Cond.code ({ cls := "WeirStream", name := "begun", desc := "()I" } : Jvm.MethodName) prog_1_method_40_code (1 : Nat) (Option.some Jvm.ClassFile.FieldType.int)) ∈ lw_all := lw_in (lw_tb (List.mem_of_getElem? (i := 673) (by decide +kernel))) rfl
theorem wq675 : (Jvm.Cond.instanceMethod ({ cls := "WeirStream", name := "inFlight", desc := "()I" } : Jvm.MethodName)) ∈ lw_all := lw_in (lw_tb (List.mem_of_getElem? (i := 675) (by decide +kernel))) rfl
theorem wq676 : (Jvm.Cond.selects "WeirStream" ({ cls := "WeirStream", name := "inFlight", desc := "()I" } : Jvm.MethodName) ({ cls := "WeirStream", name := "inFlight", desc := "()I" } : Jvm.MethodName)) ∈ lw_all := lw_in (lw_tb (List.mem_of_getElem? (i := 676) (by decide +kernel))) rfl
theorem wq677 : (Jvm.Cond.code ({ cls := "WeirStream", name := "inFlight", desc := "()I" } : Jvm.MethodName) prog_1_method_43_code (1 : Nat) (Option.some Jvm.ClassFile.FieldType.int)) ∈ lw_all := lw_in (lw_tb (List.mem_of_getElem? (i := 677) (by decide +kernel))) rfl
theorem wq684 : (Jvm.Cond.instanceMethod ({ cls := "WeirStream", name := "next", desc := "()I" } : Jvm.MethodName)) ∈ lw_all := lw_in (lw_tb (List.mem_of_getElem? (i := 684) (by decide +kernel))) rfl
theorem wq685 : (Jvm.Cond.selects "WeirStream" ({ cls := "WeirStream", name := "next", desc := "()I" } : Jvm.MethodName) ({ cls := "WeirStream", name := "next", desc := "()I" } : Jvm.MethodName)) ∈ lw_all := lw_in (lw_tb (List.mem_of_getElem? (i := 685) (by decide +kernel))) rfl
theorem wq686 : (Jvm.Cond.code ({ cls := "WeirStream", name := "next", desc := "()I" } : Jvm.MethodName) prog_1_method_44_code (1 : Nat) (Option.some Jvm.ClassFile.FieldType.int)) ∈ lw_all := lw_in (lw_tb (List.mem_of_getElem? (i := 686) (by decide +kernel))) rfl
theorem wq712 : (Jvm.Cond.constantLong "WeirStream" (273 : Nat) (58014 : Int64)) ∈ lw_all := lw_in (lw_tb (List.mem_of_getElem? (i := 712) (by decide +kernel))) rfl
theorem wq713 : (Jvm.Cond.constantLong "WeirStream" (275 : Nat) (31 : Int64)) ∈ lw_all := lw_in (lw_tb (List.mem_of_getElem? (i := 713) (by decide +kernel))) rfl
theorem wq714 : (Jvm.Cond.methodLink "WeirStream" (277 : Nat) ({ cls := "WeirStream", name := "stages", desc := "()I" } : Jvm.MethodName)) ∈ lw_all := lw_in (lw_tb (List.mem_of_getElem? (i := 714) (by decide +kernel))) rfl
theorem wq715 : (Jvm.Cond.methodLink "WeirStream" (280 : Nat) ({ cls := "WeirStream", name := "isStarted", desc := "()Z" } : Jvm.MethodName)) ∈ lw_all := lw_in (lw_tb (List.mem_of_getElem? (i := 715) (by decide +kernel))) rfl
theorem wq716 : (Jvm.Cond.instanceMethod ({ cls := "WeirStream", name := "isStarted", desc := "()Z" } : Jvm.MethodName)) ∈ lw_all := lw_in (lw_tb (List.mem_of_getElem? (i := 716) (by decide +kernel))) rfl
theorem wq717 : (Jvm.Cond.selects "WeirStream" ({ cls := "WeirStream", name := "isStarted", desc := "()Z" } : Jvm.MethodName) ({ cls := "WeirStream", name := "isStarted", desc := "()Z" } : Jvm.MethodName)) ∈ lw_all := lw_in (lw_tb (List.mem_of_getElem? (i := 717) (by decide +kernel))) rfl
theorem wq718 : (Jvm.Cond.code ({ cls := "WeirStream", name := "isStarted", desc := "()Z" } : Jvm.MethodName) prog_1_method_19_code (1 : Nat) (Option.some Jvm.ClassFile.FieldType.boolean)) ∈ lw_all := lw_in (lw_tb (List.mem_of_getElem? (i := 718) (by decide +kernel))) rfl
theorem wq719 : (Jvm.Cond.methodLink "WeirStream" (284 : Nat) ({ cls := "WeirStream", name := "bit", desc := "(Z)I" } : Jvm.MethodName)) ∈ lw_all := lw_in (lw_tb (List.mem_of_getElem? (i := 719) (by decide +kernel))) rfl
theorem wq720 : (Jvm.Cond.static ({ cls := "WeirStream", name := "bit", desc := "(Z)I" } : Jvm.MethodName)) ∈ lw_all := lw_in (lw_tb (List.mem_of_getElem? (i := 720) (by decide +kernel))) rfl
theorem wq721 : (Jvm.Cond.code ({ cls := "WeirStream", name := "bit", desc := "(Z)I" } : Jvm.MethodName) prog_1_method_53_code (1 : Nat) (Option.some Jvm.ClassFile.FieldType.int)) ∈ lw_all := lw_in (lw_tb (List.mem_of_getElem? (i := 721) (by decide +kernel))) rfl
theorem wq722 : (Jvm.Cond.methodLink "WeirStream" (288 : Nat) ({ cls := "WeirStream", name := "complete", desc := "()I" } : Jvm.MethodName)) ∈ lw_all := lw_in (lw_tb (List.mem_of_getElem? (i := 722) (by decide +kernel))) rfl
theorem wq723 : (Jvm.Cond.instanceMethod ({ cls := "WeirStream", name := "complete", desc := "()I" } : Jvm.MethodName)) ∈ lw_all := lw_in (lw_tb (List.mem_of_getElem? (i := 723) (by decide +kernel))) rfl
theorem wq724 : (Jvm.Cond.selects "WeirStream" ({ cls := "WeirStream", name := "complete", desc := "()I" } : Jvm.MethodName) ({ cls := "WeirStream", name := "complete", desc := "()I" } : Jvm.MethodName)) ∈ lw_all := lw_in (lw_tb (List.mem_of_getElem? (i := 724) (by decide +kernel))) rfl
theorem wq725 : (Jvm.Cond.code ({ cls := "WeirStream", name := "complete", desc := "()I" } : Jvm.MethodName) prog_1_method_39_code (1 : Nat) (Option.some Jvm.ClassFile.FieldType.int)) ∈ lw_all := lw_in (lw_tb (List.mem_of_getElem? (i := 725) (by decide +kernel))) rfl
theorem wq726 : (Jvm.Cond.methodLink "WeirStream" (291 : Nat) ({ cls := "WeirStream", name := "begun", desc := "()I" } : Jvm.MethodName)) ∈ lw_all := lw_in (lw_tb (List.mem_of_getElem? (i := 726) (by decide +kernel))) rfl
theorem wq727 : (Jvm.Cond.methodLink "WeirStream" (294 : Nat) ({ cls := "WeirStream", name := "crashes", desc := "()I" } : Jvm.MethodName)) ∈ lw_all := lw_in (lw_tb (List.mem_of_getElem? (i := 727) (by decide +kernel))) rfl
theorem wq728 : (Jvm.Cond.instanceMethod ({ cls := "WeirStream", name := "crashes", desc := "()I" } : Jvm.MethodName)) ∈ lw_all := lw_in (lw_tb (List.mem_of_getElem? (i := 728) (by decide +kernel))) rfl
theorem wq729 : (Jvm.Cond.selects "WeirStream" ({ cls := "WeirStream", name := "crashes", desc := "()I" } : Jvm.MethodName) ({ cls := "WeirStream", name := "crashes", desc := "()I" } : Jvm.MethodName)) ∈ lw_all := lw_in (lw_tb (List.mem_of_getElem? (i := 729) (by decide +kernel))) rfl
theorem wq730 : (Jvm.Cond.code ({ cls := "WeirStream", name := "crashes", desc := "()I" } : Jvm.MethodName) prog_1_method_41_code (1 : Nat) (Option.some Jvm.ClassFile.FieldType.int)) ∈ lw_all := lw_in (lw_tb (List.mem_of_getElem? (i := 730) (by decide +kernel))) rfl
theorem wq731 : (Jvm.Cond.methodLink "WeirStream" (297 : Nat) ({ cls := "WeirStream", name := "worked", desc := "()I" } : Jvm.MethodName)) ∈ lw_all := lw_in (lw_tb (List.mem_of_getElem? (i := 731) (by decide +kernel))) rfl
theorem wq732 : (Jvm.Cond.instanceMethod ({ cls := "WeirStream", name := "worked", desc := "()I" } : Jvm.MethodName)) ∈ lw_all := lw_in (lw_tb (List.mem_of_getElem? (i := 732) (by decide +kernel))) rfl
theorem wq733 : (Jvm.Cond.selects "WeirStream" ({ cls := "WeirStream", name := "worked", desc := "()I" } : Jvm.MethodName) ({ cls := "WeirStream", name := "worked", desc := "()I" } : Jvm.MethodName)) ∈ lw_all := lw_in (lw_tb (List.mem_of_getElem? (i := 733) (by decide +kernel))) rfl
theorem wq734 : (Jvm.Cond.code ({ cls := "WeirStream", name := "worked", desc := "()I" } : Jvm.MethodName) prog_1_method_42_code (1 : Nat) (Option.some Jvm.ClassFile.FieldType.int)) ∈ lw_all := lw_in (lw_tb (List.mem_of_getElem? (i := 734) (by decide +kernel))) rfl
theorem wq735 : (Jvm.Cond.methodLink "WeirStream" (300 : Nat) ({ cls := "WeirStream", name := "inFlight", desc := "()I" } : Jvm.MethodName)) ∈ lw_all := lw_in (lw_tb (List.mem_of_getElem? (i := 735) (by decide +kernel))) rfl
theorem wq736 : (Jvm.Cond.methodLink "WeirStream" (303 : Nat) ({ cls := "WeirStream", name := "next", desc := "()I" } : Jvm.MethodName)) ∈ lw_all := lw_in (lw_tb (List.mem_of_getElem? (i := 736) (by decide +kernel))) rfl
theorem wq737 : (Jvm.Cond.methodLink "WeirStream" (306 : Nat) ({ cls := "WeirStream", name := "digestOfStage", desc := "(JI)J" } : Jvm.MethodName)) ∈ lw_all := lw_in (lw_tb (List.mem_of_getElem? (i := 737) (by decide +kernel))) rfl
theorem wq739 : (Jvm.Cond.instanceMethod ({ cls := "WeirStream", name := "digestOfStage", desc := "(JI)J" } : Jvm.MethodName)) ∈ lw_all := lw_in (lw_tb (List.mem_of_getElem? (i := 739) (by decide +kernel))) rfl
theorem wq740 : (Jvm.Cond.code ({ cls := "WeirStream", name := "digestOfStage", desc := "(JI)J" } : Jvm.MethodName) prog_1_method_51_code (7 : Nat) (Option.some Jvm.ClassFile.FieldType.long)) ∈ lw_all := lw_in (lw_tb (List.mem_of_getElem? (i := 740) (by decide +kernel))) rfl
theorem wq741 : (Jvm.Cond.methodLink "WeirStream" (310 : Nat) ({ cls := "WeirStream", name := "sortOf", desc := "(I)I" } : Jvm.MethodName)) ∈ lw_all := lw_in (lw_tb (List.mem_of_getElem? (i := 741) (by decide +kernel))) rfl
theorem wq742 : (Jvm.Cond.methodLink "WeirStream" (313 : Nat) ({ cls := "WeirStream", name := "markOf", desc := "(I)I" } : Jvm.MethodName)) ∈ lw_all := lw_in (lw_tb (List.mem_of_getElem? (i := 742) (by decide +kernel))) rfl
theorem wq743 : (Jvm.Cond.methodLink "WeirStream" (316 : Nat) ({ cls := "WeirStream", name := "taken", desc := "(I)I" } : Jvm.MethodName)) ∈ lw_all := lw_in (lw_tb (List.mem_of_getElem? (i := 743) (by decide +kernel))) rfl
theorem wq744 : (Jvm.Cond.methodLink "WeirStream" (318 : Nat) ({ cls := "WeirStream", name := "emitted", desc := "(I)I" } : Jvm.MethodName)) ∈ lw_all := lw_in (lw_tb (List.mem_of_getElem? (i := 744) (by decide +kernel))) rfl
theorem wq745 : (Jvm.Cond.instanceMethod ({ cls := "WeirStream", name := "emitted", desc := "(I)I" } : Jvm.MethodName)) ∈ lw_all := lw_in (lw_tb (List.mem_of_getElem? (i := 745) (by decide +kernel))) rfl
theorem wq746 : (Jvm.Cond.selects "WeirStream" ({ cls := "WeirStream", name := "emitted", desc := "(I)I" } : Jvm.MethodName) ({ cls := "WeirStream", name := "emitted", desc := "(I)I" } : Jvm.MethodName)) ∈ lw_all := lw_in (lw_tb (List.mem_of_getElem? (i := 746) (by decide +kernel))) rfl
theorem wq747 : (Jvm.Cond.code ({ cls := "WeirStream", name := "emitted", desc := "(I)I" } : Jvm.MethodName) prog_1_method_23_code (2 : Nat) (Option.some Jvm.ClassFile.FieldType.int)) ∈ lw_all := lw_in (lw_tb (List.mem_of_getElem? (i := 747) (by decide +kernel))) rfl
theorem wq748 : (Jvm.Cond.methodLink "WeirStream" (320 : Nat) ({ cls := "WeirStream", name := "late", desc := "(I)I" } : Jvm.MethodName)) ∈ lw_all := lw_in (lw_tb (List.mem_of_getElem? (i := 748) (by decide +kernel))) rfl
theorem wq749 : (Jvm.Cond.instanceMethod ({ cls := "WeirStream", name := "late", desc := "(I)I" } : Jvm.MethodName)) ∈ lw_all := lw_in (lw_tb (List.mem_of_getElem? (i := 749) (by decide +kernel))) rfl
theorem wq750 : (Jvm.Cond.selects "WeirStream" ({ cls := "WeirStream", name := "late", desc := "(I)I" } : Jvm.MethodName) ({ cls := "WeirStream", name := "late", desc := "(I)I" } : Jvm.MethodName)) ∈ lw_all := lw_in (lw_tb (List.mem_of_getElem? (i := 750) (by decide +kernel))) rfl
theorem wq751 : (Jvm.Cond.code ({ cls := "WeirStream", name := "late", desc := "(I)I" } : Jvm.MethodName) prog_1_method_24_code (2 : Nat) (Option.some Jvm.ClassFile.FieldType.int)) ∈ lw_all := lw_in (lw_tb (List.mem_of_getElem? (i := 751) (by decide +kernel))) rfl
theorem wq752 : (Jvm.Cond.methodLink "WeirStream" (322 : Nat) ({ cls := "WeirStream", name := "kept", desc := "(I)I" } : Jvm.MethodName)) ∈ lw_all := lw_in (lw_tb (List.mem_of_getElem? (i := 752) (by decide +kernel))) rfl
theorem wq753 : (Jvm.Cond.methodLink "WeirStream" (325 : Nat) ({ cls := "WeirStream", name := "isReady", desc := "(I)Z" } : Jvm.MethodName)) ∈ lw_all := lw_in (lw_tb (List.mem_of_getElem? (i := 753) (by decide +kernel))) rfl
theorem wq754 : (Jvm.Cond.methodLink "WeirStream" (328 : Nat) ({ cls := "WeirStream", name := "hasRoom", desc := "(I)Z" } : Jvm.MethodName)) ∈ lw_all := lw_in (lw_tb (List.mem_of_getElem? (i := 754) (by decide +kernel))) rfl
theorem wq755 : (Jvm.Cond.instanceMethod ({ cls := "WeirStream", name := "hasRoom", desc := "(I)Z" } : Jvm.MethodName)) ∈ lw_all := lw_in (lw_tb (List.mem_of_getElem? (i := 755) (by decide +kernel))) rfl
theorem wq756 : (Jvm.Cond.selects "WeirStream" ({ cls := "WeirStream", name := "hasRoom", desc := "(I)Z" } : Jvm.MethodName) ({ cls := "WeirStream", name := "hasRoom", desc := "(I)Z" } : Jvm.MethodName)) ∈ lw_all := lw_in (lw_tb (List.mem_of_getElem? (i := 756) (by decide +kernel))) rfl
theorem wq757 : (Jvm.Cond.code ({ cls := "WeirStream", name := "hasRoom", desc := "(I)Z" } : Jvm.MethodName) prog_1_method_27_code (2 : Nat) (Option.some Jvm.ClassFile.FieldType.boolean)) ∈ lw_all := lw_in (lw_tb (List.mem_of_getElem? (i := 757) (by decide +kernel))) rfl
theorem wq759 : (Jvm.Cond.methodLink "WeirStream" (331 : Nat) ({ cls := "WeirStream", name := "queued", desc := "(IZ)I" } : Jvm.MethodName)) ∈ lw_all := lw_in (lw_tb (List.mem_of_getElem? (i := 759) (by decide +kernel))) rfl
theorem wq760 : (Jvm.Cond.instanceMethod ({ cls := "WeirStream", name := "queued", desc := "(IZ)I" } : Jvm.MethodName)) ∈ lw_all := lw_in (lw_tb (List.mem_of_getElem? (i := 760) (by decide +kernel))) rfl
theorem wq761 : (Jvm.Cond.selects "WeirStream" ({ cls := "WeirStream", name := "queued", desc := "(IZ)I" } : Jvm.MethodName) ({ cls := "WeirStream", name := "queued", desc := "(IZ)I" } : Jvm.MethodName)) ∈ lw_all := lw_in (lw_tb (List.mem_of_getElem? (i := 761) (by decide +kernel))) rfl
theorem wq762 : (Jvm.Cond.code ({ cls := "WeirStream", name := "queued", desc := "(IZ)I" } : Jvm.MethodName) prog_1_method_28_code (4 : Nat) (Option.some Jvm.ClassFile.FieldType.int)) ∈ lw_all := lw_in (lw_tb (List.mem_of_getElem? (i := 762) (by decide +kernel))) rfl
theorem wq764 : (Jvm.Cond.methodLink "WeirStream" (335 : Nat) ({ cls := "WeirStream", name := "isBlocked", desc := "(IZ)Z" } : Jvm.MethodName)) ∈ lw_all := lw_in (lw_tb (List.mem_of_getElem? (i := 764) (by decide +kernel))) rfl
theorem wq765 : (Jvm.Cond.methodLink "WeirStream" (339 : Nat) ({ cls := "WeirStream", name := "depthOf", desc := "(I)I" } : Jvm.MethodName)) ∈ lw_all := lw_in (lw_tb (List.mem_of_getElem? (i := 765) (by decide +kernel))) rfl
theorem wq766 : (Jvm.Cond.instanceMethod ({ cls := "WeirStream", name := "depthOf", desc := "(I)I" } : Jvm.MethodName)) ∈ lw_all := lw_in (lw_tb (List.mem_of_getElem? (i := 766) (by decide +kernel))) rfl
theorem wq767 : (Jvm.Cond.selects "WeirStream" ({ cls := "WeirStream", name := "depthOf", desc := "(I)I" } : Jvm.MethodName) ({ cls := "WeirStream", name := "depthOf", desc := "(I)I" } : Jvm.MethodName)) ∈ lw_all := lw_in (lw_tb (List.mem_of_getElem? (i := 767) (by decide +kernel))) rfl
theorem wq768 : (Jvm.Cond.code ({ cls := "WeirStream", name := "depthOf", desc := "(I)I" } : Jvm.MethodName) prog_1_method_31_code (2 : Nat) (Option.some Jvm.ClassFile.FieldType.int)) ∈ lw_all := lw_in (lw_tb (List.mem_of_getElem? (i := 768) (by decide +kernel))) rfl
theorem wq769 : (Jvm.Cond.methodLink "WeirStream" (342 : Nat) ({ cls := "WeirStream", name := "nextEnd", desc := "(I)I" } : Jvm.MethodName)) ∈ lw_all := lw_in (lw_tb (List.mem_of_getElem? (i := 769) (by decide +kernel))) rfl
theorem wq770 : (Jvm.Cond.instanceMethod ({ cls := "WeirStream", name := "nextEnd", desc := "(I)I" } : Jvm.MethodName)) ∈ lw_all := lw_in (lw_tb (List.mem_of_getElem? (i := 770) (by decide +kernel))) rfl
theorem wq771 : (Jvm.Cond.selects "WeirStream" ({ cls := "WeirStream", name := "nextEnd", desc := "(I)I" } : Jvm.MethodName) ({ cls := "WeirStream", name := "nextEnd", desc := "(I)I" } : Jvm.MethodName)) ∈ lw_all := lw_in (lw_tb (List.mem_of_getElem? (i := 771) (by decide +kernel))) rfl
theorem wq772 : (Jvm.Cond.code ({ cls := "WeirStream", name := "nextEnd", desc := "(I)I" } : Jvm.MethodName) prog_1_method_33_code (5 : Nat) (Option.some Jvm.ClassFile.FieldType.int)) ∈ lw_all := lw_in (lw_tb (List.mem_of_getElem? (i := 772) (by decide +kernel))) rfl
theorem wq780 : (Jvm.Cond.methodLink "WeirStream" (345 : Nat) ({ cls := "WeirStream", name := "digestOfOutput", desc := "(JI)J" } : Jvm.MethodName)) ∈ lw_all := lw_in (lw_tb (List.mem_of_getElem? (i := 780) (by decide +kernel))) rfl
theorem wq782 : (Jvm.Cond.instanceMethod ({ cls := "WeirStream", name := "digestOfOutput", desc := "(JI)J" } : Jvm.MethodName)) ∈ lw_all := lw_in (lw_tb (List.mem_of_getElem? (i := 782) (by decide +kernel))) rfl
theorem wq783 : (Jvm.Cond.code ({ cls := "WeirStream", name := "digestOfOutput", desc := "(JI)J" } : Jvm.MethodName) prog_1_method_52_code (10 : Nat) (Option.some Jvm.ClassFile.FieldType.long)) ∈ lw_all := lw_in (lw_tb (List.mem_of_getElem? (i := 783) (by decide +kernel))) rfl
theorem wq784 : (Jvm.Cond.methodLink "WeirStream" (348 : Nat) ({ cls := "WeirStream", name := "outputs", desc := "(I)I" } : Jvm.MethodName)) ∈ lw_all := lw_in (lw_tb (List.mem_of_getElem? (i := 784) (by decide +kernel))) rfl
theorem wq785 : (Jvm.Cond.methodLink "WeirStream" (351 : Nat) ({ cls := "WeirStream", name := "committed", desc := "(I)I" } : Jvm.MethodName)) ∈ lw_all := lw_in (lw_tb (List.mem_of_getElem? (i := 785) (by decide +kernel))) rfl
theorem wq786 : (Jvm.Cond.methodLink "WeirStream" (243 : Nat) ({ cls := "WeirStream", name := "outputAt", desc := "(II)J" } : Jvm.MethodName)) ∈ lw_all := lw_in (lw_tb (List.mem_of_getElem? (i := 786) (by decide +kernel))) rfl
theorem wq788 : (Jvm.Cond.instanceMethod ({ cls := "WeirStream", name := "outputAt", desc := "(II)J" } : Jvm.MethodName)) ∈ lw_all := lw_in (lw_tb (List.mem_of_getElem? (i := 788) (by decide +kernel))) rfl
theorem wq789 : (Jvm.Cond.code ({ cls := "WeirStream", name := "outputAt", desc := "(II)J" } : Jvm.MethodName) prog_1_method_63_code (4 : Nat) (Option.some Jvm.ClassFile.FieldType.long)) ∈ lw_all := lw_in (lw_tb (List.mem_of_getElem? (i := 789) (by decide +kernel))) rfl
theorem wq791 : (Jvm.Cond.methodLink "WeirStream" (247 : Nat) ({ cls := "WeirStream$Item", name := "key", desc := "(J)I" } : Jvm.MethodName)) ∈ lw_all := lw_in (lw_tb (List.mem_of_getElem? (i := 791) (by decide +kernel))) rfl
theorem wq792 : (Jvm.Cond.methodLink "WeirStream" (251 : Nat) ({ cls := "WeirStream$Item", name := "value", desc := "(J)I" } : Jvm.MethodName)) ∈ lw_all := lw_in (lw_tb (List.mem_of_getElem? (i := 792) (by decide +kernel))) rfl
theorem wq793 : (Jvm.Cond.methodLink "WeirStream" (254 : Nat) ({ cls := "WeirStream$Item", name := "time", desc := "(J)I" } : Jvm.MethodName)) ∈ lw_all := lw_in (lw_tb (List.mem_of_getElem? (i := 793) (by decide +kernel))) rfl
theorem ws21 : Cond.selects "WeirStream" ⟨"WeirStream", "digestOfStage", "(JI)J"⟩ ⟨"WeirStream", "digestOfStage", "(JI)J"⟩ ∈ lw_all := lw_in (lw_ps (List.mem_of_getElem? (i := 21) (by decide +kernel))) rfl
theorem ws23 : Cond.selects "WeirStream" ⟨"WeirStream", "digestOfOutput", "(JI)J"⟩ ⟨"WeirStream", "digestOfOutput", "(JI)J"⟩ ∈ lw_all := lw_in (lw_ps (List.mem_of_getElem? (i := 23) (by decide +kernel))) rfl
theorem ws24 : Cond.selects "WeirStream" ⟨"WeirStream", "outputAt", "(II)J"⟩ ⟨"WeirStream", "outputAt", "(II)J"⟩ ∈ lw_all := lw_in (lw_ps (List.mem_of_getElem? (i := 24) (by decide +kernel))) rfl
theorem dX10_digestOfOutput_40 : decode cX10_digestOfOutput 40 = .ok (.iload 7, 2) := by decide +kernel
theorem dX10_digestOfOutput_42 : decode cX10_digestOfOutput 42 = .ok (.iload 6, 2) := by decide +kernel
theorem dX10_digestOfOutput_44 : decode cX10_digestOfOutput 44 = .ok (.if_icmp .ge 63, 3) := by decide +kernel
theorem dX10_digestOfOutput_107 : decode cX10_digestOfOutput 107 = .ok (.lload 4, 2) := by decide +kernel
theorem dX10_digestOfOutput_109 : decode cX10_digestOfOutput 109 = .ok (.lreturn, 1) := by decide +kernel
theorem dX10_digestOfOutput_47 : decode cX10_digestOfOutput 47 = .ok (.aload_n 0, 1) := by decide +kernel
theorem dX10_digestOfOutput_48 : decode cX10_digestOfOutput 48 = .ok (.iload_n 3, 1) := by decide +kernel
theorem dX10_digestOfOutput_49 : decode cX10_digestOfOutput 49 = .ok (.iload 7, 2) := by decide +kernel
theorem dX10_digestOfOutput_51 : decode cX10_digestOfOutput 51 = .ok (.invokevirtual 243, 3) := by decide +kernel
theorem dX10_digestOfOutput_54 : decode cX10_digestOfOutput 54 = .ok (.lstore 8, 2) := by decide +kernel
theorem dX10_digestOfOutput_56 : decode cX10_digestOfOutput 56 = .ok (.lload 4, 2) := by decide +kernel
theorem dX10_digestOfOutput_58 : decode cX10_digestOfOutput 58 = .ok (.ldc2_w 275, 3) := by decide +kernel
theorem dX10_digestOfOutput_61 : decode cX10_digestOfOutput 61 = .ok (.lmul, 1) := by decide +kernel
theorem dX10_digestOfOutput_62 : decode cX10_digestOfOutput 62 = .ok (.lload 8, 2) := by decide +kernel
theorem dX10_digestOfOutput_64 : decode cX10_digestOfOutput 64 = .ok (.invokestatic 247, 3) := by decide +kernel
theorem dX10_digestOfOutput_67 : decode cX10_digestOfOutput 67 = .ok (.i2l, 1) := by decide +kernel
theorem dX10_digestOfOutput_68 : decode cX10_digestOfOutput 68 = .ok (.ladd, 1) := by decide +kernel
theorem dX10_digestOfOutput_69 : decode cX10_digestOfOutput 69 = .ok (.lstore 4, 2) := by decide +kernel
theorem dX10_digestOfOutput_71 : decode cX10_digestOfOutput 71 = .ok (.lload 4, 2) := by decide +kernel
theorem dX10_digestOfOutput_73 : decode cX10_digestOfOutput 73 = .ok (.ldc2_w 275, 3) := by decide +kernel
theorem dX10_digestOfOutput_76 : decode cX10_digestOfOutput 76 = .ok (.lmul, 1) := by decide +kernel
theorem dX10_digestOfOutput_77 : decode cX10_digestOfOutput 77 = .ok (.lload 8, 2) := by decide +kernel
theorem dX10_digestOfOutput_79 : decode cX10_digestOfOutput 79 = .ok (.invokestatic 251, 3) := by decide +kernel
theorem dX10_digestOfOutput_82 : decode cX10_digestOfOutput 82 = .ok (.i2l, 1) := by decide +kernel
theorem dX10_digestOfOutput_83 : decode cX10_digestOfOutput 83 = .ok (.ladd, 1) := by decide +kernel
theorem dX10_digestOfOutput_84 : decode cX10_digestOfOutput 84 = .ok (.lstore 4, 2) := by decide +kernel
theorem dX10_digestOfOutput_86 : decode cX10_digestOfOutput 86 = .ok (.lload 4, 2) := by decide +kernel
theorem dX10_digestOfOutput_88 : decode cX10_digestOfOutput 88 = .ok (.ldc2_w 275, 3) := by decide +kernel
theorem dX10_digestOfOutput_91 : decode cX10_digestOfOutput 91 = .ok (.lmul, 1) := by decide +kernel
theorem dX10_digestOfOutput_92 : decode cX10_digestOfOutput 92 = .ok (.lload 8, 2) := by decide +kernel
theorem dX10_digestOfOutput_94 : decode cX10_digestOfOutput 94 = .ok (.invokestatic 254, 3) := by decide +kernel
theorem dX10_digestOfOutput_97 : decode cX10_digestOfOutput 97 = .ok (.i2l, 1) := by decide +kernel
theorem dX10_digestOfOutput_98 : decode cX10_digestOfOutput 98 = .ok (.ladd, 1) := by decide +kernel
theorem dX10_digestOfOutput_99 : decode cX10_digestOfOutput 99 = .ok (.lstore 4, 2) := by decide +kernel
theorem dX10_digestOfOutput_101 : decode cX10_digestOfOutput 101 = .ok (.iinc 7 1, 3) := by decide +kernel
theorem dX10_digestOfOutput_104 : decode cX10_digestOfOutput 104 = .ok (.goto (-64), 3) := by decide +kernel
theorem dX10_digestOfOutput_0 : decode cX10_digestOfOutput 0 = .ok (.lload_n 1, 1) := by decide +kernel
theorem dX10_digestOfOutput_1 : decode cX10_digestOfOutput 1 = .ok (.lstore 4, 2) := by decide +kernel
theorem dX10_digestOfOutput_3 : decode cX10_digestOfOutput 3 = .ok (.aload_n 0, 1) := by decide +kernel
theorem dX10_digestOfOutput_4 : decode cX10_digestOfOutput 4 = .ok (.iload_n 3, 1) := by decide +kernel
theorem dX10_digestOfOutput_5 : decode cX10_digestOfOutput 5 = .ok (.invokevirtual 348, 3) := by decide +kernel
theorem dX10_digestOfOutput_8 : decode cX10_digestOfOutput 8 = .ok (.istore 6, 2) := by decide +kernel
theorem dX10_digestOfOutput_10 : decode cX10_digestOfOutput 10 = .ok (.lload 4, 2) := by decide +kernel
theorem dX10_digestOfOutput_12 : decode cX10_digestOfOutput 12 = .ok (.ldc2_w 275, 3) := by decide +kernel
theorem dX10_digestOfOutput_15 : decode cX10_digestOfOutput 15 = .ok (.lmul, 1) := by decide +kernel
theorem dX10_digestOfOutput_16 : decode cX10_digestOfOutput 16 = .ok (.iload 6, 2) := by decide +kernel
theorem dX10_digestOfOutput_18 : decode cX10_digestOfOutput 18 = .ok (.i2l, 1) := by decide +kernel
theorem dX10_digestOfOutput_19 : decode cX10_digestOfOutput 19 = .ok (.ladd, 1) := by decide +kernel
theorem dX10_digestOfOutput_20 : decode cX10_digestOfOutput 20 = .ok (.lstore 4, 2) := by decide +kernel
theorem dX10_digestOfOutput_22 : decode cX10_digestOfOutput 22 = .ok (.lload 4, 2) := by decide +kernel
theorem dX10_digestOfOutput_24 : decode cX10_digestOfOutput 24 = .ok (.ldc2_w 275, 3) := by decide +kernel
theorem dX10_digestOfOutput_27 : decode cX10_digestOfOutput 27 = .ok (.lmul, 1) := by decide +kernel
theorem dX10_digestOfOutput_28 : decode cX10_digestOfOutput 28 = .ok (.aload_n 0, 1) := by decide +kernel
theorem dX10_digestOfOutput_29 : decode cX10_digestOfOutput 29 = .ok (.iload_n 3, 1) := by decide +kernel
theorem dX10_digestOfOutput_30 : decode cX10_digestOfOutput 30 = .ok (.invokevirtual 351, 3) := by decide +kernel
theorem dX10_digestOfOutput_33 : decode cX10_digestOfOutput 33 = .ok (.i2l, 1) := by decide +kernel
theorem dX10_digestOfOutput_34 : decode cX10_digestOfOutput 34 = .ok (.ladd, 1) := by decide +kernel
theorem dX10_digestOfOutput_35 : decode cX10_digestOfOutput 35 = .ok (.lstore 4, 2) := by decide +kernel
theorem dX10_digestOfOutput_37 : decode cX10_digestOfOutput 37 = .ok (.iconst 0, 1) := by decide +kernel
theorem dX10_digestOfOutput_38 : decode cX10_digestOfOutput 38 = .ok (.istore 7, 2) := by decide +kernel
theorem dX10_digestOfStage_0 : decode cX10_digestOfStage 0 = .ok (.lload_n 1, 1) := by decide +kernel
theorem dX10_digestOfStage_1 : decode cX10_digestOfStage 1 = .ok (.lstore 4, 2) := by decide +kernel
theorem dX10_digestOfStage_3 : decode cX10_digestOfStage 3 = .ok (.lload 4, 2) := by decide +kernel
theorem dX10_digestOfStage_5 : decode cX10_digestOfStage 5 = .ok (.ldc2_w 275, 3) := by decide +kernel
theorem dX10_digestOfStage_8 : decode cX10_digestOfStage 8 = .ok (.lmul, 1) := by decide +kernel
theorem dX10_digestOfStage_9 : decode cX10_digestOfStage 9 = .ok (.aload_n 0, 1) := by decide +kernel
theorem dX10_digestOfStage_10 : decode cX10_digestOfStage 10 = .ok (.iload_n 3, 1) := by decide +kernel
theorem dX10_digestOfStage_11 : decode cX10_digestOfStage 11 = .ok (.invokevirtual 310, 3) := by decide +kernel
theorem dX10_digestOfStage_14 : decode cX10_digestOfStage 14 = .ok (.i2l, 1) := by decide +kernel
theorem dX10_digestOfStage_15 : decode cX10_digestOfStage 15 = .ok (.ladd, 1) := by decide +kernel
theorem dX10_digestOfStage_16 : decode cX10_digestOfStage 16 = .ok (.lstore 4, 2) := by decide +kernel
theorem dX10_digestOfStage_18 : decode cX10_digestOfStage 18 = .ok (.lload 4, 2) := by decide +kernel
theorem dX10_digestOfStage_20 : decode cX10_digestOfStage 20 = .ok (.ldc2_w 275, 3) := by decide +kernel
theorem dX10_digestOfStage_23 : decode cX10_digestOfStage 23 = .ok (.lmul, 1) := by decide +kernel
theorem dX10_digestOfStage_24 : decode cX10_digestOfStage 24 = .ok (.aload_n 0, 1) := by decide +kernel
theorem dX10_digestOfStage_25 : decode cX10_digestOfStage 25 = .ok (.iload_n 3, 1) := by decide +kernel
theorem dX10_digestOfStage_26 : decode cX10_digestOfStage 26 = .ok (.invokevirtual 313, 3) := by decide +kernel
theorem dX10_digestOfStage_29 : decode cX10_digestOfStage 29 = .ok (.i2l, 1) := by decide +kernel
theorem dX10_digestOfStage_30 : decode cX10_digestOfStage 30 = .ok (.ladd, 1) := by decide +kernel
theorem dX10_digestOfStage_31 : decode cX10_digestOfStage 31 = .ok (.lstore 4, 2) := by decide +kernel
theorem dX10_digestOfStage_33 : decode cX10_digestOfStage 33 = .ok (.lload 4, 2) := by decide +kernel
theorem dX10_digestOfStage_35 : decode cX10_digestOfStage 35 = .ok (.ldc2_w 275, 3) := by decide +kernel
theorem dX10_digestOfStage_38 : decode cX10_digestOfStage 38 = .ok (.lmul, 1) := by decide +kernel
theorem dX10_digestOfStage_39 : decode cX10_digestOfStage 39 = .ok (.aload_n 0, 1) := by decide +kernel
theorem dX10_digestOfStage_40 : decode cX10_digestOfStage 40 = .ok (.iload_n 3, 1) := by decide +kernel
theorem dX10_digestOfStage_41 : decode cX10_digestOfStage 41 = .ok (.invokevirtual 316, 3) := by decide +kernel
theorem dX10_digestOfStage_44 : decode cX10_digestOfStage 44 = .ok (.i2l, 1) := by decide +kernel
theorem dX10_digestOfStage_45 : decode cX10_digestOfStage 45 = .ok (.ladd, 1) := by decide +kernel
theorem dX10_digestOfStage_46 : decode cX10_digestOfStage 46 = .ok (.lstore 4, 2) := by decide +kernel
theorem dX10_digestOfStage_48 : decode cX10_digestOfStage 48 = .ok (.lload 4, 2) := by decide +kernel
theorem dX10_digestOfStage_50 : decode cX10_digestOfStage 50 = .ok (.ldc2_w 275, 3) := by decide +kernel
theorem dX10_digestOfStage_53 : decode cX10_digestOfStage 53 = .ok (.lmul, 1) := by decide +kernel
theorem dX10_digestOfStage_54 : decode cX10_digestOfStage 54 = .ok (.aload_n 0, 1) := by decide +kernel
theorem dX10_digestOfStage_55 : decode cX10_digestOfStage 55 = .ok (.iload_n 3, 1) := by decide +kernel
theorem dX10_digestOfStage_56 : decode cX10_digestOfStage 56 = .ok (.invokevirtual 318, 3) := by decide +kernel
theorem dX10_digestOfStage_59 : decode cX10_digestOfStage 59 = .ok (.i2l, 1) := by decide +kernel
theorem dX10_digestOfStage_60 : decode cX10_digestOfStage 60 = .ok (.ladd, 1) := by decide +kernel
theorem dX10_digestOfStage_61 : decode cX10_digestOfStage 61 = .ok (.lstore 4, 2) := by decide +kernel
theorem dX10_digestOfStage_63 : decode cX10_digestOfStage 63 = .ok (.lload 4, 2) := by decide +kernel
theorem dX10_digestOfStage_65 : decode cX10_digestOfStage 65 = .ok (.ldc2_w 275, 3) := by decide +kernel
theorem dX10_digestOfStage_68 : decode cX10_digestOfStage 68 = .ok (.lmul, 1) := by decide +kernel
theorem dX10_digestOfStage_69 : decode cX10_digestOfStage 69 = .ok (.aload_n 0, 1) := by decide +kernel
theorem dX10_digestOfStage_70 : decode cX10_digestOfStage 70 = .ok (.iload_n 3, 1) := by decide +kernel
theorem dX10_digestOfStage_71 : decode cX10_digestOfStage 71 = .ok (.invokevirtual 320, 3) := by decide +kernel
theorem dX10_digestOfStage_74 : decode cX10_digestOfStage 74 = .ok (.i2l, 1) := by decide +kernel
theorem dX10_digestOfStage_75 : decode cX10_digestOfStage 75 = .ok (.ladd, 1) := by decide +kernel
theorem dX10_digestOfStage_76 : decode cX10_digestOfStage 76 = .ok (.lstore 4, 2) := by decide +kernel
theorem dX10_digestOfStage_78 : decode cX10_digestOfStage 78 = .ok (.lload 4, 2) := by decide +kernel
theorem dX10_digestOfStage_80 : decode cX10_digestOfStage 80 = .ok (.ldc2_w 275, 3) := by decide +kernel
theorem dX10_digestOfStage_83 : decode cX10_digestOfStage 83 = .ok (.lmul, 1) := by decide +kernel
theorem dX10_digestOfStage_84 : decode cX10_digestOfStage 84 = .ok (.aload_n 0, 1) := by decide +kernel
theorem dX10_digestOfStage_85 : decode cX10_digestOfStage 85 = .ok (.iload_n 3, 1) := by decide +kernel
theorem dX10_digestOfStage_86 : decode cX10_digestOfStage 86 = .ok (.invokevirtual 322, 3) := by decide +kernel
theorem dX10_digestOfStage_89 : decode cX10_digestOfStage 89 = .ok (.i2l, 1) := by decide +kernel
theorem dX10_digestOfStage_90 : decode cX10_digestOfStage 90 = .ok (.ladd, 1) := by decide +kernel
theorem dX10_digestOfStage_91 : decode cX10_digestOfStage 91 = .ok (.lstore 4, 2) := by decide +kernel
theorem dX10_digestOfStage_93 : decode cX10_digestOfStage 93 = .ok (.lload 4, 2) := by decide +kernel
theorem dX10_digestOfStage_95 : decode cX10_digestOfStage 95 = .ok (.ldc2_w 275, 3) := by decide +kernel
theorem dX10_digestOfStage_98 : decode cX10_digestOfStage 98 = .ok (.lmul, 1) := by decide +kernel
theorem dX10_digestOfStage_99 : decode cX10_digestOfStage 99 = .ok (.aload_n 0, 1) := by decide +kernel
theorem dX10_digestOfStage_100 : decode cX10_digestOfStage 100 = .ok (.iload_n 3, 1) := by decide +kernel
theorem dX10_digestOfStage_101 : decode cX10_digestOfStage 101 = .ok (.invokevirtual 325, 3) := by decide +kernel
theorem dX10_digestOfStage_104 : decode cX10_digestOfStage 104 = .ok (.invokestatic 284, 3) := by decide +kernel
theorem dX10_digestOfStage_107 : decode cX10_digestOfStage 107 = .ok (.i2l, 1) := by decide +kernel
theorem dX10_digestOfStage_108 : decode cX10_digestOfStage 108 = .ok (.ladd, 1) := by decide +kernel
theorem dX10_digestOfStage_109 : decode cX10_digestOfStage 109 = .ok (.lstore 4, 2) := by decide +kernel
theorem dX10_digestOfStage_111 : decode cX10_digestOfStage 111 = .ok (.lload 4, 2) := by decide +kernel
theorem dX10_digestOfStage_113 : decode cX10_digestOfStage 113 = .ok (.ldc2_w 275, 3) := by decide +kernel
theorem dX10_digestOfStage_116 : decode cX10_digestOfStage 116 = .ok (.lmul, 1) := by decide +kernel
theorem dX10_digestOfStage_117 : decode cX10_digestOfStage 117 = .ok (.aload_n 0, 1) := by decide +kernel
theorem dX10_digestOfStage_118 : decode cX10_digestOfStage 118 = .ok (.iload_n 3, 1) := by decide +kernel
theorem dX10_digestOfStage_119 : decode cX10_digestOfStage 119 = .ok (.invokevirtual 328, 3) := by decide +kernel
theorem dX10_digestOfStage_122 : decode cX10_digestOfStage 122 = .ok (.invokestatic 284, 3) := by decide +kernel
theorem dX10_digestOfStage_125 : decode cX10_digestOfStage 125 = .ok (.i2l, 1) := by decide +kernel
theorem dX10_digestOfStage_126 : decode cX10_digestOfStage 126 = .ok (.ladd, 1) := by decide +kernel
theorem dX10_digestOfStage_127 : decode cX10_digestOfStage 127 = .ok (.lstore 4, 2) := by decide +kernel
theorem dX10_digestOfStage_129 : decode cX10_digestOfStage 129 = .ok (.lload 4, 2) := by decide +kernel
theorem dX10_digestOfStage_131 : decode cX10_digestOfStage 131 = .ok (.ldc2_w 275, 3) := by decide +kernel
theorem dX10_digestOfStage_134 : decode cX10_digestOfStage 134 = .ok (.lmul, 1) := by decide +kernel
theorem dX10_digestOfStage_135 : decode cX10_digestOfStage 135 = .ok (.aload_n 0, 1) := by decide +kernel
theorem dX10_digestOfStage_136 : decode cX10_digestOfStage 136 = .ok (.iload_n 3, 1) := by decide +kernel
theorem dX10_digestOfStage_137 : decode cX10_digestOfStage 137 = .ok (.iconst 0, 1) := by decide +kernel
theorem dX10_digestOfStage_138 : decode cX10_digestOfStage 138 = .ok (.invokevirtual 331, 3) := by decide +kernel
theorem dX10_digestOfStage_141 : decode cX10_digestOfStage 141 = .ok (.i2l, 1) := by decide +kernel
theorem dX10_digestOfStage_142 : decode cX10_digestOfStage 142 = .ok (.ladd, 1) := by decide +kernel
theorem dX10_digestOfStage_143 : decode cX10_digestOfStage 143 = .ok (.lstore 4, 2) := by decide +kernel
theorem dX10_digestOfStage_145 : decode cX10_digestOfStage 145 = .ok (.lload 4, 2) := by decide +kernel
theorem dX10_digestOfStage_147 : decode cX10_digestOfStage 147 = .ok (.ldc2_w 275, 3) := by decide +kernel
theorem dX10_digestOfStage_150 : decode cX10_digestOfStage 150 = .ok (.lmul, 1) := by decide +kernel
theorem dX10_digestOfStage_151 : decode cX10_digestOfStage 151 = .ok (.aload_n 0, 1) := by decide +kernel
theorem dX10_digestOfStage_152 : decode cX10_digestOfStage 152 = .ok (.iload_n 3, 1) := by decide +kernel
theorem dX10_digestOfStage_153 : decode cX10_digestOfStage 153 = .ok (.iconst 0, 1) := by decide +kernel
theorem dX10_digestOfStage_154 : decode cX10_digestOfStage 154 = .ok (.invokevirtual 335, 3) := by decide +kernel
theorem dX10_digestOfStage_157 : decode cX10_digestOfStage 157 = .ok (.invokestatic 284, 3) := by decide +kernel
theorem dX10_digestOfStage_160 : decode cX10_digestOfStage 160 = .ok (.i2l, 1) := by decide +kernel
theorem dX10_digestOfStage_161 : decode cX10_digestOfStage 161 = .ok (.ladd, 1) := by decide +kernel
theorem dX10_digestOfStage_162 : decode cX10_digestOfStage 162 = .ok (.lstore 4, 2) := by decide +kernel
theorem dX10_digestOfStage_164 : decode cX10_digestOfStage 164 = .ok (.lload 4, 2) := by decide +kernel
theorem dX10_digestOfStage_166 : decode cX10_digestOfStage 166 = .ok (.ldc2_w 275, 3) := by decide +kernel
theorem dX10_digestOfStage_169 : decode cX10_digestOfStage 169 = .ok (.lmul, 1) := by decide +kernel
theorem dX10_digestOfStage_170 : decode cX10_digestOfStage 170 = .ok (.aload_n 0, 1) := by decide +kernel
theorem dX10_digestOfStage_171 : decode cX10_digestOfStage 171 = .ok (.iload_n 3, 1) := by decide +kernel
theorem dX10_digestOfStage_172 : decode cX10_digestOfStage 172 = .ok (.iconst 1, 1) := by decide +kernel
theorem dX10_digestOfStage_173 : decode cX10_digestOfStage 173 = .ok (.invokevirtual 331, 3) := by decide +kernel
theorem dX10_digestOfStage_176 : decode cX10_digestOfStage 176 = .ok (.i2l, 1) := by decide +kernel
theorem dX10_digestOfStage_177 : decode cX10_digestOfStage 177 = .ok (.ladd, 1) := by decide +kernel
theorem dX10_digestOfStage_178 : decode cX10_digestOfStage 178 = .ok (.lstore 4, 2) := by decide +kernel
theorem dX10_digestOfStage_180 : decode cX10_digestOfStage 180 = .ok (.lload 4, 2) := by decide +kernel
theorem dX10_digestOfStage_182 : decode cX10_digestOfStage 182 = .ok (.ldc2_w 275, 3) := by decide +kernel
theorem dX10_digestOfStage_185 : decode cX10_digestOfStage 185 = .ok (.lmul, 1) := by decide +kernel
theorem dX10_digestOfStage_186 : decode cX10_digestOfStage 186 = .ok (.aload_n 0, 1) := by decide +kernel
theorem dX10_digestOfStage_187 : decode cX10_digestOfStage 187 = .ok (.iload_n 3, 1) := by decide +kernel
theorem dX10_digestOfStage_188 : decode cX10_digestOfStage 188 = .ok (.iconst 1, 1) := by decide +kernel
theorem dX10_digestOfStage_189 : decode cX10_digestOfStage 189 = .ok (.invokevirtual 335, 3) := by decide +kernel
theorem dX10_digestOfStage_192 : decode cX10_digestOfStage 192 = .ok (.invokestatic 284, 3) := by decide +kernel
theorem dX10_digestOfStage_195 : decode cX10_digestOfStage 195 = .ok (.i2l, 1) := by decide +kernel
theorem dX10_digestOfStage_196 : decode cX10_digestOfStage 196 = .ok (.ladd, 1) := by decide +kernel
theorem dX10_digestOfStage_197 : decode cX10_digestOfStage 197 = .ok (.lstore 4, 2) := by decide +kernel
theorem dX10_digestOfStage_199 : decode cX10_digestOfStage 199 = .ok (.lload 4, 2) := by decide +kernel
theorem dX10_digestOfStage_201 : decode cX10_digestOfStage 201 = .ok (.ldc2_w 275, 3) := by decide +kernel
theorem dX10_digestOfStage_204 : decode cX10_digestOfStage 204 = .ok (.lmul, 1) := by decide +kernel
theorem dX10_digestOfStage_205 : decode cX10_digestOfStage 205 = .ok (.aload_n 0, 1) := by decide +kernel
theorem dX10_digestOfStage_206 : decode cX10_digestOfStage 206 = .ok (.iload_n 3, 1) := by decide +kernel
theorem dX10_digestOfStage_207 : decode cX10_digestOfStage 207 = .ok (.invokevirtual 339, 3) := by decide +kernel
theorem dX10_digestOfStage_210 : decode cX10_digestOfStage 210 = .ok (.i2l, 1) := by decide +kernel
theorem dX10_digestOfStage_211 : decode cX10_digestOfStage 211 = .ok (.ladd, 1) := by decide +kernel
theorem dX10_digestOfStage_212 : decode cX10_digestOfStage 212 = .ok (.lstore 4, 2) := by decide +kernel
theorem dX10_digestOfStage_214 : decode cX10_digestOfStage 214 = .ok (.aload_n 0, 1) := by decide +kernel
theorem dX10_digestOfStage_215 : decode cX10_digestOfStage 215 = .ok (.iload_n 3, 1) := by decide +kernel
theorem dX10_digestOfStage_216 : decode cX10_digestOfStage 216 = .ok (.invokevirtual 310, 3) := by decide +kernel
theorem dX10_digestOfStage_219 : decode cX10_digestOfStage 219 = .ok (.istore 6, 2) := by decide +kernel
theorem dX10_digestOfStage_221 : decode cX10_digestOfStage 221 = .ok (.iload 6, 2) := by decide +kernel
theorem dX10_digestOfStage_223 : decode cX10_digestOfStage 223 = .ok (.iconst 3, 1) := by decide +kernel
theorem dX10_digestOfStage_224 : decode cX10_digestOfStage 224 = .ok (.if_icmp .eq 9, 3) := by decide +kernel
theorem dX10_digestOfStage_233 : decode cX10_digestOfStage 233 = .ok (.lload 4, 2) := by decide +kernel
theorem dX10_digestOfStage_235 : decode cX10_digestOfStage 235 = .ok (.ldc2_w 275, 3) := by decide +kernel
theorem dX10_digestOfStage_238 : decode cX10_digestOfStage 238 = .ok (.lmul, 1) := by decide +kernel
theorem dX10_digestOfStage_239 : decode cX10_digestOfStage 239 = .ok (.aload_n 0, 1) := by decide +kernel
theorem dX10_digestOfStage_240 : decode cX10_digestOfStage 240 = .ok (.iload_n 3, 1) := by decide +kernel
theorem dX10_digestOfStage_241 : decode cX10_digestOfStage 241 = .ok (.invokevirtual 342, 3) := by decide +kernel
theorem dX10_digestOfStage_244 : decode cX10_digestOfStage 244 = .ok (.i2l, 1) := by decide +kernel
theorem dX10_digestOfStage_245 : decode cX10_digestOfStage 245 = .ok (.ladd, 1) := by decide +kernel
theorem dX10_digestOfStage_246 : decode cX10_digestOfStage 246 = .ok (.lstore 4, 2) := by decide +kernel
theorem dX10_digestOfStage_248 : decode cX10_digestOfStage 248 = .ok (.iload 6, 2) := by decide +kernel
theorem dX10_digestOfStage_250 : decode cX10_digestOfStage 250 = .ok (.bipush 7, 2) := by decide +kernel
theorem dX10_digestOfStage_252 : decode cX10_digestOfStage 252 = .ok (.if_icmp .ne 13, 3) := by decide +kernel
theorem dX10_digestOfStage_255 : decode cX10_digestOfStage 255 = .ok (.aload_n 0, 1) := by decide +kernel
theorem dX10_digestOfStage_256 : decode cX10_digestOfStage 256 = .ok (.lload 4, 2) := by decide +kernel
theorem dX10_digestOfStage_258 : decode cX10_digestOfStage 258 = .ok (.iload_n 3, 1) := by decide +kernel
theorem dX10_digestOfStage_259 : decode cX10_digestOfStage 259 = .ok (.invokevirtual 345, 3) := by decide +kernel
theorem dX10_digestOfStage_262 : decode cX10_digestOfStage 262 = .ok (.goto 5, 3) := by decide +kernel
theorem dX10_digestOfStage_267 : decode cX10_digestOfStage 267 = .ok (.lreturn, 1) := by decide +kernel
theorem dX10_digestOfStage_265 : decode cX10_digestOfStage 265 = .ok (.lload 4, 2) := by decide +kernel
theorem dX10_digestOfStage_227 : decode cX10_digestOfStage 227 = .ok (.iload 6, 2) := by decide +kernel
theorem dX10_digestOfStage_229 : decode cX10_digestOfStage 229 = .ok (.iconst 4, 1) := by decide +kernel
theorem dX10_digestOfStage_230 : decode cX10_digestOfStage 230 = .ok (.if_icmp .ne 18, 3) := by decide +kernel
theorem dX10_digest_105 : decode cX10_digest 105 = .ok (.iload_n 3, 1) := by decide +kernel
theorem dX10_digest_106 : decode cX10_digest 106 = .ok (.aload_n 0, 1) := by decide +kernel
theorem dX10_digest_107 : decode cX10_digest 107 = .ok (.getfield 12, 3) := by decide +kernel
theorem dX10_digest_110 : decode cX10_digest 110 = .ok (.invokevirtual 88, 3) := by decide +kernel
theorem dX10_digest_113 : decode cX10_digest 113 = .ok (.if_icmp .ge 16, 3) := by decide +kernel
theorem dX10_digest_129 : decode cX10_digest 129 = .ok (.lload_n 1, 1) := by decide +kernel
theorem dX10_digest_130 : decode cX10_digest 130 = .ok (.lreturn, 1) := by decide +kernel
theorem dX10_digest_116 : decode cX10_digest 116 = .ok (.aload_n 0, 1) := by decide +kernel
theorem dX10_digest_117 : decode cX10_digest 117 = .ok (.lload_n 1, 1) := by decide +kernel
theorem dX10_digest_118 : decode cX10_digest 118 = .ok (.iload_n 3, 1) := by decide +kernel
theorem dX10_digest_119 : decode cX10_digest 119 = .ok (.invokevirtual 306, 3) := by decide +kernel
theorem dX10_digest_122 : decode cX10_digest 122 = .ok (.lstore_n 1, 1) := by decide +kernel
theorem dX10_digest_123 : decode cX10_digest 123 = .ok (.iinc 3 1, 3) := by decide +kernel
theorem dX10_digest_126 : decode cX10_digest 126 = .ok (.goto (-21), 3) := by decide +kernel
theorem dX10_digest_0 : decode cX10_digest 0 = .ok (.ldc2_w 273, 3) := by decide +kernel
theorem dX10_digest_3 : decode cX10_digest 3 = .ok (.lstore_n 1, 1) := by decide +kernel
theorem dX10_digest_4 : decode cX10_digest 4 = .ok (.lload_n 1, 1) := by decide +kernel
theorem dX10_digest_5 : decode cX10_digest 5 = .ok (.ldc2_w 275, 3) := by decide +kernel
theorem dX10_digest_8 : decode cX10_digest 8 = .ok (.lmul, 1) := by decide +kernel
theorem dX10_digest_9 : decode cX10_digest 9 = .ok (.aload_n 0, 1) := by decide +kernel
theorem dX10_digest_10 : decode cX10_digest 10 = .ok (.invokevirtual 277, 3) := by decide +kernel
theorem dX10_digest_13 : decode cX10_digest 13 = .ok (.i2l, 1) := by decide +kernel
theorem dX10_digest_14 : decode cX10_digest 14 = .ok (.ladd, 1) := by decide +kernel
theorem dX10_digest_15 : decode cX10_digest 15 = .ok (.lstore_n 1, 1) := by decide +kernel
theorem dX10_digest_16 : decode cX10_digest 16 = .ok (.lload_n 1, 1) := by decide +kernel
theorem dX10_digest_17 : decode cX10_digest 17 = .ok (.ldc2_w 275, 3) := by decide +kernel
theorem dX10_digest_20 : decode cX10_digest 20 = .ok (.lmul, 1) := by decide +kernel
theorem dX10_digest_21 : decode cX10_digest 21 = .ok (.aload_n 0, 1) := by decide +kernel
theorem dX10_digest_22 : decode cX10_digest 22 = .ok (.invokevirtual 280, 3) := by decide +kernel
theorem dX10_digest_25 : decode cX10_digest 25 = .ok (.invokestatic 284, 3) := by decide +kernel
theorem dX10_digest_28 : decode cX10_digest 28 = .ok (.i2l, 1) := by decide +kernel
theorem dX10_digest_29 : decode cX10_digest 29 = .ok (.ladd, 1) := by decide +kernel
theorem dX10_digest_30 : decode cX10_digest 30 = .ok (.lstore_n 1, 1) := by decide +kernel
theorem dX10_digest_31 : decode cX10_digest 31 = .ok (.lload_n 1, 1) := by decide +kernel
theorem dX10_digest_32 : decode cX10_digest 32 = .ok (.ldc2_w 275, 3) := by decide +kernel
theorem dX10_digest_35 : decode cX10_digest 35 = .ok (.lmul, 1) := by decide +kernel
theorem dX10_digest_36 : decode cX10_digest 36 = .ok (.aload_n 0, 1) := by decide +kernel
theorem dX10_digest_37 : decode cX10_digest 37 = .ok (.invokevirtual 288, 3) := by decide +kernel
theorem dX10_digest_40 : decode cX10_digest 40 = .ok (.i2l, 1) := by decide +kernel
theorem dX10_digest_41 : decode cX10_digest 41 = .ok (.ladd, 1) := by decide +kernel
theorem dX10_digest_42 : decode cX10_digest 42 = .ok (.lstore_n 1, 1) := by decide +kernel
theorem dX10_digest_43 : decode cX10_digest 43 = .ok (.lload_n 1, 1) := by decide +kernel
theorem dX10_digest_44 : decode cX10_digest 44 = .ok (.ldc2_w 275, 3) := by decide +kernel
theorem dX10_digest_47 : decode cX10_digest 47 = .ok (.lmul, 1) := by decide +kernel
theorem dX10_digest_48 : decode cX10_digest 48 = .ok (.aload_n 0, 1) := by decide +kernel
theorem dX10_digest_49 : decode cX10_digest 49 = .ok (.invokevirtual 291, 3) := by decide +kernel
theorem dX10_digest_52 : decode cX10_digest 52 = .ok (.i2l, 1) := by decide +kernel
theorem dX10_digest_53 : decode cX10_digest 53 = .ok (.ladd, 1) := by decide +kernel
theorem dX10_digest_54 : decode cX10_digest 54 = .ok (.lstore_n 1, 1) := by decide +kernel
theorem dX10_digest_55 : decode cX10_digest 55 = .ok (.lload_n 1, 1) := by decide +kernel
theorem dX10_digest_56 : decode cX10_digest 56 = .ok (.ldc2_w 275, 3) := by decide +kernel
theorem dX10_digest_59 : decode cX10_digest 59 = .ok (.lmul, 1) := by decide +kernel
theorem dX10_digest_60 : decode cX10_digest 60 = .ok (.aload_n 0, 1) := by decide +kernel
theorem dX10_digest_61 : decode cX10_digest 61 = .ok (.invokevirtual 294, 3) := by decide +kernel
theorem dX10_digest_64 : decode cX10_digest 64 = .ok (.i2l, 1) := by decide +kernel
theorem dX10_digest_65 : decode cX10_digest 65 = .ok (.ladd, 1) := by decide +kernel
theorem dX10_digest_66 : decode cX10_digest 66 = .ok (.lstore_n 1, 1) := by decide +kernel
theorem dX10_digest_67 : decode cX10_digest 67 = .ok (.lload_n 1, 1) := by decide +kernel
theorem dX10_digest_68 : decode cX10_digest 68 = .ok (.ldc2_w 275, 3) := by decide +kernel
theorem dX10_digest_71 : decode cX10_digest 71 = .ok (.lmul, 1) := by decide +kernel
theorem dX10_digest_72 : decode cX10_digest 72 = .ok (.aload_n 0, 1) := by decide +kernel
theorem dX10_digest_73 : decode cX10_digest 73 = .ok (.invokevirtual 297, 3) := by decide +kernel
theorem dX10_digest_76 : decode cX10_digest 76 = .ok (.i2l, 1) := by decide +kernel
theorem dX10_digest_77 : decode cX10_digest 77 = .ok (.ladd, 1) := by decide +kernel
theorem dX10_digest_78 : decode cX10_digest 78 = .ok (.lstore_n 1, 1) := by decide +kernel
theorem dX10_digest_79 : decode cX10_digest 79 = .ok (.lload_n 1, 1) := by decide +kernel
theorem dX10_digest_80 : decode cX10_digest 80 = .ok (.ldc2_w 275, 3) := by decide +kernel
theorem dX10_digest_83 : decode cX10_digest 83 = .ok (.lmul, 1) := by decide +kernel
theorem dX10_digest_84 : decode cX10_digest 84 = .ok (.aload_n 0, 1) := by decide +kernel
theorem dX10_digest_85 : decode cX10_digest 85 = .ok (.invokevirtual 300, 3) := by decide +kernel
theorem dX10_digest_88 : decode cX10_digest 88 = .ok (.i2l, 1) := by decide +kernel
theorem dX10_digest_89 : decode cX10_digest 89 = .ok (.ladd, 1) := by decide +kernel
theorem dX10_digest_90 : decode cX10_digest 90 = .ok (.lstore_n 1, 1) := by decide +kernel
theorem dX10_digest_91 : decode cX10_digest 91 = .ok (.lload_n 1, 1) := by decide +kernel
theorem dX10_digest_92 : decode cX10_digest 92 = .ok (.ldc2_w 275, 3) := by decide +kernel
theorem dX10_digest_95 : decode cX10_digest 95 = .ok (.lmul, 1) := by decide +kernel
theorem dX10_digest_96 : decode cX10_digest 96 = .ok (.aload_n 0, 1) := by decide +kernel
theorem dX10_digest_97 : decode cX10_digest 97 = .ok (.invokevirtual 303, 3) := by decide +kernel
theorem dX10_digest_100 : decode cX10_digest 100 = .ok (.i2l, 1) := by decide +kernel
theorem dX10_digest_101 : decode cX10_digest 101 = .ok (.ladd, 1) := by decide +kernel
theorem dX10_digest_102 : decode cX10_digest 102 = .ok (.lstore_n 1, 1) := by decide +kernel
theorem dX10_digest_103 : decode cX10_digest 103 = .ok (.iconst 0, 1) := by decide +kernel
theorem dX10_digest_104 : decode cX10_digest 104 = .ok (.istore_n 3, 1) := by decide +kernel
