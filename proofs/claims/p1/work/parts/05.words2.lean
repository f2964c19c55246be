theorem wq0 : (Jvm.Cond.initialized "WeirStreamLaw") ∈ lw_all := lw_in (lw_tb (List.mem_of_getElem? (i := 0) (by decide +kernel))) rfl
theorem wq1 : (Jvm.Cond.initialized "WeirStream") ∈ lw_all := lw_in (lw_tb (List.mem_of_getElem? (i := 1) (by decide +kernel))) rfl
theorem wq6 : (Jvm.Cond.initialized "WeirStreamModel") ∈ lw_all := lw_in (lw_tb (List.mem_of_getElem? (i := 6) (by decide +kernel))) rfl
theorem wq10 : (Jvm.Cond.initialized "java/lang/Throwable") ∈ lw_all := lw_in (lw_tb (List.mem_of_getElem? (i := 10) (by decide +kernel))) rfl
theorem wq13 : (Jvm.Cond.initialized "java/lang/IllegalArgumentException") ∈ lw_all := lw_in (lw_tb (List.mem_of_getElem? (i := 13) (by decide +kernel))) rfl
theorem wq14 : (Jvm.Cond.initialized "java/lang/IllegalStateException") ∈ lw_all := lw_in (lw_tb (List.mem_of_getElem? (i := 14) (by decide +kernel))) rfl
theorem wq15 : (Jvm.Cond.initialized "WeirStream$Plan") ∈ lw_all := lw_in (lw_tb (List.mem_of_getElem? (i := 15) (by decide +kernel))) rfl
theorem wq18 : (Jvm.Cond.initialized "java/lang/Math") ∈ lw_all := lw_in (lw_tb (List.mem_of_getElem? (i := 18) (by decide +kernel))) rfl
theorem wq19 : (Jvm.Cond.initialized "WeirStream$Row") ∈ lw_all := lw_in (lw_tb (List.mem_of_getElem? (i := 19) (by decide +kernel))) rfl
theorem wq20 : (Jvm.Cond.initialized "WeirStream$Stage") ∈ lw_all := lw_in (lw_tb (List.mem_of_getElem? (i := 20) (by decide +kernel))) rfl
theorem wq24 : (Jvm.Cond.initialized "java/lang/System") ∈ lw_all := lw_in (lw_tb (List.mem_of_getElem? (i := 24) (by decide +kernel))) rfl
theorem wq25 : (Jvm.Cond.initialized "WeirStream$Outlet") ∈ lw_all := lw_in (lw_tb (List.mem_of_getElem? (i := 25) (by decide +kernel))) rfl
theorem wq26 : (Jvm.Cond.initialized "WeirStream$State") ∈ lw_all := lw_in (lw_tb (List.mem_of_getElem? (i := 26) (by decide +kernel))) rfl
theorem wq27 : (Jvm.Cond.initialized "WeirStream$Spans") ∈ lw_all := lw_in (lw_tb (List.mem_of_getElem? (i := 27) (by decide +kernel))) rfl
theorem wq28 : (Jvm.Cond.initialized "java/lang/IndexOutOfBoundsException") ∈ lw_all := lw_in (lw_tb (List.mem_of_getElem? (i := 28) (by decide +kernel))) rfl
theorem wq31 : (Jvm.Cond.classLink "WeirStreamLaw" (8 : Nat) "WeirStream") ∈ lw_all := lw_in (lw_tb (List.mem_of_getElem? (i := 31) (by decide +kernel))) rfl
theorem wq32 : (Jvm.Cond.instantiable "WeirStream" (5 : Nat)) ∈ lw_all := lw_in (lw_tb (List.mem_of_getElem? (i := 32) (by decide +kernel))) rfl
theorem wq33 : (Jvm.Cond.methodLink "WeirStreamLaw" (142 : Nat) ({ cls := "WeirStream", name := "<init>", desc := "()V" } : Jvm.MethodName)) ∈ lw_all := lw_in (lw_tb (List.mem_of_getElem? (i := 33) (by decide +kernel))) rfl
theorem wq34 : (Jvm.Cond.instanceMethod ({ cls := "WeirStream", name := "<init>", desc := "()V" } : Jvm.MethodName)) ∈ lw_all := lw_in (lw_tb (List.mem_of_getElem? (i := 34) (by decide +kernel))) rfl
theorem wq35 : (Jvm.Cond.code ({ cls := "WeirStream", name := "<init>", desc := "()V" } : Jvm.MethodName) prog_1_method_1_code (1 : Nat) (Option.none : Option Jvm.ClassFile.FieldType)) ∈ lw_all := lw_in (lw_tb (List.mem_of_getElem? (i := 35) (by decide +kernel))) rfl
theorem wq60 : (Jvm.Cond.fieldLink "java/util/ArrayList" (48 : Nat) "java/util/ArrayList" "size" "I") ∈ lw_all := lw_in (lw_tb (List.mem_of_getElem? (i := 60) (by decide +kernel))) rfl
theorem wq62 : (Jvm.Cond.fieldLink "java/util/ArrayList" (63 : Nat) "java/util/ArrayList" "modCount" "I") ∈ lw_all := lw_in (lw_tb (List.mem_of_getElem? (i := 62) (by decide +kernel))) rfl
theorem wq63 : (Jvm.Cond.sameField "java/util/ArrayList" "java/util/AbstractList" "modCount" "I") ∈ lw_all := lw_in (lw_tb (List.mem_of_getElem? (i := 63) (by decide +kernel))) rfl
theorem wq101 : (Jvm.Cond.fieldLink "WeirStream" (84 : Nat) "WeirStream" "hasStarted" "Z") ∈ lw_all := lw_in (lw_tb (List.mem_of_getElem? (i := 101) (by decide +kernel))) rfl
theorem wq102 : (Jvm.Cond.fieldLink "WeirStream" (151 : Nat) "WeirStream" "crashCount" "I") ∈ lw_all := lw_in (lw_tb (List.mem_of_getElem? (i := 102) (by decide +kernel))) rfl
theorem wq103 : (Jvm.Cond.fieldLink "WeirStream" (139 : Nat) "WeirStream" "workedCount" "I") ∈ lw_all := lw_in (lw_tb (List.mem_of_getElem? (i := 103) (by decide +kernel))) rfl
theorem wq115 : (Jvm.Cond.methodLink "WeirStreamLaw" (205 : Nat) ({ cls := "WeirStream", name := "stages", desc := "()I" } : Jvm.MethodName)) ∈ lw_all := lw_in (lw_tb (List.mem_of_getElem? (i := 115) (by decide +kernel))) rfl
theorem wq116 : (Jvm.Cond.instanceMethod ({ cls := "WeirStream", name := "stages", desc := "()I" } : Jvm.MethodName)) ∈ lw_all := lw_in (lw_tb (List.mem_of_getElem? (i := 116) (by decide +kernel))) rfl
theorem wq117 : (Jvm.Cond.selects "WeirStream" ({ cls := "WeirStream", name := "stages", desc := "()I" } : Jvm.MethodName) ({ cls := "WeirStream", name := "stages", desc := "()I" } : Jvm.MethodName)) ∈ lw_all := lw_in (lw_tb (List.mem_of_getElem? (i := 117) (by decide +kernel))) rfl
theorem wq118 : (Jvm.Cond.code ({ cls := "WeirStream", name := "stages", desc := "()I" } : Jvm.MethodName) prog_1_method_18_code (1 : Nat) (Option.some Jvm.ClassFile.FieldType.int)) ∈ lw_all := lw_in (lw_tb (List.mem_of_getElem? (i := 118) (by decide +kernel))) rfl
theorem wq119 : (Jvm.Cond.methodLink "WeirStream" (88 : Nat) ({ cls := "WeirStream$Flow", name := "size", desc := "()I" } : Jvm.MethodName)) ∈ lw_all := lw_in (lw_tb (List.mem_of_getElem? (i := 119) (by decide +kernel))) rfl
theorem wq120 : (Jvm.Cond.instanceMethod ({ cls := "WeirStream$Flow", name := "size", desc := "()I" } : Jvm.MethodName)) ∈ lw_all := lw_in (lw_tb (List.mem_of_getElem? (i := 120) (by decide +kernel))) rfl
theorem wq121 : (Jvm.Cond.selects "WeirStream$Flow" ({ cls := "WeirStream$Flow", name := "size", desc := "()I" } : Jvm.MethodName) ({ cls := "WeirStream$Flow", name := "size", desc := "()I" } : Jvm.MethodName)) ∈ lw_all := lw_in (lw_tb (List.mem_of_getElem? (i := 121) (by decide +kernel))) rfl
theorem wq122 : (Jvm.Cond.code ({ cls := "WeirStream$Flow", name := "size", desc := "()I" } : Jvm.MethodName) prog_4_method_2_code (1 : Nat) (Option.some Jvm.ClassFile.FieldType.int)) ∈ lw_all := lw_in (lw_tb (List.mem_of_getElem? (i := 122) (by decide +kernel))) rfl
theorem wq123 : (Jvm.Cond.methodLink "WeirStream$Flow" (29 : Nat) ({ cls := "java/util/ArrayList", name := "size", desc := "()I" } : Jvm.MethodName)) ∈ lw_all := lw_in (lw_tb (List.mem_of_getElem? (i := 123) (by decide +kernel))) rfl
theorem wq124 : (Jvm.Cond.instanceMethod ({ cls := "java/util/ArrayList", name := "size", desc := "()I" } : Jvm.MethodName)) ∈ lw_all := lw_in (lw_tb (List.mem_of_getElem? (i := 124) (by decide +kernel))) rfl
theorem wq125 : (Jvm.Cond.selects "java/util/ArrayList" ({ cls := "java/util/ArrayList", name := "size", desc := "()I" } : Jvm.MethodName) ({ cls := "java/util/ArrayList", name := "size", desc := "()I" } : Jvm.MethodName)) ∈ lw_all := lw_in (lw_tb (List.mem_of_getElem? (i := 125) (by decide +kernel))) rfl
theorem wq126 : (Jvm.Cond.code ({ cls := "java/util/ArrayList", name := "size", desc := "()I" } : Jvm.MethodName) prog_30_method_8_code (1 : Nat) (Option.some Jvm.ClassFile.FieldType.int)) ∈ lw_all := lw_in (lw_tb (List.mem_of_getElem? (i := 126) (by decide +kernel))) rfl
theorem wq127 : (Jvm.Cond.methodLink "WeirStreamLaw" (209 : Nat) ({ cls := "WeirStream", name := "isStarted", desc := "()Z" } : Jvm.MethodName)) ∈ lw_all := lw_in (lw_tb (List.mem_of_getElem? (i := 127) (by decide +kernel))) rfl
theorem wq128 : (Jvm.Cond.instanceMethod ({ cls := "WeirStream", name := "isStarted", desc := "()Z" } : Jvm.MethodName)) ∈ lw_all := lw_in (lw_tb (List.mem_of_getElem? (i := 128) (by decide +kernel))) rfl
theorem wq129 : (Jvm.Cond.selects "WeirStream" ({ cls := "WeirStream", name := "isStarted", desc := "()Z" } : Jvm.MethodName) ({ cls := "WeirStream", name := "isStarted", desc := "()Z" } : Jvm.MethodName)) ∈ lw_all := lw_in (lw_tb (List.mem_of_getElem? (i := 129) (by decide +kernel))) rfl
theorem wq130 : (Jvm.Cond.code ({ cls := "WeirStream", name := "isStarted", desc := "()Z" } : Jvm.MethodName) prog_1_method_19_code (1 : Nat) (Option.some Jvm.ClassFile.FieldType.boolean)) ∈ lw_all := lw_in (lw_tb (List.mem_of_getElem? (i := 130) (by decide +kernel))) rfl
theorem wq131 : (Jvm.Cond.methodLink "WeirStreamLaw" (272 : Nat) ({ cls := "WeirStream", name := "complete", desc := "()I" } : Jvm.MethodName)) ∈ lw_all := lw_in (lw_tb (List.mem_of_getElem? (i := 131) (by decide +kernel))) rfl
theorem wq132 : (Jvm.Cond.instanceMethod ({ cls := "WeirStream", name := "complete", desc := "()I" } : Jvm.MethodName)) ∈ lw_all := lw_in (lw_tb (List.mem_of_getElem? (i := 132) (by decide +kernel))) rfl
theorem wq133 : (Jvm.Cond.selects "WeirStream" ({ cls := "WeirStream", name := "complete", desc := "()I" } : Jvm.MethodName) ({ cls := "WeirStream", name := "complete", desc := "()I" } : Jvm.MethodName)) ∈ lw_all := lw_in (lw_tb (List.mem_of_getElem? (i := 133) (by decide +kernel))) rfl
theorem wq134 : (Jvm.Cond.code ({ cls := "WeirStream", name := "complete", desc := "()I" } : Jvm.MethodName) prog_1_method_39_code (1 : Nat) (Option.some Jvm.ClassFile.FieldType.int)) ∈ lw_all := lw_in (lw_tb (List.mem_of_getElem? (i := 134) (by decide +kernel))) rfl
theorem wq135 : (Jvm.Cond.methodLink "WeirStreamLaw" (276 : Nat) ({ cls := "WeirStream", name := "begun", desc := "()I" } : Jvm.MethodName)) ∈ lw_all := lw_in (lw_tb (List.mem_of_getElem? (i := 135) (by decide +kernel))) rfl
theorem wq136 : (Jvm.Cond.instanceMethod ({ cls := "WeirStream", name := "begun", desc := "()I" } : Jvm.MethodName)) ∈ lw_all := lw_in (lw_tb (List.mem_of_getElem? (i := 136) (by decide +kernel))) rfl
theorem wq137 : (Jvm.Cond.selects "WeirStream" ({ cls := "WeirStream", name := "begun", desc := "()I" } : Jvm.MethodName) ({ cls := "WeirStream", name := "begun", desc := "()I" } : Jvm.MethodName)) ∈ lw_all := lw_in (lw_tb (List.mem_of_getElem? (i := 137) (by decide +kernel))) rfl
theorem wq138 : (Jvm.Cond.code ({ cls := "WeirStream", name := "begun", desc := "()I" } : Jvm.MethodName) prog_1_method_40_code (1 : Nat) (Option.some Jvm.ClassFile.FieldType.int)) ∈ lw_all := lw_in (lw_tb (List.mem_of_getElem? (i := 138) (by decide +kernel))) rfl
theorem wq139 : (Jvm.Cond.methodLink "WeirStreamLaw" (280 : Nat) ({ cls := "WeirStream", name := "crashes", desc := "()I" } : Jvm.MethodName)) ∈ lw_all := lw_in (lw_tb (List.mem_of_getElem? (i := 139) (by decide +kernel))) rfl
theorem wq140 : (Jvm.Cond.instanceMethod ({ cls := "WeirStream", name := "crashes", desc := "()I" } : Jvm.MethodName)) ∈ lw_all := lw_in (lw_tb (List.mem_of_getElem? (i := 140) (by decide +kernel))) rfl
theorem wq141 : (Jvm.Cond.selects "WeirStream" ({ cls := "WeirStream", name := "crashes", desc := "()I" } : Jvm.MethodName) ({ cls := "WeirStream", name := "crashes", desc := "()I" } : Jvm.MethodName)) ∈ lw_all := lw_in (lw_tb (List.mem_of_getElem? (i := 141) (by decide +kernel))) rfl
theorem wq142 : (Jvm.Cond.code ({ cls := "WeirStream", name := "crashes", desc := "()I" } : Jvm.MethodName) prog_1_method_41_code (1 : Nat) (Option.some Jvm.ClassFile.FieldType.int)) ∈ lw_all := lw_in (lw_tb (List.mem_of_getElem? (i := 142) (by decide +kernel))) rfl
theorem wq143 : (Jvm.Cond.methodLink "WeirStreamLaw" (284 : Nat) ({ cls := "WeirStream", name := "worked", desc := "()I" } : Jvm.MethodName)) ∈ lw_all := lw_in (lw_tb (List.mem_of_getElem? (i := 143) (by decide +kernel))) rfl
theorem wq144 : (Jvm.Cond.instanceMethod ({ cls := "WeirStream", name := "worked", desc := "()I" } : Jvm.MethodName)) ∈ lw_all := lw_in (lw_tb (List.mem_of_getElem? (i := 144) (by decide +kernel))) rfl
theorem wq145 : (Jvm.Cond.selects "WeirStream" ({ cls := "WeirStream", name := "worked", desc := "()I" } : Jvm.MethodName) ({ cls := "WeirStream", name := "worked", desc := "()I" } : Jvm.MethodName)) ∈ lw_all := lw_in (lw_tb (List.mem_of_getElem? (i := 145) (by decide +kernel))) rfl
theorem wq146 : (Jvm.Cond.code ({ cls := "WeirStream", name := "worked", desc := "()I" } : Jvm.MethodName) prog_1_method_42_code (1 : Nat) (Option.some Jvm.ClassFile.FieldType.int)) ∈ lw_all := lw_in (lw_tb (List.mem_of_getElem? (i := 146) (by decide +kernel))) rfl
theorem wq147 : (Jvm.Cond.methodLink "WeirStreamLaw" (288 : Nat) ({ cls := "WeirStream", name := "inFlight", desc := "()I" } : Jvm.MethodName)) ∈ lw_all := lw_in (lw_tb (List.mem_of_getElem? (i := 147) (by decide +kernel))) rfl
theorem wq148 : (Jvm.Cond.instanceMethod ({ cls := "WeirStream", name := "inFlight", desc := "()I" } : Jvm.MethodName)) ∈ lw_all := lw_in (lw_tb (List.mem_of_getElem? (i := 148) (by decide +kernel))) rfl
theorem wq149 : (Jvm.Cond.selects "WeirStream" ({ cls := "WeirStream", name := "inFlight", desc := "()I" } : Jvm.MethodName) ({ cls := "WeirStream", name := "inFlight", desc := "()I" } : Jvm.MethodName)) ∈ lw_all := lw_in (lw_tb (List.mem_of_getElem? (i := 149) (by decide +kernel))) rfl
theorem wq150 : (Jvm.Cond.code ({ cls := "WeirStream", name := "inFlight", desc := "()I" } : Jvm.MethodName) prog_1_method_43_code (1 : Nat) (Option.some Jvm.ClassFile.FieldType.int)) ∈ lw_all := lw_in (lw_tb (List.mem_of_getElem? (i := 150) (by decide +kernel))) rfl
theorem wq151 : (Jvm.Cond.methodLink "WeirStream" (260 : Nat) ({ cls := "WeirStream$Flow", name := "waiting", desc := "()I" } : Jvm.MethodName)) ∈ lw_all := lw_in (lw_tb (List.mem_of_getElem? (i := 151) (by decide +kernel))) rfl
theorem wq152 : (Jvm.Cond.instanceMethod ({ cls := "WeirStream$Flow", name := "waiting", desc := "()I" } : Jvm.MethodName)) ∈ lw_all := lw_in (lw_tb (List.mem_of_getElem? (i := 152) (by decide +kernel))) rfl
theorem wq153 : (Jvm.Cond.selects "WeirStream$Flow" ({ cls := "WeirStream$Flow", name := "waiting", desc := "()I" } : Jvm.MethodName) ({ cls := "WeirStream$Flow", name := "waiting", desc := "()I" } : Jvm.MethodName)) ∈ lw_all := lw_in (lw_tb (List.mem_of_getElem? (i := 153) (by decide +kernel))) rfl
theorem wq154 : (Jvm.Cond.code ({ cls := "WeirStream$Flow", name := "waiting", desc := "()I" } : Jvm.MethodName) prog_4_method_7_code (4 : Nat) (Option.some Jvm.ClassFile.FieldType.int)) ∈ lw_all := lw_in (lw_tb (List.mem_of_getElem? (i := 154) (by decide +kernel))) rfl
theorem wq169 : (Jvm.Cond.classLink "WeirStream$Flow" (37 : Nat) "WeirStream$Stage") ∈ lw_all := lw_in (lw_tb (List.mem_of_getElem? (i := 169) (by decide +kernel))) rfl
theorem wq178 : (Jvm.Cond.methodLink "WeirStreamLaw" (292 : Nat) ({ cls := "WeirStream", name := "next", desc := "()I" } : Jvm.MethodName)) ∈ lw_all := lw_in (lw_tb (List.mem_of_getElem? (i := 178) (by decide +kernel))) rfl
theorem wq179 : (Jvm.Cond.instanceMethod ({ cls := "WeirStream", name := "next", desc := "()I" } : Jvm.MethodName)) ∈ lw_all := lw_in (lw_tb (List.mem_of_getElem? (i := 179) (by decide +kernel))) rfl
theorem wq180 : (Jvm.Cond.selects "WeirStream" ({ cls := "WeirStream", name := "next", desc := "()I" } : Jvm.MethodName) ({ cls := "WeirStream", name := "next", desc := "()I" } : Jvm.MethodName)) ∈ lw_all := lw_in (lw_tb (List.mem_of_getElem? (i := 180) (by decide +kernel))) rfl
theorem wq181 : (Jvm.Cond.code ({ cls := "WeirStream", name := "next", desc := "()I" } : Jvm.MethodName) prog_1_method_44_code (1 : Nat) (Option.some Jvm.ClassFile.FieldType.int)) ∈ lw_all := lw_in (lw_tb (List.mem_of_getElem? (i := 181) (by decide +kernel))) rfl
theorem wq182 : (Jvm.Cond.methodLink "WeirStream" (133 : Nat) ({ cls := "WeirStream$Flow", name := "nextToWork", desc := "()I" } : Jvm.MethodName)) ∈ lw_all := lw_in (lw_tb (List.mem_of_getElem? (i := 182) (by decide +kernel))) rfl
theorem wq183 : (Jvm.Cond.instanceMethod ({ cls := "WeirStream$Flow", name := "nextToWork", desc := "()I" } : Jvm.MethodName)) ∈ lw_all := lw_in (lw_tb (List.mem_of_getElem? (i := 183) (by decide +kernel))) rfl
theorem wq184 : (Jvm.Cond.selects "WeirStream$Flow" ({ cls := "WeirStream$Flow", name := "nextToWork", desc := "()I" } : Jvm.MethodName) ({ cls := "WeirStream$Flow", name := "nextToWork", desc := "()I" } : Jvm.MethodName)) ∈ lw_all := lw_in (lw_tb (List.mem_of_getElem? (i := 184) (by decide +kernel))) rfl
theorem wq185 : (Jvm.Cond.code ({ cls := "WeirStream$Flow", name := "nextToWork", desc := "()I" } : Jvm.MethodName) prog_4_method_8_code (5 : Nat) (Option.some Jvm.ClassFile.FieldType.int)) ∈ lw_all := lw_in (lw_tb (List.mem_of_getElem? (i := 185) (by decide +kernel))) rfl
theorem wq186 : (Jvm.Cond.methodLink "WeirStream$Flow" (58 : Nat) ({ cls := "WeirStream$Flow", name := "at", desc := "(I)LWeirStream$Stage;" } : Jvm.MethodName)) ∈ lw_all := lw_in (lw_tb (List.mem_of_getElem? (i := 186) (by decide +kernel))) rfl
theorem wq187 : (Jvm.Cond.instanceMethod ({ cls := "WeirStream$Flow", name := "at", desc := "(I)LWeirStream$Stage;" } : Jvm.MethodName)) ∈ lw_all := lw_in (lw_tb (List.mem_of_getElem? (i := 187) (by decide +kernel))) rfl
theorem wq188 : (Jvm.Cond.selects "WeirStream$Flow" ({ cls := "WeirStream$Flow", name := "at", desc := "(I)LWeirStream$Stage;" } : Jvm.MethodName) ({ cls := "WeirStream$Flow", name := "at", desc := "(I)LWeirStream$Stage;" } : Jvm.MethodName)) ∈ lw_all := lw_in (lw_tb (List.mem_of_getElem? (i := 188) (by decide +kernel))) rfl
theorem wq189 : (Jvm.Cond.code ({ cls := "WeirStream$Flow", name := "at", desc := "(I)LWeirStream$Stage;" } : Jvm.MethodName) prog_4_method_3_code (2 : Nat) (Option.some (Jvm.ClassFile.FieldType.object "WeirStream$Stage"))) ∈ lw_all := lw_in (lw_tb (List.mem_of_getElem? (i := 189) (by decide +kernel))) rfl
theorem wq202 : (Jvm.Cond.instantiable "WeirStream$Outlet" (2 : Nat)) ∈ lw_all := lw_in (lw_tb (List.mem_of_getElem? (i := 202) (by decide +kernel))) rfl
theorem wq221 : (Jvm.Cond.methodLink "WeirStreamLaw" (296 : Nat) ({ cls := "WeirStream", name := "meanQueue", desc := "()D" } : Jvm.MethodName)) ∈ lw_all := lw_in (lw_tb (List.mem_of_getElem? (i := 221) (by decide +kernel))) rfl
theorem wq222 : (Jvm.Cond.instanceMethod ({ cls := "WeirStream", name := "meanQueue", desc := "()D" } : Jvm.MethodName)) ∈ lw_all := lw_in (lw_tb (List.mem_of_getElem? (i := 222) (by decide +kernel))) rfl
theorem wq223 : (Jvm.Cond.selects "WeirStream" ({ cls := "WeirStream", name := "meanQueue", desc := "()D" } : Jvm.MethodName) ({ cls := "WeirStream", name := "meanQueue", desc := "()D" } : Jvm.MethodName)) ∈ lw_all := lw_in (lw_tb (List.mem_of_getElem? (i := 223) (by decide +kernel))) rfl
theorem wq224 : (Jvm.Cond.code ({ cls := "WeirStream", name := "meanQueue", desc := "()D" } : Jvm.MethodName) prog_1_method_45_code (2 : Nat) (Option.some Jvm.ClassFile.FieldType.double)) ∈ lw_all := lw_in (lw_tb (List.mem_of_getElem? (i := 224) (by decide +kernel))) rfl
theorem wq225 : (Jvm.Cond.methodLink "WeirStream" (263 : Nat) ({ cls := "WeirStream$Flow", name := "channels", desc := "()I" } : Jvm.MethodName)) ∈ lw_all := lw_in (lw_tb (List.mem_of_getElem? (i := 225) (by decide +kernel))) rfl
theorem wq226 : (Jvm.Cond.instanceMethod ({ cls := "WeirStream$Flow", name := "channels", desc := "()I" } : Jvm.MethodName)) ∈ lw_all := lw_in (lw_tb (List.mem_of_getElem? (i := 226) (by decide +kernel))) rfl
theorem wq227 : (Jvm.Cond.selects "WeirStream$Flow" ({ cls := "WeirStream$Flow", name := "channels", desc := "()I" } : Jvm.MethodName) ({ cls := "WeirStream$Flow", name := "channels", desc := "()I" } : Jvm.MethodName)) ∈ lw_all := lw_in (lw_tb (List.mem_of_getElem? (i := 227) (by decide +kernel))) rfl
theorem wq228 : (Jvm.Cond.code ({ cls := "WeirStream$Flow", name := "channels", desc := "()I" } : Jvm.MethodName) prog_4_method_6_code (3 : Nat) (Option.some Jvm.ClassFile.FieldType.int)) ∈ lw_all := lw_in (lw_tb (List.mem_of_getElem? (i := 228) (by decide +kernel))) rfl
theorem wq229 : (Jvm.Cond.methodLink "WeirStreamLaw" (313 : Nat) ({ cls := "WeirStream", name := "digest", desc := "()J" } : Jvm.MethodName)) ∈ lw_all := lw_in (lw_tb (List.mem_of_getElem? (i := 229) (by decide +kernel))) rfl
theorem wq230 : (Jvm.Cond.instanceMethod ({ cls := "WeirStream", name := "digest", desc := "()J" } : Jvm.MethodName)) ∈ lw_all := lw_in (lw_tb (List.mem_of_getElem? (i := 230) (by decide +kernel))) rfl
theorem wq231 : (Jvm.Cond.selects "WeirStream" ({ cls := "WeirStream", name := "digest", desc := "()J" } : Jvm.MethodName) ({ cls := "WeirStream", name := "digest", desc := "()J" } : Jvm.MethodName)) ∈ lw_all := lw_in (lw_tb (List.mem_of_getElem? (i := 231) (by decide +kernel))) rfl
theorem wq232 : (Jvm.Cond.code ({ cls := "WeirStream", name := "digest", desc := "()J" } : Jvm.MethodName) prog_1_method_50_code (4 : Nat) (Option.some Jvm.ClassFile.FieldType.long)) ∈ lw_all := lw_in (lw_tb (List.mem_of_getElem? (i := 232) (by decide +kernel))) rfl
theorem wq233 : (Jvm.Cond.constantLong "WeirStream" (273 : Nat) (58014 : Int64)) ∈ lw_all := lw_in (lw_tb (List.mem_of_getElem? (i := 233) (by decide +kernel))) rfl
theorem wq234 : (Jvm.Cond.constantLong "WeirStream" (275 : Nat) (31 : Int64)) ∈ lw_all := lw_in (lw_tb (List.mem_of_getElem? (i := 234) (by decide +kernel))) rfl
theorem wq235 : (Jvm.Cond.methodLink "WeirStream" (277 : Nat) ({ cls := "WeirStream", name := "stages", desc := "()I" } : Jvm.MethodName)) ∈ lw_all := lw_in (lw_tb (List.mem_of_getElem? (i := 235) (by decide +kernel))) rfl
theorem wq236 : (Jvm.Cond.methodLink "WeirStream" (280 : Nat) ({ cls := "WeirStream", name := "isStarted", desc := "()Z" } : Jvm.MethodName)) ∈ lw_all := lw_in (lw_tb (List.mem_of_getElem? (i := 236) (by decide +kernel))) rfl
theorem wq237 : (Jvm.Cond.methodLink "WeirStream" (284 : Nat) ({ cls := "WeirStream", name := "bit", desc := "(Z)I" } : Jvm.MethodName)) ∈ lw_all := lw_in (lw_tb (List.mem_of_getElem? (i := 237) (by decide +kernel))) rfl
theorem wq238 : (Jvm.Cond.static ({ cls := "WeirStream", name := "bit", desc := "(Z)I" } : Jvm.MethodName)) ∈ lw_all := lw_in (lw_tb (List.mem_of_getElem? (i := 238) (by decide +kernel))) rfl
theorem wq239 : (Jvm.Cond.code ({ cls := "WeirStream", name := "bit", desc := "(Z)I" } : Jvm.MethodName) prog_1_method_53_code (1 : Nat) (Option.some Jvm.ClassFile.FieldType.int)) ∈ lw_all := lw_in (lw_tb (List.mem_of_getElem? (i := 239) (by decide +kernel))) rfl
theorem wq240 : (Jvm.Cond.methodLink "WeirStream" (288 : Nat) ({ cls := "WeirStream", name := "complete", desc := "()I" } : Jvm.MethodName)) ∈ lw_all := lw_in (lw_tb (List.mem_of_getElem? (i := 240) (by decide +kernel))) rfl
theorem wq241 : (Jvm.Cond.methodLink "WeirStream" (291 : Nat) ({ cls := "WeirStream", name := "begun", desc := "()I" } : Jvm.MethodName)) ∈ lw_all := lw_in (lw_tb (List.mem_of_getElem? (i := 241) (by decide +kernel))) rfl
theorem wq242 : (Jvm.Cond.methodLink "WeirStream" (294 : Nat) ({ cls := "WeirStream", name := "crashes", desc := "()I" } : Jvm.MethodName)) ∈ lw_all := lw_in (lw_tb (List.mem_of_getElem? (i := 242) (by decide +kernel))) rfl
theorem wq243 : (Jvm.Cond.methodLink "WeirStream" (297 : Nat) ({ cls := "WeirStream", name := "worked", desc := "()I" } : Jvm.MethodName)) ∈ lw_all := lw_in (lw_tb (List.mem_of_getElem? (i := 243) (by decide +kernel))) rfl
theorem wq244 : (Jvm.Cond.methodLink "WeirStream" (300 : Nat) ({ cls := "WeirStream", name := "inFlight", desc := "()I" } : Jvm.MethodName)) ∈ lw_all := lw_in (lw_tb (List.mem_of_getElem? (i := 244) (by decide +kernel))) rfl
theorem wq245 : (Jvm.Cond.methodLink "WeirStream" (303 : Nat) ({ cls := "WeirStream", name := "next", desc := "()I" } : Jvm.MethodName)) ∈ lw_all := lw_in (lw_tb (List.mem_of_getElem? (i := 245) (by decide +kernel))) rfl
theorem wq251 : (Jvm.Cond.instanceMethod ({ cls := "WeirStream", name := "sortOf", desc := "(I)I" } : Jvm.MethodName)) ∈ lw_all := lw_in (lw_tb (List.mem_of_getElem? (i := 251) (by decide +kernel))) rfl
theorem wq252 : (Jvm.Cond.selects "WeirStream" ({ cls := "WeirStream", name := "sortOf", desc := "(I)I" } : Jvm.MethodName) ({ cls := "WeirStream", name := "sortOf", desc := "(I)I" } : Jvm.MethodName)) ∈ lw_all := lw_in (lw_tb (List.mem_of_getElem? (i := 252) (by decide +kernel))) rfl
theorem wq253 : (Jvm.Cond.code ({ cls := "WeirStream", name := "sortOf", desc := "(I)I" } : Jvm.MethodName) prog_1_method_20_code (2 : Nat) (Option.some Jvm.ClassFile.FieldType.int)) ∈ lw_all := lw_in (lw_tb (List.mem_of_getElem? (i := 253) (by decide +kernel))) rfl
theorem wq254 : (Jvm.Cond.methodLink "WeirStream" (44 : Nat) ({ cls := "WeirStream", name := "stageOf", desc := "(I)LWeirStream$Stage;" } : Jvm.MethodName)) ∈ lw_all := lw_in (lw_tb (List.mem_of_getElem? (i := 254) (by decide +kernel))) rfl
theorem wq256 : (Jvm.Cond.instanceMethod ({ cls := "WeirStream", name := "stageOf", desc := "(I)LWeirStream$Stage;" } : Jvm.MethodName)) ∈ lw_all := lw_in (lw_tb (List.mem_of_getElem? (i := 256) (by decide +kernel))) rfl
theorem wq257 : (Jvm.Cond.code ({ cls := "WeirStream", name := "stageOf", desc := "(I)LWeirStream$Stage;" } : Jvm.MethodName) prog_1_method_59_code (3 : Nat) (Option.some (Jvm.ClassFile.FieldType.object "WeirStream$Stage"))) ∈ lw_all := lw_in (lw_tb (List.mem_of_getElem? (i := 257) (by decide +kernel))) rfl
theorem wq258 : (Jvm.Cond.methodLink "WeirStream" (270 : Nat) ({ cls := "WeirStream$Flow", name := "at", desc := "(I)LWeirStream$Stage;" } : Jvm.MethodName)) ∈ lw_all := lw_in (lw_tb (List.mem_of_getElem? (i := 258) (by decide +kernel))) rfl
theorem wq259 : (Jvm.Cond.classLink "WeirStream" (357 : Nat) "java/lang/IndexOutOfBoundsException") ∈ lw_all := lw_in (lw_tb (List.mem_of_getElem? (i := 259) (by decide +kernel))) rfl
theorem wq323 : (Jvm.Cond.instanceMethod ({ cls := "WeirStream", name := "markOf", desc := "(I)I" } : Jvm.MethodName)) ∈ lw_all := lw_in (lw_tb (List.mem_of_getElem? (i := 323) (by decide +kernel))) rfl
theorem wq324 : (Jvm.Cond.selects "WeirStream" ({ cls := "WeirStream", name := "markOf", desc := "(I)I" } : Jvm.MethodName) ({ cls := "WeirStream", name := "markOf", desc := "(I)I" } : Jvm.MethodName)) ∈ lw_all := lw_in (lw_tb (List.mem_of_getElem? (i := 324) (by decide +kernel))) rfl
theorem wq325 : (Jvm.Cond.code ({ cls := "WeirStream", name := "markOf", desc := "(I)I" } : Jvm.MethodName) prog_1_method_21_code (2 : Nat) (Option.some Jvm.ClassFile.FieldType.int)) ∈ lw_all := lw_in (lw_tb (List.mem_of_getElem? (i := 325) (by decide +kernel))) rfl
theorem wq327 : (Jvm.Cond.instanceMethod ({ cls := "WeirStream", name := "taken", desc := "(I)I" } : Jvm.MethodName)) ∈ lw_all := lw_in (lw_tb (List.mem_of_getElem? (i := 327) (by decide +kernel))) rfl
theorem wq328 : (Jvm.Cond.selects "WeirStream" ({ cls := "WeirStream", name := "taken", desc := "(I)I" } : Jvm.MethodName) ({ cls := "WeirStream", name := "taken", desc := "(I)I" } : Jvm.MethodName)) ∈ lw_all := lw_in (lw_tb (List.mem_of_getElem? (i := 328) (by decide +kernel))) rfl
theorem wq329 : (Jvm.Cond.code ({ cls := "WeirStream", name := "taken", desc := "(I)I" } : Jvm.MethodName) prog_1_method_22_code (2 : Nat) (Option.some Jvm.ClassFile.FieldType.int)) ∈ lw_all := lw_in (lw_tb (List.mem_of_getElem? (i := 329) (by decide +kernel))) rfl
theorem wq331 : (Jvm.Cond.instanceMethod ({ cls := "WeirStream", name := "emitted", desc := "(I)I" } : Jvm.MethodName)) ∈ lw_all := lw_in (lw_tb (List.mem_of_getElem? (i := 331) (by decide +kernel))) rfl
theorem wq332 : (Jvm.Cond.selects "WeirStream" ({ cls := "WeirStream", name := "emitted", desc := "(I)I" } : Jvm.MethodName) ({ cls := "WeirStream", name := "emitted", desc := "(I)I" } : Jvm.MethodName)) ∈ lw_all := lw_in (lw_tb (List.mem_of_getElem? (i := 332) (by decide +kernel))) rfl
theorem wq333 : (Jvm.Cond.code ({ cls := "WeirStream", name := "emitted", desc := "(I)I" } : Jvm.MethodName) prog_1_method_23_code (2 : Nat) (Option.some Jvm.ClassFile.FieldType.int)) ∈ lw_all := lw_in (lw_tb (List.mem_of_getElem? (i := 333) (by decide +kernel))) rfl
theorem wq335 : (Jvm.Cond.instanceMethod ({ cls := "WeirStream", name := "late", desc := "(I)I" } : Jvm.MethodName)) ∈ lw_all := lw_in (lw_tb (List.mem_of_getElem? (i := 335) (by decide +kernel))) rfl
theorem wq336 : (Jvm.Cond.selects "WeirStream" ({ cls := "WeirStream", name := "late", desc := "(I)I" } : Jvm.MethodName) ({ cls := "WeirStream", name := "late", desc := "(I)I" } : Jvm.MethodName)) ∈ lw_all := lw_in (lw_tb (List.mem_of_getElem? (i := 336) (by decide +kernel))) rfl
theorem wq337 : (Jvm.Cond.code ({ cls := "WeirStream", name := "late", desc := "(I)I" } : Jvm.MethodName) prog_1_method_24_code (2 : Nat) (Option.some Jvm.ClassFile.FieldType.int)) ∈ lw_all := lw_in (lw_tb (List.mem_of_getElem? (i := 337) (by decide +kernel))) rfl
theorem wq339 : (Jvm.Cond.instanceMethod ({ cls := "WeirStream", name := "kept", desc := "(I)I" } : Jvm.MethodName)) ∈ lw_all := lw_in (lw_tb (List.mem_of_getElem? (i := 339) (by decide +kernel))) rfl
theorem wq340 : (Jvm.Cond.selects "WeirStream" ({ cls := "WeirStream", name := "kept", desc := "(I)I" } : Jvm.MethodName) ({ cls := "WeirStream", name := "kept", desc := "(I)I" } : Jvm.MethodName)) ∈ lw_all := lw_in (lw_tb (List.mem_of_getElem? (i := 340) (by decide +kernel))) rfl
theorem wq341 : (Jvm.Cond.code ({ cls := "WeirStream", name := "kept", desc := "(I)I" } : Jvm.MethodName) prog_1_method_25_code (3 : Nat) (Option.some Jvm.ClassFile.FieldType.int)) ∈ lw_all := lw_in (lw_tb (List.mem_of_getElem? (i := 341) (by decide +kernel))) rfl
theorem wq354 : (Jvm.Cond.instanceMethod ({ cls := "WeirStream", name := "isReady", desc := "(I)Z" } : Jvm.MethodName)) ∈ lw_all := lw_in (lw_tb (List.mem_of_getElem? (i := 354) (by decide +kernel))) rfl
theorem wq355 : (Jvm.Cond.selects "WeirStream" ({ cls := "WeirStream", name := "isReady", desc := "(I)Z" } : Jvm.MethodName) ({ cls := "WeirStream", name := "isReady", desc := "(I)Z" } : Jvm.MethodName)) ∈ lw_all := lw_in (lw_tb (List.mem_of_getElem? (i := 355) (by decide +kernel))) rfl
theorem wq356 : (Jvm.Cond.code ({ cls := "WeirStream", name := "isReady", desc := "(I)Z" } : Jvm.MethodName) prog_1_method_26_code (2 : Nat) (Option.some Jvm.ClassFile.FieldType.boolean)) ∈ lw_all := lw_in (lw_tb (List.mem_of_getElem? (i := 356) (by decide +kernel))) rfl
theorem wq359 : (Jvm.Cond.instanceMethod ({ cls := "WeirStream", name := "hasRoom", desc := "(I)Z" } : Jvm.MethodName)) ∈ lw_all := lw_in (lw_tb (List.mem_of_getElem? (i := 359) (by decide +kernel))) rfl
theorem wq360 : (Jvm.Cond.selects "WeirStream" ({ cls := "WeirStream", name := "hasRoom", desc := "(I)Z" } : Jvm.MethodName) ({ cls := "WeirStream", name := "hasRoom", desc := "(I)Z" } : Jvm.MethodName)) ∈ lw_all := lw_in (lw_tb (List.mem_of_getElem? (i := 360) (by decide +kernel))) rfl
theorem wq361 : (Jvm.Cond.code ({ cls := "WeirStream", name := "hasRoom", desc := "(I)Z" } : Jvm.MethodName) prog_1_method_27_code (2 : Nat) (Option.some Jvm.ClassFile.FieldType.boolean)) ∈ lw_all := lw_in (lw_tb (List.mem_of_getElem? (i := 361) (by decide +kernel))) rfl
theorem wq364 : (Jvm.Cond.instanceMethod ({ cls := "WeirStream", name := "queued", desc := "(IZ)I" } : Jvm.MethodName)) ∈ lw_all := lw_in (lw_tb (List.mem_of_getElem? (i := 364) (by decide +kernel))) rfl
theorem wq365 : (Jvm.Cond.selects "WeirStream" ({ cls := "WeirStream", name := "queued", desc := "(IZ)I" } : Jvm.MethodName) ({ cls := "WeirStream", name := "queued", desc := "(IZ)I" } : Jvm.MethodName)) ∈ lw_all := lw_in (lw_tb (List.mem_of_getElem? (i := 365) (by decide +kernel))) rfl
theorem wq366 : (Jvm.Cond.code ({ cls := "WeirStream", name := "queued", desc := "(IZ)I" } : Jvm.MethodName) prog_1_method_28_code (4 : Nat) (Option.some Jvm.ClassFile.FieldType.int)) ∈ lw_all := lw_in (lw_tb (List.mem_of_getElem? (i := 366) (by decide +kernel))) rfl
theorem wq373 : (Jvm.Cond.instanceMethod ({ cls := "WeirStream", name := "isBlocked", desc := "(IZ)Z" } : Jvm.MethodName)) ∈ lw_all := lw_in (lw_tb (List.mem_of_getElem? (i := 373) (by decide +kernel))) rfl
theorem wq374 : (Jvm.Cond.selects "WeirStream" ({ cls := "WeirStream", name := "isBlocked", desc := "(IZ)Z" } : Jvm.MethodName) ({ cls := "WeirStream", name := "isBlocked", desc := "(IZ)Z" } : Jvm.MethodName)) ∈ lw_all := lw_in (lw_tb (List.mem_of_getElem? (i := 374) (by decide +kernel))) rfl
theorem wq375 : (Jvm.Cond.code ({ cls := "WeirStream", name := "isBlocked", desc := "(IZ)Z" } : Jvm.MethodName) prog_1_method_29_code (4 : Nat) (Option.some Jvm.ClassFile.FieldType.boolean)) ∈ lw_all := lw_in (lw_tb (List.mem_of_getElem? (i := 375) (by decide +kernel))) rfl
theorem wq377 : (Jvm.Cond.instanceMethod ({ cls := "WeirStream", name := "depthOf", desc := "(I)I" } : Jvm.MethodName)) ∈ lw_all := lw_in (lw_tb (List.mem_of_getElem? (i := 377) (by decide +kernel))) rfl
theorem wq378 : (Jvm.Cond.selects "WeirStream" ({ cls := "WeirStream", name := "depthOf", desc := "(I)I" } : Jvm.MethodName) ({ cls := "WeirStream", name := "depthOf", desc := "(I)I" } : Jvm.MethodName)) ∈ lw_all := lw_in (lw_tb (List.mem_of_getElem? (i := 378) (by decide +kernel))) rfl
theorem wq379 : (Jvm.Cond.code ({ cls := "WeirStream", name := "depthOf", desc := "(I)I" } : Jvm.MethodName) prog_1_method_31_code (2 : Nat) (Option.some Jvm.ClassFile.FieldType.int)) ∈ lw_all := lw_in (lw_tb (List.mem_of_getElem? (i := 379) (by decide +kernel))) rfl
theorem wq381 : (Jvm.Cond.instanceMethod ({ cls := "WeirStream", name := "nextEnd", desc := "(I)I" } : Jvm.MethodName)) ∈ lw_all := lw_in (lw_tb (List.mem_of_getElem? (i := 381) (by decide +kernel))) rfl
theorem wq382 : (Jvm.Cond.selects "WeirStream" ({ cls := "WeirStream", name := "nextEnd", desc := "(I)I" } : Jvm.MethodName) ({ cls := "WeirStream", name := "nextEnd", desc := "(I)I" } : Jvm.MethodName)) ∈ lw_all := lw_in (lw_tb (List.mem_of_getElem? (i := 382) (by decide +kernel))) rfl
theorem wq383 : (Jvm.Cond.code ({ cls := "WeirStream", name := "nextEnd", desc := "(I)I" } : Jvm.MethodName) prog_1_method_33_code (5 : Nat) (Option.some Jvm.ClassFile.FieldType.int)) ∈ lw_all := lw_in (lw_tb (List.mem_of_getElem? (i := 383) (by decide +kernel))) rfl
theorem wq384 : (Jvm.Cond.methodLink "WeirStream" (203 : Nat) ({ cls := "WeirStream", name := "spanStageOf", desc := "(I)LWeirStream$Stage;" } : Jvm.MethodName)) ∈ lw_all := lw_in (lw_tb (List.mem_of_getElem? (i := 384) (by decide +kernel))) rfl
theorem wq386 : (Jvm.Cond.instanceMethod ({ cls := "WeirStream", name := "spanStageOf", desc := "(I)LWeirStream$Stage;" } : Jvm.MethodName)) ∈ lw_all := lw_in (lw_tb (List.mem_of_getElem? (i := 386) (by decide +kernel))) rfl
theorem wq387 : (Jvm.Cond.code ({ cls := "WeirStream", name := "spanStageOf", desc := "(I)LWeirStream$Stage;" } : Jvm.MethodName) prog_1_method_61_code (3 : Nat) (Option.some (Jvm.ClassFile.FieldType.object "WeirStream$Stage"))) ∈ lw_all := lw_in (lw_tb (List.mem_of_getElem? (i := 387) (by decide +kernel))) rfl
theorem wq388 : (Jvm.Cond.methodLink "WeirStream" (25 : Nat) ({ cls := "WeirStream", name := "refuseUnless", desc := "(Z)V" } : Jvm.MethodName)) ∈ lw_all := lw_in (lw_tb (List.mem_of_getElem? (i := 388) (by decide +kernel))) rfl
theorem wq389 : (Jvm.Cond.static ({ cls := "WeirStream", name := "refuseUnless", desc := "(Z)V" } : Jvm.MethodName)) ∈ lw_all := lw_in (lw_tb (List.mem_of_getElem? (i := 389) (by decide +kernel))) rfl
theorem wq390 : (Jvm.Cond.code ({ cls := "WeirStream", name := "refuseUnless", desc := "(Z)V" } : Jvm.MethodName) prog_1_method_55_code (1 : Nat) (Option.none : Option Jvm.ClassFile.FieldType)) ∈ lw_all := lw_in (lw_tb (List.mem_of_getElem? (i := 390) (by decide +kernel))) rfl
theorem wq391 : (Jvm.Cond.classLink "WeirStream" (354 : Nat) "java/lang/IllegalArgumentException") ∈ lw_all := lw_in (lw_tb (List.mem_of_getElem? (i := 391) (by decide +kernel))) rfl
theorem wq428 : (Jvm.Cond.instanceMethod ({ cls := "WeirStream", name := "outputs", desc := "(I)I" } : Jvm.MethodName)) ∈ lw_all := lw_in (lw_tb (List.mem_of_getElem? (i := 428) (by decide +kernel))) rfl
theorem wq429 : (Jvm.Cond.selects "WeirStream" ({ cls := "WeirStream", name := "outputs", desc := "(I)I" } : Jvm.MethodName) ({ cls := "WeirStream", name := "outputs", desc := "(I)I" } : Jvm.MethodName)) ∈ lw_all := lw_in (lw_tb (List.mem_of_getElem? (i := 429) (by decide +kernel))) rfl
theorem wq430 : (Jvm.Cond.code ({ cls := "WeirStream", name := "outputs", desc := "(I)I" } : Jvm.MethodName) prog_1_method_34_code (2 : Nat) (Option.some Jvm.ClassFile.FieldType.int)) ∈ lw_all := lw_in (lw_tb (List.mem_of_getElem? (i := 430) (by decide +kernel))) rfl
theorem wq431 : (Jvm.Cond.methodLink "WeirStream" (234 : Nat) ({ cls := "WeirStream", name := "sinkOf", desc := "(I)LWeirStream$Stage;" } : Jvm.MethodName)) ∈ lw_all := lw_in (lw_tb (List.mem_of_getElem? (i := 431) (by decide +kernel))) rfl
theorem wq433 : (Jvm.Cond.instanceMethod ({ cls := "WeirStream", name := "sinkOf", desc := "(I)LWeirStream$Stage;" } : Jvm.MethodName)) ∈ lw_all := lw_in (lw_tb (List.mem_of_getElem? (i := 433) (by decide +kernel))) rfl
theorem wq434 : (Jvm.Cond.code ({ cls := "WeirStream", name := "sinkOf", desc := "(I)LWeirStream$Stage;" } : Jvm.MethodName) prog_1_method_62_code (3 : Nat) (Option.some (Jvm.ClassFile.FieldType.object "WeirStream$Stage"))) ∈ lw_all := lw_in (lw_tb (List.mem_of_getElem? (i := 434) (by decide +kernel))) rfl
theorem wq436 : (Jvm.Cond.instanceMethod ({ cls := "WeirStream", name := "committed", desc := "(I)I" } : Jvm.MethodName)) ∈ lw_all := lw_in (lw_tb (List.mem_of_getElem? (i := 436) (by decide +kernel))) rfl
theorem wq437 : (Jvm.Cond.selects "WeirStream" ({ cls := "WeirStream", name := "committed", desc := "(I)I" } : Jvm.MethodName) ({ cls := "WeirStream", name := "committed", desc := "(I)I" } : Jvm.MethodName)) ∈ lw_all := lw_in (lw_tb (List.mem_of_getElem? (i := 437) (by decide +kernel))) rfl
theorem wq438 : (Jvm.Cond.code ({ cls := "WeirStream", name := "committed", desc := "(I)I" } : Jvm.MethodName) prog_1_method_35_code (2 : Nat) (Option.some Jvm.ClassFile.FieldType.int)) ∈ lw_all := lw_in (lw_tb (List.mem_of_getElem? (i := 438) (by decide +kernel))) rfl
theorem wq439 : (Jvm.Cond.methodLink "WeirStream" (243 : Nat) ({ cls := "WeirStream", name := "outputAt", desc := "(II)J" } : Jvm.MethodName)) ∈ lw_all := lw_in (lw_tb (List.mem_of_getElem? (i := 439) (by decide +kernel))) rfl
theorem wq441 : (Jvm.Cond.instanceMethod ({ cls := "WeirStream", name := "outputAt", desc := "(II)J" } : Jvm.MethodName)) ∈ lw_all := lw_in (lw_tb (List.mem_of_getElem? (i := 441) (by decide +kernel))) rfl
theorem wq442 : (Jvm.Cond.code ({ cls := "WeirStream", name := "outputAt", desc := "(II)J" } : Jvm.MethodName) prog_1_method_63_code (4 : Nat) (Option.some Jvm.ClassFile.FieldType.long)) ∈ lw_all := lw_in (lw_tb (List.mem_of_getElem? (i := 442) (by decide +kernel))) rfl
theorem wq455 : (Jvm.Cond.methodLink "WeirStreamLaw" (146 : Nat) ({ cls := "WeirStreamLaw", name := "addSource", desc := "(LWeirStream;I[J)I" } : Jvm.MethodName)) ∈ lw_all := lw_in (lw_tb (List.mem_of_getElem? (i := 455) (by decide +kernel))) rfl
theorem wq456 : (Jvm.Cond.static ({ cls := "WeirStreamLaw", name := "addSource", desc := "(LWeirStream;I[J)I" } : Jvm.MethodName)) ∈ lw_all := lw_in (lw_tb (List.mem_of_getElem? (i := 456) (by decide +kernel))) rfl
theorem wq457 : (Jvm.Cond.codeWith ({ cls := "WeirStreamLaw", name := "addSource", desc := "(LWeirStream;I[J)I" } : Jvm.MethodName) method_3_code (4 : Nat) (Option.some Jvm.ClassFile.FieldType.int) [((0 : Nat), (9 : Nat), (12 : Nat), (13 : Nat)), ((0 : Nat), (9 : Nat), (15 : Nat), (15 : Nat))]) ∈ lw_all := lw_in (lw_tb (List.mem_of_getElem? (i := 457) (by decide +kernel))) rfl
theorem wq458 : (Jvm.Cond.classLink "WeirStreamLaw" (13 : Nat) "java/lang/IllegalArgumentException") ∈ lw_all := lw_in (lw_tb (List.mem_of_getElem? (i := 458) (by decide +kernel))) rfl
theorem wq459 : (Jvm.Cond.classLink "WeirStreamLaw" (15 : Nat) "java/lang/IllegalStateException") ∈ lw_all := lw_in (lw_tb (List.mem_of_getElem? (i := 459) (by decide +kernel))) rfl
theorem wq460 : (Jvm.Cond.methodLink "WeirStreamLaw" (7 : Nat) ({ cls := "WeirStream", name := "addSource", desc := "(I)I" } : Jvm.MethodName)) ∈ lw_all := lw_in (lw_tb (List.mem_of_getElem? (i := 460) (by decide +kernel))) rfl
theorem wq461 : (Jvm.Cond.instanceMethod ({ cls := "WeirStream", name := "addSource", desc := "(I)I" } : Jvm.MethodName)) ∈ lw_all := lw_in (lw_tb (List.mem_of_getElem? (i := 461) (by decide +kernel))) rfl
theorem wq462 : (Jvm.Cond.selects "WeirStream" ({ cls := "WeirStream", name := "addSource", desc := "(I)I" } : Jvm.MethodName) ({ cls := "WeirStream", name := "addSource", desc := "(I)I" } : Jvm.MethodName)) ∈ lw_all := lw_in (lw_tb (List.mem_of_getElem? (i := 462) (by decide +kernel))) rfl
theorem wq463 : (Jvm.Cond.code ({ cls := "WeirStream", name := "addSource", desc := "(I)I" } : Jvm.MethodName) prog_1_method_2_code (3 : Nat) (Option.some Jvm.ClassFile.FieldType.int)) ∈ lw_all := lw_in (lw_tb (List.mem_of_getElem? (i := 463) (by decide +kernel))) rfl
theorem wq464 : (Jvm.Cond.methodLink "WeirStream" (21 : Nat) ({ cls := "WeirStream", name := "isWithin", desc := "(III)Z" } : Jvm.MethodName)) ∈ lw_all := lw_in (lw_tb (List.mem_of_getElem? (i := 464) (by decide +kernel))) rfl
theorem wq465 : (Jvm.Cond.static ({ cls := "WeirStream", name := "isWithin", desc := "(III)Z" } : Jvm.MethodName)) ∈ lw_all := lw_in (lw_tb (List.mem_of_getElem? (i := 465) (by decide +kernel))) rfl
theorem wq466 : (Jvm.Cond.code ({ cls := "WeirStream", name := "isWithin", desc := "(III)Z" } : Jvm.MethodName) prog_1_method_54_code (3 : Nat) (Option.some Jvm.ClassFile.FieldType.boolean)) ∈ lw_all := lw_in (lw_tb (List.mem_of_getElem? (i := 466) (by decide +kernel))) rfl
theorem wq467 : (Jvm.Cond.methodLink "WeirStream" (28 : Nat) ({ cls := "WeirStream", name := "refuseMoreStages", desc := "()V" } : Jvm.MethodName)) ∈ lw_all := lw_in (lw_tb (List.mem_of_getElem? (i := 467) (by decide +kernel))) rfl
theorem wq469 : (Jvm.Cond.instanceMethod ({ cls := "WeirStream", name := "refuseMoreStages", desc := "()V" } : Jvm.MethodName)) ∈ lw_all := lw_in (lw_tb (List.mem_of_getElem? (i := 469) (by decide +kernel))) rfl
theorem wq470 : (Jvm.Cond.code ({ cls := "WeirStream", name := "refuseMoreStages", desc := "()V" } : Jvm.MethodName) prog_1_method_56_code (1 : Nat) (Option.none : Option Jvm.ClassFile.FieldType)) ∈ lw_all := lw_in (lw_tb (List.mem_of_getElem? (i := 470) (by decide +kernel))) rfl
theorem wq471 : (Jvm.Cond.classLink "WeirStream" (91 : Nat) "java/lang/IllegalStateException") ∈ lw_all := lw_in (lw_tb (List.mem_of_getElem? (i := 471) (by decide +kernel))) rfl
theorem wq486 : (Jvm.Cond.classLink "WeirStream" (31 : Nat) "WeirStream$Plan") ∈ lw_all := lw_in (lw_tb (List.mem_of_getElem? (i := 486) (by decide +kernel))) rfl
theorem wq487 : (Jvm.Cond.instantiable "WeirStream$Plan" (15 : Nat)) ∈ lw_all := lw_in (lw_tb (List.mem_of_getElem? (i := 487) (by decide +kernel))) rfl
theorem wq488 : (Jvm.Cond.methodLink "WeirStream" (33 : Nat) ({ cls := "WeirStream$Plan", name := "<init>", desc := "(III)V" } : Jvm.MethodName)) ∈ lw_all := lw_in (lw_tb (List.mem_of_getElem? (i := 488) (by decide +kernel))) rfl
theorem wq489 : (Jvm.Cond.instanceMethod ({ cls := "WeirStream$Plan", name := "<init>", desc := "(III)V" } : Jvm.MethodName)) ∈ lw_all := lw_in (lw_tb (List.mem_of_getElem? (i := 489) (by decide +kernel))) rfl
theorem wq490 : (Jvm.Cond.code ({ cls := "WeirStream$Plan", name := "<init>", desc := "(III)V" } : Jvm.MethodName) prog_7_method_1_code (4 : Nat) (Option.none : Option Jvm.ClassFile.FieldType)) ∈ lw_all := lw_in (lw_tb (List.mem_of_getElem? (i := 490) (by decide +kernel))) rfl
theorem wq491 : (Jvm.Cond.methodLink "WeirStream$Plan" (1 : Nat) ({ cls := "java/lang/Object", name := "<init>", desc := "()V" } : Jvm.MethodName)) ∈ lw_all := lw_in (lw_tb (List.mem_of_getElem? (i := 491) (by decide +kernel))) rfl
theorem wq492 : (Jvm.Cond.fieldLink "WeirStream$Plan" (7 : Nat) "WeirStream$Plan" "sort" "I") ∈ lw_all := lw_in (lw_tb (List.mem_of_getElem? (i := 492) (by decide +kernel))) rfl
theorem wq496 : (Jvm.Cond.fieldLink "WeirStream$Plan" (13 : Nat) "WeirStream$Plan" "first" "I") ∈ lw_all := lw_in (lw_tb (List.mem_of_getElem? (i := 496) (by decide +kernel))) rfl
theorem wq499 : (Jvm.Cond.fieldLink "WeirStream$Plan" (16 : Nat) "WeirStream$Plan" "second" "I") ∈ lw_all := lw_in (lw_tb (List.mem_of_getElem? (i := 499) (by decide +kernel))) rfl
theorem wq526 : (Jvm.Cond.laysFinal "WeirStream$Plan" "WeirStream$Plan" "sort" "I") ∈ lw_all := lw_in (lw_tb (List.mem_of_getElem? (i := 526) (by decide +kernel))) rfl
theorem wq528 : (Jvm.Cond.laysFinal "WeirStream$Plan" "WeirStream$Plan" "first" "I") ∈ lw_all := lw_in (lw_tb (List.mem_of_getElem? (i := 528) (by decide +kernel))) rfl
theorem wq530 : (Jvm.Cond.laysFinal "WeirStream$Plan" "WeirStream$Plan" "second" "I") ∈ lw_all := lw_in (lw_tb (List.mem_of_getElem? (i := 530) (by decide +kernel))) rfl
theorem wq532 : (Jvm.Cond.lays "WeirStream$Plan" "WeirStream$Plan" "slack" "I") ∈ lw_all := lw_in (lw_tb (List.mem_of_getElem? (i := 532) (by decide +kernel))) rfl
theorem wq534 : (Jvm.Cond.lays "WeirStream$Plan" "WeirStream$Plan" "rule" "I") ∈ lw_all := lw_in (lw_tb (List.mem_of_getElem? (i := 534) (by decide +kernel))) rfl
theorem wq536 : (Jvm.Cond.lays "WeirStream$Plan" "WeirStream$Plan" "n" "I") ∈ lw_all := lw_in (lw_tb (List.mem_of_getElem? (i := 536) (by decide +kernel))) rfl
theorem wq538 : (Jvm.Cond.lays "WeirStream$Plan" "WeirStream$Plan" "size" "I") ∈ lw_all := lw_in (lw_tb (List.mem_of_getElem? (i := 538) (by decide +kernel))) rfl
theorem wq540 : (Jvm.Cond.lays "WeirStream$Plan" "WeirStream$Plan" "step" "I") ∈ lw_all := lw_in (lw_tb (List.mem_of_getElem? (i := 540) (by decide +kernel))) rfl
theorem wq542 : (Jvm.Cond.lays "WeirStream$Plan" "WeirStream$Plan" "lateness" "I") ∈ lw_all := lw_in (lw_tb (List.mem_of_getElem? (i := 542) (by decide +kernel))) rfl
theorem wq544 : (Jvm.Cond.lays "WeirStream$Plan" "WeirStream$Plan" "gap" "I") ∈ lw_all := lw_in (lw_tb (List.mem_of_getElem? (i := 544) (by decide +kernel))) rfl
theorem wq546 : (Jvm.Cond.lays "WeirStream$Plan" "WeirStream$Plan" "before" "I") ∈ lw_all := lw_in (lw_tb (List.mem_of_getElem? (i := 546) (by decide +kernel))) rfl
theorem wq548 : (Jvm.Cond.lays "WeirStream$Plan" "WeirStream$Plan" "after" "I") ∈ lw_all := lw_in (lw_tb (List.mem_of_getElem? (i := 548) (by decide +kernel))) rfl
theorem wq550 : (Jvm.Cond.lays "WeirStream$Plan" "WeirStream$Plan" "account" "I") ∈ lw_all := lw_in (lw_tb (List.mem_of_getElem? (i := 550) (by decide +kernel))) rfl
theorem wq552 : (Jvm.Cond.lays "WeirStream$Plan" "WeirStream$Plan" "depth" "I") ∈ lw_all := lw_in (lw_tb (List.mem_of_getElem? (i := 552) (by decide +kernel))) rfl
theorem wq554 : (Jvm.Cond.lays "WeirStream$Plan" "WeirStream$Plan" "upstream" "I") ∈ lw_all := lw_in (lw_tb (List.mem_of_getElem? (i := 554) (by decide +kernel))) rfl
theorem wq557 : (Jvm.Cond.methodLink "WeirStream" (40 : Nat) ({ cls := "WeirStream", name := "wire", desc := "(LWeirStream$Plan;)I" } : Jvm.MethodName)) ∈ lw_all := lw_in (lw_tb (List.mem_of_getElem? (i := 557) (by decide +kernel))) rfl
theorem wq559 : (Jvm.Cond.instanceMethod ({ cls := "WeirStream", name := "wire", desc := "(LWeirStream$Plan;)I" } : Jvm.MethodName)) ∈ lw_all := lw_in (lw_tb (List.mem_of_getElem? (i := 559) (by decide +kernel))) rfl
theorem wq560 : (Jvm.Cond.code ({ cls := "WeirStream", name := "wire", desc := "(LWeirStream$Plan;)I" } : Jvm.MethodName) prog_1_method_64_code (4 : Nat) (Option.some Jvm.ClassFile.FieldType.int)) ∈ lw_all := lw_in (lw_tb (List.mem_of_getElem? (i := 560) (by decide +kernel))) rfl
theorem wq561 : (Jvm.Cond.methodLink "WeirStream" (368 : Nat) ({ cls := "WeirStream", name := "planOf", desc := "(I)LWeirStream$Plan;" } : Jvm.MethodName)) ∈ lw_all := lw_in (lw_tb (List.mem_of_getElem? (i := 561) (by decide +kernel))) rfl
theorem wq563 : (Jvm.Cond.instanceMethod ({ cls := "WeirStream", name := "planOf", desc := "(I)LWeirStream$Plan;" } : Jvm.MethodName)) ∈ lw_all := lw_in (lw_tb (List.mem_of_getElem? (i := 563) (by decide +kernel))) rfl
theorem wq564 : (Jvm.Cond.code ({ cls := "WeirStream", name := "planOf", desc := "(I)LWeirStream$Plan;" } : Jvm.MethodName) prog_1_method_65_code (3 : Nat) (Option.some (Jvm.ClassFile.FieldType.object "WeirStream$Plan"))) ∈ lw_all := lw_in (lw_tb (List.mem_of_getElem? (i := 564) (by decide +kernel))) rfl
theorem wq565 : (Jvm.Cond.methodLink "WeirStream" (372 : Nat) ({ cls := "WeirStream$Plan", name := "standBehind", desc := "(LWeirStream$Plan;I)V" } : Jvm.MethodName)) ∈ lw_all := lw_in (lw_tb (List.mem_of_getElem? (i := 565) (by decide +kernel))) rfl
theorem wq566 : (Jvm.Cond.instanceMethod ({ cls := "WeirStream$Plan", name := "standBehind", desc := "(LWeirStream$Plan;I)V" } : Jvm.MethodName)) ∈ lw_all := lw_in (lw_tb (List.mem_of_getElem? (i := 566) (by decide +kernel))) rfl
theorem wq567 : (Jvm.Cond.selects "WeirStream$Plan" ({ cls := "WeirStream$Plan", name := "standBehind", desc := "(LWeirStream$Plan;I)V" } : Jvm.MethodName) ({ cls := "WeirStream$Plan", name := "standBehind", desc := "(LWeirStream$Plan;I)V" } : Jvm.MethodName)) ∈ lw_all := lw_in (lw_tb (List.mem_of_getElem? (i := 567) (by decide +kernel))) rfl
theorem wq568 : (Jvm.Cond.code ({ cls := "WeirStream$Plan", name := "standBehind", desc := "(LWeirStream$Plan;I)V" } : Jvm.MethodName) prog_7_method_2_code (3 : Nat) (Option.none : Option Jvm.ClassFile.FieldType)) ∈ lw_all := lw_in (lw_tb (List.mem_of_getElem? (i := 568) (by decide +kernel))) rfl
theorem wq570 : (Jvm.Cond.static ({ cls := "java/lang/Math", name := "max", desc := "(II)I" } : Jvm.MethodName)) ∈ lw_all := lw_in (lw_tb (List.mem_of_getElem? (i := 570) (by decide +kernel))) rfl
theorem wq571 : (Jvm.Cond.code ({ cls := "java/lang/Math", name := "max", desc := "(II)I" } : Jvm.MethodName) prog_24_method_65_code (2 : Nat) (Option.some Jvm.ClassFile.FieldType.int)) ∈ lw_all := lw_in (lw_tb (List.mem_of_getElem? (i := 571) (by decide +kernel))) rfl
theorem wq572 : (Jvm.Cond.classLink "WeirStream" (110 : Nat) "WeirStream$Row") ∈ lw_all := lw_in (lw_tb (List.mem_of_getElem? (i := 572) (by decide +kernel))) rfl
theorem wq573 : (Jvm.Cond.instantiable "WeirStream$Row" (2 : Nat)) ∈ lw_all := lw_in (lw_tb (List.mem_of_getElem? (i := 573) (by decide +kernel))) rfl
theorem wq575 : (Jvm.Cond.instanceMethod ({ cls := "WeirStream$Row", name := "<init>", desc := "()V" } : Jvm.MethodName)) ∈ lw_all := lw_in (lw_tb (List.mem_of_getElem? (i := 575) (by decide +kernel))) rfl
theorem wq576 : (Jvm.Cond.code ({ cls := "WeirStream$Row", name := "<init>", desc := "()V" } : Jvm.MethodName) prog_8_method_1_code (1 : Nat) (Option.none : Option Jvm.ClassFile.FieldType)) ∈ lw_all := lw_in (lw_tb (List.mem_of_getElem? (i := 576) (by decide +kernel))) rfl
theorem wq577 : (Jvm.Cond.methodLink "WeirStream$Row" (1 : Nat) ({ cls := "java/lang/Object", name := "<init>", desc := "()V" } : Jvm.MethodName)) ∈ lw_all := lw_in (lw_tb (List.mem_of_getElem? (i := 577) (by decide +kernel))) rfl
theorem wq578 : (Jvm.Cond.fieldLink "WeirStream$Row" (9 : Nat) "WeirStream$Row" "cells" "[J") ∈ lw_all := lw_in (lw_tb (List.mem_of_getElem? (i := 578) (by decide +kernel))) rfl
theorem wq580 : (Jvm.Cond.lays "WeirStream$Row" "WeirStream$Row" "cells" "[J") ∈ lw_all := lw_in (lw_tb (List.mem_of_getElem? (i := 580) (by decide +kernel))) rfl
theorem wq582 : (Jvm.Cond.lays "WeirStream$Row" "WeirStream$Row" "length" "I") ∈ lw_all := lw_in (lw_tb (List.mem_of_getElem? (i := 582) (by decide +kernel))) rfl
theorem wq585 : (Jvm.Cond.arrayClass Jvm.ClassFile.FieldType.long) ∈ lw_all := lw_in (lw_tb (List.mem_of_getElem? (i := 585) (by decide +kernel))) rfl
theorem wq586 : (Jvm.Cond.methodLink "WeirStream" (380 : Nat) ({ cls := "WeirStream$Flow", name := "add", desc := "(LWeirStream$Plan;LWeirStream$Row;)V" } : Jvm.MethodName)) ∈ lw_all := lw_in (lw_tb (List.mem_of_getElem? (i := 586) (by decide +kernel))) rfl
theorem wq587 : (Jvm.Cond.instanceMethod ({ cls := "WeirStream$Flow", name := "add", desc := "(LWeirStream$Plan;LWeirStream$Row;)V" } : Jvm.MethodName)) ∈ lw_all := lw_in (lw_tb (List.mem_of_getElem? (i := 587) (by decide +kernel))) rfl
theorem wq588 : (Jvm.Cond.selects "WeirStream$Flow" ({ cls := "WeirStream$Flow", name := "add", desc := "(LWeirStream$Plan;LWeirStream$Row;)V" } : Jvm.MethodName) ({ cls := "WeirStream$Flow", name := "add", desc := "(LWeirStream$Plan;LWeirStream$Row;)V" } : Jvm.MethodName)) ∈ lw_all := lw_in (lw_tb (List.mem_of_getElem? (i := 588) (by decide +kernel))) rfl
theorem wq589 : (Jvm.Cond.code ({ cls := "WeirStream$Flow", name := "add", desc := "(LWeirStream$Plan;LWeirStream$Row;)V" } : Jvm.MethodName) prog_4_method_4_code (3 : Nat) (Option.none : Option Jvm.ClassFile.FieldType)) ∈ lw_all := lw_in (lw_tb (List.mem_of_getElem? (i := 589) (by decide +kernel))) rfl
theorem wq590 : (Jvm.Cond.instantiable "WeirStream$Stage" (12 : Nat)) ∈ lw_all := lw_in (lw_tb (List.mem_of_getElem? (i := 590) (by decide +kernel))) rfl
theorem wq591 : (Jvm.Cond.methodLink "WeirStream$Flow" (44 : Nat) ({ cls := "WeirStream$Flow", name := "channelFrom", desc := "(I)LWeirStream$Channel;" } : Jvm.MethodName)) ∈ lw_all := lw_in (lw_tb (List.mem_of_getElem? (i := 591) (by decide +kernel))) rfl
theorem wq593 : (Jvm.Cond.instanceMethod ({ cls := "WeirStream$Flow", name := "channelFrom", desc := "(I)LWeirStream$Channel;" } : Jvm.MethodName)) ∈ lw_all := lw_in (lw_tb (List.mem_of_getElem? (i := 593) (by decide +kernel))) rfl
theorem wq594 : (Jvm.Cond.code ({ cls := "WeirStream$Flow", name := "channelFrom", desc := "(I)LWeirStream$Channel;" } : Jvm.MethodName) prog_4_method_5_code (3 : Nat) (Option.some (Jvm.ClassFile.FieldType.object "WeirStream$Channel"))) ∈ lw_all := lw_in (lw_tb (List.mem_of_getElem? (i := 594) (by decide +kernel))) rfl
theorem wq599 : (Jvm.Cond.instantiable "WeirStream$Channel" (3 : Nat)) ∈ lw_all := lw_in (lw_tb (List.mem_of_getElem? (i := 599) (by decide +kernel))) rfl
theorem wq611 : (Jvm.Cond.laysFinal "WeirStream$Channel" "WeirStream$Channel" "items" "LWeirStream$Row;") ∈ lw_all := lw_in (lw_tb (List.mem_of_getElem? (i := 611) (by decide +kernel))) rfl
theorem wq613 : (Jvm.Cond.lays "WeirStream$Channel" "WeirStream$Channel" "given" "I") ∈ lw_all := lw_in (lw_tb (List.mem_of_getElem? (i := 613) (by decide +kernel))) rfl
theorem wq615 : (Jvm.Cond.lays "WeirStream$Channel" "WeirStream$Channel" "isShut" "Z") ∈ lw_all := lw_in (lw_tb (List.mem_of_getElem? (i := 615) (by decide +kernel))) rfl
theorem wq619 : (Jvm.Cond.instanceMethod ({ cls := "java/util/ArrayList", name := "add", desc := "(Ljava/lang/Object;)Z" } : Jvm.MethodName)) ∈ lw_all := lw_in (lw_tb (List.mem_of_getElem? (i := 619) (by decide +kernel))) rfl
theorem wq620 : (Jvm.Cond.selects "java/util/ArrayList" ({ cls := "java/util/ArrayList", name := "add", desc := "(Ljava/lang/Object;)Z" } : Jvm.MethodName) ({ cls := "java/util/ArrayList", name := "add", desc := "(Ljava/lang/Object;)Z" } : Jvm.MethodName)) ∈ lw_all := lw_in (lw_tb (List.mem_of_getElem? (i := 620) (by decide +kernel))) rfl
theorem wq621 : (Jvm.Cond.code ({ cls := "java/util/ArrayList", name := "add", desc := "(Ljava/lang/Object;)Z" } : Jvm.MethodName) prog_30_method_25_code (2 : Nat) (Option.some Jvm.ClassFile.FieldType.boolean)) ∈ lw_all := lw_in (lw_tb (List.mem_of_getElem? (i := 621) (by decide +kernel))) rfl
theorem wq622 : (Jvm.Cond.methodLink "java/util/ArrayList" (131 : Nat) ({ cls := "java/util/ArrayList", name := "add", desc := "(Ljava/lang/Object;[Ljava/lang/Object;I)V" } : Jvm.MethodName)) ∈ lw_all := lw_in (lw_tb (List.mem_of_getElem? (i := 622) (by decide +kernel))) rfl
theorem wq624 : (Jvm.Cond.instanceMethod ({ cls := "java/util/ArrayList", name := "add", desc := "(Ljava/lang/Object;[Ljava/lang/Object;I)V" } : Jvm.MethodName)) ∈ lw_all := lw_in (lw_tb (List.mem_of_getElem? (i := 624) (by decide +kernel))) rfl
theorem wq625 : (Jvm.Cond.code ({ cls := "java/util/ArrayList", name := "add", desc := "(Ljava/lang/Object;[Ljava/lang/Object;I)V" } : Jvm.MethodName) prog_30_method_24_code (4 : Nat) (Option.none : Option Jvm.ClassFile.FieldType)) ∈ lw_all := lw_in (lw_tb (List.mem_of_getElem? (i := 625) (by decide +kernel))) rfl
theorem wq626 : (Jvm.Cond.methodLink "java/util/ArrayList" (129 : Nat) ({ cls := "java/util/ArrayList", name := "grow", desc := "()[Ljava/lang/Object;" } : Jvm.MethodName)) ∈ lw_all := lw_in (lw_tb (List.mem_of_getElem? (i := 626) (by decide +kernel))) rfl
theorem wq628 : (Jvm.Cond.instanceMethod ({ cls := "java/util/ArrayList", name := "grow", desc := "()[Ljava/lang/Object;" } : Jvm.MethodName)) ∈ lw_all := lw_in (lw_tb (List.mem_of_getElem? (i := 628) (by decide +kernel))) rfl
theorem wq629 : (Jvm.Cond.code ({ cls := "java/util/ArrayList", name := "grow", desc := "()[Ljava/lang/Object;" } : Jvm.MethodName) prog_30_method_7_code (1 : Nat) (Option.some (Jvm.ClassFile.FieldType.array (Jvm.ClassFile.FieldType.object "java/lang/Object")))) ∈ lw_all := lw_in (lw_tb (List.mem_of_getElem? (i := 629) (by decide +kernel))) rfl
theorem wq630 : (Jvm.Cond.methodLink "java/util/ArrayList" (69 : Nat) ({ cls := "java/util/ArrayList", name := "grow", desc := "(I)[Ljava/lang/Object;" } : Jvm.MethodName)) ∈ lw_all := lw_in (lw_tb (List.mem_of_getElem? (i := 630) (by decide +kernel))) rfl
theorem wq632 : (Jvm.Cond.instanceMethod ({ cls := "java/util/ArrayList", name := "grow", desc := "(I)[Ljava/lang/Object;" } : Jvm.MethodName)) ∈ lw_all := lw_in (lw_tb (List.mem_of_getElem? (i := 632) (by decide +kernel))) rfl
theorem wq633 : (Jvm.Cond.code ({ cls := "java/util/ArrayList", name := "grow", desc := "(I)[Ljava/lang/Object;" } : Jvm.MethodName) prog_30_method_6_code (4 : Nat) (Option.some (Jvm.ClassFile.FieldType.array (Jvm.ClassFile.FieldType.object "java/lang/Object")))) ∈ lw_all := lw_in (lw_tb (List.mem_of_getElem? (i := 633) (by decide +kernel))) rfl
theorem wq674 : (Jvm.Cond.static ({ cls := "java/lang/System", name := "arraycopy", desc := "(Ljava/lang/Object;ILjava/lang/Object;II)V" } : Jvm.MethodName)) ∈ lw_all := lw_in (lw_tb (List.mem_of_getElem? (i := 674) (by decide +kernel))) rfl
theorem wq675 : (Jvm.Cond.native ({ cls := "java/lang/System", name := "arraycopy", desc := "(Ljava/lang/Object;ILjava/lang/Object;II)V" } : Jvm.MethodName)) ∈ lw_all := lw_in (lw_tb (List.mem_of_getElem? (i := 675) (by decide +kernel))) rfl
theorem wq676 : (Jvm.Cond.methodLink "java/util/ArrayList" (79 : Nat) ({ cls := "java/lang/Math", name := "max", desc := "(II)I" } : Jvm.MethodName)) ∈ lw_all := lw_in (lw_tb (List.mem_of_getElem? (i := 676) (by decide +kernel))) rfl
theorem wq677 : (Jvm.Cond.classLink "java/util/ArrayList" (7 : Nat) "java/lang/Object") ∈ lw_all := lw_in (lw_tb (List.mem_of_getElem? (i := 677) (by decide +kernel))) rfl
theorem wq678 : (Jvm.Cond.methodLink "WeirStream$Flow" (51 : Nat) ({ cls := "WeirStream$Stage", name := "<init>", desc := "(LWeirStream$Plan;LWeirStream$Row;LWeirStream$Channel;LWeirStream$Channel;Z)V" } : Jvm.MethodName)) ∈ lw_all := lw_in (lw_tb (List.mem_of_getElem? (i := 678) (by decide +kernel))) rfl
theorem wq679 : (Jvm.Cond.instanceMethod ({ cls := "WeirStream$Stage", name := "<init>", desc := "(LWeirStream$Plan;LWeirStream$Row;LWeirStream$Channel;LWeirStream$Channel;Z)V" } : Jvm.MethodName)) ∈ lw_all := lw_in (lw_tb (List.mem_of_getElem? (i := 679) (by decide +kernel))) rfl
theorem wq680 : (Jvm.Cond.code ({ cls := "WeirStream$Stage", name := "<init>", desc := "(LWeirStream$Plan;LWeirStream$Row;LWeirStream$Channel;LWeirStream$Channel;Z)V" } : Jvm.MethodName) prog_10_method_1_code (6 : Nat) (Option.none : Option Jvm.ClassFile.FieldType)) ∈ lw_all := lw_in (lw_tb (List.mem_of_getElem? (i := 680) (by decide +kernel))) rfl
theorem wq681 : (Jvm.Cond.methodLink "WeirStream$Stage" (3 : Nat) ({ cls := "java/lang/Object", name := "<init>", desc := "()V" } : Jvm.MethodName)) ∈ lw_all := lw_in (lw_tb (List.mem_of_getElem? (i := 681) (by decide +kernel))) rfl
theorem wq682 : (Jvm.Cond.classLink "WeirStream$Stage" (9 : Nat) "WeirStream$Outlet") ∈ lw_all := lw_in (lw_tb (List.mem_of_getElem? (i := 682) (by decide +kernel))) rfl
theorem wq684 : (Jvm.Cond.instanceMethod ({ cls := "WeirStream$Outlet", name := "<init>", desc := "()V" } : Jvm.MethodName)) ∈ lw_all := lw_in (lw_tb (List.mem_of_getElem? (i := 684) (by decide +kernel))) rfl
theorem wq685 : (Jvm.Cond.code ({ cls := "WeirStream$Outlet", name := "<init>", desc := "()V" } : Jvm.MethodName) prog_6_method_1_code (1 : Nat) (Option.none : Option Jvm.ClassFile.FieldType)) ∈ lw_all := lw_in (lw_tb (List.mem_of_getElem? (i := 685) (by decide +kernel))) rfl
theorem wq686 : (Jvm.Cond.methodLink "WeirStream$Outlet" (1 : Nat) ({ cls := "java/lang/Object", name := "<init>", desc := "()V" } : Jvm.MethodName)) ∈ lw_all := lw_in (lw_tb (List.mem_of_getElem? (i := 686) (by decide +kernel))) rfl
theorem wq687 : (Jvm.Cond.classLink "WeirStream$Outlet" (7 : Nat) "WeirStream$Row") ∈ lw_all := lw_in (lw_tb (List.mem_of_getElem? (i := 687) (by decide +kernel))) rfl
theorem wq689 : (Jvm.Cond.classLink "WeirStream$Outlet" (16 : Nat) "java/util/ArrayList") ∈ lw_all := lw_in (lw_tb (List.mem_of_getElem? (i := 689) (by decide +kernel))) rfl
theorem wq690 : (Jvm.Cond.methodLink "WeirStream$Outlet" (18 : Nat) ({ cls := "java/util/ArrayList", name := "<init>", desc := "()V" } : Jvm.MethodName)) ∈ lw_all := lw_in (lw_tb (List.mem_of_getElem? (i := 690) (by decide +kernel))) rfl
theorem wq691 : (Jvm.Cond.fieldLink "WeirStream$Outlet" (10 : Nat) "WeirStream$Outlet" "items" "LWeirStream$Row;") ∈ lw_all := lw_in (lw_tb (List.mem_of_getElem? (i := 691) (by decide +kernel))) rfl
theorem wq693 : (Jvm.Cond.fieldLink "WeirStream$Outlet" (19 : Nat) "WeirStream$Outlet" "channels" "Ljava/util/ArrayList;") ∈ lw_all := lw_in (lw_tb (List.mem_of_getElem? (i := 693) (by decide +kernel))) rfl
theorem wq696 : (Jvm.Cond.laysFinal "WeirStream$Outlet" "WeirStream$Outlet" "items" "LWeirStream$Row;") ∈ lw_all := lw_in (lw_tb (List.mem_of_getElem? (i := 696) (by decide +kernel))) rfl
theorem wq698 : (Jvm.Cond.laysFinal "WeirStream$Outlet" "WeirStream$Outlet" "channels" "Ljava/util/ArrayList;") ∈ lw_all := lw_in (lw_tb (List.mem_of_getElem? (i := 698) (by decide +kernel))) rfl
theorem wq701 : (Jvm.Cond.classLink "WeirStream$Stage" (18 : Nat) "WeirStream$Row") ∈ lw_all := lw_in (lw_tb (List.mem_of_getElem? (i := 701) (by decide +kernel))) rfl
theorem wq703 : (Jvm.Cond.classLink "WeirStream$Stage" (25 : Nat) "WeirStream$State") ∈ lw_all := lw_in (lw_tb (List.mem_of_getElem? (i := 703) (by decide +kernel))) rfl
theorem wq704 : (Jvm.Cond.instantiable "WeirStream$State" (11 : Nat)) ∈ lw_all := lw_in (lw_tb (List.mem_of_getElem? (i := 704) (by decide +kernel))) rfl
theorem wq706 : (Jvm.Cond.instanceMethod ({ cls := "WeirStream$State", name := "<init>", desc := "()V" } : Jvm.MethodName)) ∈ lw_all := lw_in (lw_tb (List.mem_of_getElem? (i := 706) (by decide +kernel))) rfl
theorem wq707 : (Jvm.Cond.code ({ cls := "WeirStream$State", name := "<init>", desc := "()V" } : Jvm.MethodName) prog_11_method_1_code (1 : Nat) (Option.none : Option Jvm.ClassFile.FieldType)) ∈ lw_all := lw_in (lw_tb (List.mem_of_getElem? (i := 707) (by decide +kernel))) rfl
theorem wq708 : (Jvm.Cond.methodLink "WeirStream$State" (1 : Nat) ({ cls := "java/lang/Object", name := "<init>", desc := "()V" } : Jvm.MethodName)) ∈ lw_all := lw_in (lw_tb (List.mem_of_getElem? (i := 708) (by decide +kernel))) rfl
theorem wq709 : (Jvm.Cond.classLink "WeirStream$State" (23 : Nat) "WeirStream$Spans") ∈ lw_all := lw_in (lw_tb (List.mem_of_getElem? (i := 709) (by decide +kernel))) rfl
theorem wq710 : (Jvm.Cond.instantiable "WeirStream$Spans" (2 : Nat)) ∈ lw_all := lw_in (lw_tb (List.mem_of_getElem? (i := 710) (by decide +kernel))) rfl
theorem wq712 : (Jvm.Cond.instanceMethod ({ cls := "WeirStream$Spans", name := "<init>", desc := "()V" } : Jvm.MethodName)) ∈ lw_all := lw_in (lw_tb (List.mem_of_getElem? (i := 712) (by decide +kernel))) rfl
theorem wq713 : (Jvm.Cond.code ({ cls := "WeirStream$Spans", name := "<init>", desc := "()V" } : Jvm.MethodName) prog_9_method_1_code (1 : Nat) (Option.none : Option Jvm.ClassFile.FieldType)) ∈ lw_all := lw_in (lw_tb (List.mem_of_getElem? (i := 713) (by decide +kernel))) rfl
theorem wq714 : (Jvm.Cond.methodLink "WeirStream$Spans" (3 : Nat) ({ cls := "java/lang/Object", name := "<init>", desc := "()V" } : Jvm.MethodName)) ∈ lw_all := lw_in (lw_tb (List.mem_of_getElem? (i := 714) (by decide +kernel))) rfl
theorem wq715 : (Jvm.Cond.classLink "WeirStream$Spans" (9 : Nat) "WeirStream$Row") ∈ lw_all := lw_in (lw_tb (List.mem_of_getElem? (i := 715) (by decide +kernel))) rfl
theorem wq717 : (Jvm.Cond.fieldLink "WeirStream$Spans" (12 : Nat) "WeirStream$Spans" "names" "LWeirStream$Row;") ∈ lw_all := lw_in (lw_tb (List.mem_of_getElem? (i := 717) (by decide +kernel))) rfl
theorem wq718 : (Jvm.Cond.fieldLink "WeirStream$Spans" (18 : Nat) "WeirStream$Spans" "accounts" "LWeirStream$Row;") ∈ lw_all := lw_in (lw_tb (List.mem_of_getElem? (i := 718) (by decide +kernel))) rfl
theorem wq719 : (Jvm.Cond.laysFinal "WeirStream$Spans" "WeirStream$Spans" "names" "LWeirStream$Row;") ∈ lw_all := lw_in (lw_tb (List.mem_of_getElem? (i := 719) (by decide +kernel))) rfl
theorem wq721 : (Jvm.Cond.laysFinal "WeirStream$Spans" "WeirStream$Spans" "accounts" "LWeirStream$Row;") ∈ lw_all := lw_in (lw_tb (List.mem_of_getElem? (i := 721) (by decide +kernel))) rfl
theorem wq724 : (Jvm.Cond.classLink "WeirStream$State" (30 : Nat) "WeirStream$Row") ∈ lw_all := lw_in (lw_tb (List.mem_of_getElem? (i := 724) (by decide +kernel))) rfl
theorem wq726 : (Jvm.Cond.fieldLink "WeirStream$State" (7 : Nat) "WeirStream$State" "mark" "I") ∈ lw_all := lw_in (lw_tb (List.mem_of_getElem? (i := 726) (by decide +kernel))) rfl
theorem wq729 : (Jvm.Cond.fieldLink "WeirStream$State" (13 : Nat) "WeirStream$State" "firstMark" "I") ∈ lw_all := lw_in (lw_tb (List.mem_of_getElem? (i := 729) (by decide +kernel))) rfl
theorem wq731 : (Jvm.Cond.fieldLink "WeirStream$State" (16 : Nat) "WeirStream$State" "secondMark" "I") ∈ lw_all := lw_in (lw_tb (List.mem_of_getElem? (i := 731) (by decide +kernel))) rfl
theorem wq733 : (Jvm.Cond.fieldLink "WeirStream$State" (19 : Nat) "WeirStream$State" "tookSecond" "Z") ∈ lw_all := lw_in (lw_tb (List.mem_of_getElem? (i := 733) (by decide +kernel))) rfl
theorem wq748 : (Jvm.Cond.fieldLink "WeirStream$State" (26 : Nat) "WeirStream$State" "spans" "LWeirStream$Spans;") ∈ lw_all := lw_in (lw_tb (List.mem_of_getElem? (i := 748) (by decide +kernel))) rfl
theorem wq751 : (Jvm.Cond.fieldLink "WeirStream$State" (33 : Nat) "WeirStream$State" "left" "LWeirStream$Row;") ∈ lw_all := lw_in (lw_tb (List.mem_of_getElem? (i := 751) (by decide +kernel))) rfl
theorem wq753 : (Jvm.Cond.fieldLink "WeirStream$State" (37 : Nat) "WeirStream$State" "right" "LWeirStream$Row;") ∈ lw_all := lw_in (lw_tb (List.mem_of_getElem? (i := 753) (by decide +kernel))) rfl
theorem wq755 : (Jvm.Cond.lays "WeirStream$State" "WeirStream$State" "mark" "I") ∈ lw_all := lw_in (lw_tb (List.mem_of_getElem? (i := 755) (by decide +kernel))) rfl
theorem wq757 : (Jvm.Cond.lays "WeirStream$State" "WeirStream$State" "firstMark" "I") ∈ lw_all := lw_in (lw_tb (List.mem_of_getElem? (i := 757) (by decide +kernel))) rfl
theorem wq759 : (Jvm.Cond.lays "WeirStream$State" "WeirStream$State" "secondMark" "I") ∈ lw_all := lw_in (lw_tb (List.mem_of_getElem? (i := 759) (by decide +kernel))) rfl
theorem wq761 : (Jvm.Cond.lays "WeirStream$State" "WeirStream$State" "tookSecond" "Z") ∈ lw_all := lw_in (lw_tb (List.mem_of_getElem? (i := 761) (by decide +kernel))) rfl
theorem wq763 : (Jvm.Cond.lays "WeirStream$State" "WeirStream$State" "taken" "I") ∈ lw_all := lw_in (lw_tb (List.mem_of_getElem? (i := 763) (by decide +kernel))) rfl
theorem wq765 : (Jvm.Cond.lays "WeirStream$State" "WeirStream$State" "emitted" "I") ∈ lw_all := lw_in (lw_tb (List.mem_of_getElem? (i := 765) (by decide +kernel))) rfl
theorem wq767 : (Jvm.Cond.lays "WeirStream$State" "WeirStream$State" "late" "I") ∈ lw_all := lw_in (lw_tb (List.mem_of_getElem? (i := 767) (by decide +kernel))) rfl
theorem wq769 : (Jvm.Cond.lays "WeirStream$State" "WeirStream$State" "outputCount" "I") ∈ lw_all := lw_in (lw_tb (List.mem_of_getElem? (i := 769) (by decide +kernel))) rfl
theorem wq771 : (Jvm.Cond.laysFinal "WeirStream$State" "WeirStream$State" "spans" "LWeirStream$Spans;") ∈ lw_all := lw_in (lw_tb (List.mem_of_getElem? (i := 771) (by decide +kernel))) rfl
theorem wq773 : (Jvm.Cond.laysFinal "WeirStream$State" "WeirStream$State" "left" "LWeirStream$Row;") ∈ lw_all := lw_in (lw_tb (List.mem_of_getElem? (i := 773) (by decide +kernel))) rfl
theorem wq775 : (Jvm.Cond.laysFinal "WeirStream$State" "WeirStream$State" "right" "LWeirStream$Row;") ∈ lw_all := lw_in (lw_tb (List.mem_of_getElem? (i := 775) (by decide +kernel))) rfl
theorem wq778 : (Jvm.Cond.fieldLink "WeirStream$Stage" (38 : Nat) "WeirStream$Stage" "plan" "LWeirStream$Plan;") ∈ lw_all := lw_in (lw_tb (List.mem_of_getElem? (i := 778) (by decide +kernel))) rfl
theorem wq781 : (Jvm.Cond.fieldLink "WeirStream$Stage" (42 : Nat) "WeirStream$Stage" "log" "LWeirStream$Row;") ∈ lw_all := lw_in (lw_tb (List.mem_of_getElem? (i := 781) (by decide +kernel))) rfl
theorem wq783 : (Jvm.Cond.fieldLink "WeirStream$Stage" (45 : Nat) "WeirStream$Stage" "first" "LWeirStream$Channel;") ∈ lw_all := lw_in (lw_tb (List.mem_of_getElem? (i := 783) (by decide +kernel))) rfl
theorem wq785 : (Jvm.Cond.fieldLink "WeirStream$Stage" (49 : Nat) "WeirStream$Stage" "second" "LWeirStream$Channel;") ∈ lw_all := lw_in (lw_tb (List.mem_of_getElem? (i := 785) (by decide +kernel))) rfl
theorem wq787 : (Jvm.Cond.fieldLink "WeirStream$Stage" (52 : Nat) "WeirStream$Stage" "isTrial" "Z") ∈ lw_all := lw_in (lw_tb (List.mem_of_getElem? (i := 787) (by decide +kernel))) rfl
theorem wq788 : (Jvm.Cond.fieldLink "WeirStream$Stage" (12 : Nat) "WeirStream$Stage" "outlet" "LWeirStream$Outlet;") ∈ lw_all := lw_in (lw_tb (List.mem_of_getElem? (i := 788) (by decide +kernel))) rfl
theorem wq791 : (Jvm.Cond.fieldLink "WeirStream$Stage" (21 : Nat) "WeirStream$Stage" "output" "LWeirStream$Row;") ∈ lw_all := lw_in (lw_tb (List.mem_of_getElem? (i := 791) (by decide +kernel))) rfl
theorem wq793 : (Jvm.Cond.fieldLink "WeirStream$Stage" (28 : Nat) "WeirStream$Stage" "now" "LWeirStream$State;") ∈ lw_all := lw_in (lw_tb (List.mem_of_getElem? (i := 793) (by decide +kernel))) rfl
theorem wq796 : (Jvm.Cond.fieldLink "WeirStream$Stage" (32 : Nat) "WeirStream$Stage" "latest" "LWeirStream$State;") ∈ lw_all := lw_in (lw_tb (List.mem_of_getElem? (i := 796) (by decide +kernel))) rfl
theorem wq798 : (Jvm.Cond.fieldLink "WeirStream$Stage" (35 : Nat) "WeirStream$Stage" "coming" "LWeirStream$State;") ∈ lw_all := lw_in (lw_tb (List.mem_of_getElem? (i := 798) (by decide +kernel))) rfl
theorem wq804 : (Jvm.Cond.laysFinal "WeirStream$Stage" "WeirStream$Stage" "plan" "LWeirStream$Plan;") ∈ lw_all := lw_in (lw_tb (List.mem_of_getElem? (i := 804) (by decide +kernel))) rfl
theorem wq806 : (Jvm.Cond.laysFinal "WeirStream$Stage" "WeirStream$Stage" "log" "LWeirStream$Row;") ∈ lw_all := lw_in (lw_tb (List.mem_of_getElem? (i := 806) (by decide +kernel))) rfl
theorem wq808 : (Jvm.Cond.laysFinal "WeirStream$Stage" "WeirStream$Stage" "first" "LWeirStream$Channel;") ∈ lw_all := lw_in (lw_tb (List.mem_of_getElem? (i := 808) (by decide +kernel))) rfl
theorem wq810 : (Jvm.Cond.laysFinal "WeirStream$Stage" "WeirStream$Stage" "second" "LWeirStream$Channel;") ∈ lw_all := lw_in (lw_tb (List.mem_of_getElem? (i := 810) (by decide +kernel))) rfl
theorem wq812 : (Jvm.Cond.laysFinal "WeirStream$Stage" "WeirStream$Stage" "isTrial" "Z") ∈ lw_all := lw_in (lw_tb (List.mem_of_getElem? (i := 812) (by decide +kernel))) rfl
theorem wq814 : (Jvm.Cond.laysFinal "WeirStream$Stage" "WeirStream$Stage" "outlet" "LWeirStream$Outlet;") ∈ lw_all := lw_in (lw_tb (List.mem_of_getElem? (i := 814) (by decide +kernel))) rfl
theorem wq816 : (Jvm.Cond.laysFinal "WeirStream$Stage" "WeirStream$Stage" "output" "LWeirStream$Row;") ∈ lw_all := lw_in (lw_tb (List.mem_of_getElem? (i := 816) (by decide +kernel))) rfl
theorem wq818 : (Jvm.Cond.laysFinal "WeirStream$Stage" "WeirStream$Stage" "now" "LWeirStream$State;") ∈ lw_all := lw_in (lw_tb (List.mem_of_getElem? (i := 818) (by decide +kernel))) rfl
theorem wq820 : (Jvm.Cond.lays "WeirStream$Stage" "WeirStream$Stage" "latest" "LWeirStream$State;") ∈ lw_all := lw_in (lw_tb (List.mem_of_getElem? (i := 820) (by decide +kernel))) rfl
theorem wq822 : (Jvm.Cond.lays "WeirStream$Stage" "WeirStream$Stage" "coming" "LWeirStream$State;") ∈ lw_all := lw_in (lw_tb (List.mem_of_getElem? (i := 822) (by decide +kernel))) rfl
theorem wq824 : (Jvm.Cond.lays "WeirStream$Stage" "WeirStream$Stage" "isClosed" "Z") ∈ lw_all := lw_in (lw_tb (List.mem_of_getElem? (i := 824) (by decide +kernel))) rfl
theorem wq826 : (Jvm.Cond.lays "WeirStream$Stage" "WeirStream$Stage" "owesBarrier" "Z") ∈ lw_all := lw_in (lw_tb (List.mem_of_getElem? (i := 826) (by decide +kernel))) rfl
theorem wq829 : (Jvm.Cond.methodLink "WeirStream$Flow" (54 : Nat) ({ cls := "java/util/ArrayList", name := "add", desc := "(Ljava/lang/Object;)Z" } : Jvm.MethodName)) ∈ lw_all := lw_in (lw_tb (List.mem_of_getElem? (i := 829) (by decide +kernel))) rfl
theorem wq830 : (Jvm.Cond.methodLink "WeirStreamLaw" (155 : Nat) ({ cls := "WeirStreamLaw", name := "addFilter", desc := "(LWeirStream;III[J)I" } : Jvm.MethodName)) ∈ lw_all := lw_in (lw_tb (List.mem_of_getElem? (i := 830) (by decide +kernel))) rfl
theorem wq831 : (Jvm.Cond.static ({ cls := "WeirStreamLaw", name := "addFilter", desc := "(LWeirStream;III[J)I" } : Jvm.MethodName)) ∈ lw_all := lw_in (lw_tb (List.mem_of_getElem? (i := 831) (by decide +kernel))) rfl
theorem wq832 : (Jvm.Cond.codeWith ({ cls := "WeirStreamLaw", name := "addFilter", desc := "(LWeirStream;III[J)I" } : Jvm.MethodName) method_4_code (6 : Nat) (Option.some Jvm.ClassFile.FieldType.int) [((0 : Nat), (12 : Nat), (15 : Nat), (21 : Nat)), ((0 : Nat), (12 : Nat), (19 : Nat), (13 : Nat)), ((0 : Nat), (12 : Nat), (23 : Nat), (15 : Nat))]) ∈ lw_all := lw_in (lw_tb (List.mem_of_getElem? (i := 832) (by decide +kernel))) rfl
theorem wq833 : (Jvm.Cond.classLink "WeirStreamLaw" (21 : Nat) "java/lang/IndexOutOfBoundsException") ∈ lw_all := lw_in (lw_tb (List.mem_of_getElem? (i := 833) (by decide +kernel))) rfl
theorem wq834 : (Jvm.Cond.methodLink "WeirStreamLaw" (17 : Nat) ({ cls := "WeirStream", name := "addFilter", desc := "(III)I" } : Jvm.MethodName)) ∈ lw_all := lw_in (lw_tb (List.mem_of_getElem? (i := 834) (by decide +kernel))) rfl
theorem wq835 : (Jvm.Cond.instanceMethod ({ cls := "WeirStream", name := "addFilter", desc := "(III)I" } : Jvm.MethodName)) ∈ lw_all := lw_in (lw_tb (List.mem_of_getElem? (i := 835) (by decide +kernel))) rfl
theorem wq836 : (Jvm.Cond.selects "WeirStream" ({ cls := "WeirStream", name := "addFilter", desc := "(III)I" } : Jvm.MethodName) ({ cls := "WeirStream", name := "addFilter", desc := "(III)I" } : Jvm.MethodName)) ∈ lw_all := lw_in (lw_tb (List.mem_of_getElem? (i := 836) (by decide +kernel))) rfl
theorem wq837 : (Jvm.Cond.code ({ cls := "WeirStream", name := "addFilter", desc := "(III)I" } : Jvm.MethodName) prog_1_method_3_code (6 : Nat) (Option.some Jvm.ClassFile.FieldType.int)) ∈ lw_all := lw_in (lw_tb (List.mem_of_getElem? (i := 837) (by decide +kernel))) rfl
theorem wq838 : (Jvm.Cond.methodLink "WeirStreamLaw" (159 : Nat) ({ cls := "WeirStreamLaw", name := "addMap", desc := "(LWeirStream;III[J)I" } : Jvm.MethodName)) ∈ lw_all := lw_in (lw_tb (List.mem_of_getElem? (i := 838) (by decide +kernel))) rfl
theorem wq839 : (Jvm.Cond.static ({ cls := "WeirStreamLaw", name := "addMap", desc := "(LWeirStream;III[J)I" } : Jvm.MethodName)) ∈ lw_all := lw_in (lw_tb (List.mem_of_getElem? (i := 839) (by decide +kernel))) rfl
theorem wq840 : (Jvm.Cond.codeWith ({ cls := "WeirStreamLaw", name := "addMap", desc := "(LWeirStream;III[J)I" } : Jvm.MethodName) method_5_code (6 : Nat) (Option.some Jvm.ClassFile.FieldType.int) [((0 : Nat), (12 : Nat), (15 : Nat), (21 : Nat)), ((0 : Nat), (12 : Nat), (19 : Nat), (13 : Nat)), ((0 : Nat), (12 : Nat), (23 : Nat), (15 : Nat))]) ∈ lw_all := lw_in (lw_tb (List.mem_of_getElem? (i := 840) (by decide +kernel))) rfl
theorem wq841 : (Jvm.Cond.methodLink "WeirStreamLaw" (23 : Nat) ({ cls := "WeirStream", name := "addMap", desc := "(III)I" } : Jvm.MethodName)) ∈ lw_all := lw_in (lw_tb (List.mem_of_getElem? (i := 841) (by decide +kernel))) rfl
theorem wq842 : (Jvm.Cond.instanceMethod ({ cls := "WeirStream", name := "addMap", desc := "(III)I" } : Jvm.MethodName)) ∈ lw_all := lw_in (lw_tb (List.mem_of_getElem? (i := 842) (by decide +kernel))) rfl
theorem wq843 : (Jvm.Cond.selects "WeirStream" ({ cls := "WeirStream", name := "addMap", desc := "(III)I" } : Jvm.MethodName) ({ cls := "WeirStream", name := "addMap", desc := "(III)I" } : Jvm.MethodName)) ∈ lw_all := lw_in (lw_tb (List.mem_of_getElem? (i := 843) (by decide +kernel))) rfl
theorem wq844 : (Jvm.Cond.code ({ cls := "WeirStream", name := "addMap", desc := "(III)I" } : Jvm.MethodName) prog_1_method_4_code (6 : Nat) (Option.some Jvm.ClassFile.FieldType.int)) ∈ lw_all := lw_in (lw_tb (List.mem_of_getElem? (i := 844) (by decide +kernel))) rfl
theorem wq845 : (Jvm.Cond.methodLink "WeirStreamLaw" (162 : Nat) ({ cls := "WeirStreamLaw", name := "addWindow", desc := "(LWeirStream;IIIII[J)I" } : Jvm.MethodName)) ∈ lw_all := lw_in (lw_tb (List.mem_of_getElem? (i := 845) (by decide +kernel))) rfl
theorem wq846 : (Jvm.Cond.static ({ cls := "WeirStreamLaw", name := "addWindow", desc := "(LWeirStream;IIIII[J)I" } : Jvm.MethodName)) ∈ lw_all := lw_in (lw_tb (List.mem_of_getElem? (i := 846) (by decide +kernel))) rfl
theorem wq847 : (Jvm.Cond.codeWith ({ cls := "WeirStreamLaw", name := "addWindow", desc := "(LWeirStream;IIIII[J)I" } : Jvm.MethodName) method_6_code (8 : Nat) (Option.some Jvm.ClassFile.FieldType.int) [((0 : Nat), (16 : Nat), (19 : Nat), (21 : Nat)), ((0 : Nat), (16 : Nat), (23 : Nat), (13 : Nat)), ((0 : Nat), (16 : Nat), (27 : Nat), (15 : Nat))]) ∈ lw_all := lw_in (lw_tb (List.mem_of_getElem? (i := 847) (by decide +kernel))) rfl
theorem wq848 : (Jvm.Cond.methodLink "WeirStreamLaw" (26 : Nat) ({ cls := "WeirStream", name := "addWindow", desc := "(IIIII)I" } : Jvm.MethodName)) ∈ lw_all := lw_in (lw_tb (List.mem_of_getElem? (i := 848) (by decide +kernel))) rfl
theorem wq849 : (Jvm.Cond.instanceMethod ({ cls := "WeirStream", name := "addWindow", desc := "(IIIII)I" } : Jvm.MethodName)) ∈ lw_all := lw_in (lw_tb (List.mem_of_getElem? (i := 849) (by decide +kernel))) rfl
theorem wq850 : (Jvm.Cond.selects "WeirStream" ({ cls := "WeirStream", name := "addWindow", desc := "(IIIII)I" } : Jvm.MethodName) ({ cls := "WeirStream", name := "addWindow", desc := "(IIIII)I" } : Jvm.MethodName)) ∈ lw_all := lw_in (lw_tb (List.mem_of_getElem? (i := 850) (by decide +kernel))) rfl
theorem wq851 : (Jvm.Cond.code ({ cls := "WeirStream", name := "addWindow", desc := "(IIIII)I" } : Jvm.MethodName) prog_1_method_5_code (8 : Nat) (Option.some Jvm.ClassFile.FieldType.int)) ∈ lw_all := lw_in (lw_tb (List.mem_of_getElem? (i := 851) (by decide +kernel))) rfl
theorem wq852 : (Jvm.Cond.methodLink "WeirStreamLaw" (166 : Nat) ({ cls := "WeirStreamLaw", name := "addSession", desc := "(LWeirStream;III[J)I" } : Jvm.MethodName)) ∈ lw_all := lw_in (lw_tb (List.mem_of_getElem? (i := 852) (by decide +kernel))) rfl
theorem wq853 : (Jvm.Cond.static ({ cls := "WeirStreamLaw", name := "addSession", desc := "(LWeirStream;III[J)I" } : Jvm.MethodName)) ∈ lw_all := lw_in (lw_tb (List.mem_of_getElem? (i := 853) (by decide +kernel))) rfl
theorem wq854 : (Jvm.Cond.codeWith ({ cls := "WeirStreamLaw", name := "addSession", desc := "(LWeirStream;III[J)I" } : Jvm.MethodName) method_7_code (6 : Nat) (Option.some Jvm.ClassFile.FieldType.int) [((0 : Nat), (12 : Nat), (15 : Nat), (21 : Nat)), ((0 : Nat), (12 : Nat), (19 : Nat), (13 : Nat)), ((0 : Nat), (12 : Nat), (23 : Nat), (15 : Nat))]) ∈ lw_all := lw_in (lw_tb (List.mem_of_getElem? (i := 854) (by decide +kernel))) rfl
theorem wq855 : (Jvm.Cond.methodLink "WeirStreamLaw" (30 : Nat) ({ cls := "WeirStream", name := "addSession", desc := "(III)I" } : Jvm.MethodName)) ∈ lw_all := lw_in (lw_tb (List.mem_of_getElem? (i := 855) (by decide +kernel))) rfl
theorem wq856 : (Jvm.Cond.instanceMethod ({ cls := "WeirStream", name := "addSession", desc := "(III)I" } : Jvm.MethodName)) ∈ lw_all := lw_in (lw_tb (List.mem_of_getElem? (i := 856) (by decide +kernel))) rfl
theorem wq857 : (Jvm.Cond.selects "WeirStream" ({ cls := "WeirStream", name := "addSession", desc := "(III)I" } : Jvm.MethodName) ({ cls := "WeirStream", name := "addSession", desc := "(III)I" } : Jvm.MethodName)) ∈ lw_all := lw_in (lw_tb (List.mem_of_getElem? (i := 857) (by decide +kernel))) rfl
theorem wq858 : (Jvm.Cond.code ({ cls := "WeirStream", name := "addSession", desc := "(III)I" } : Jvm.MethodName) prog_1_method_6_code (6 : Nat) (Option.some Jvm.ClassFile.FieldType.int)) ∈ lw_all := lw_in (lw_tb (List.mem_of_getElem? (i := 858) (by decide +kernel))) rfl
theorem wq859 : (Jvm.Cond.methodLink "WeirStreamLaw" (169 : Nat) ({ cls := "WeirStreamLaw", name := "addJoin", desc := "(LWeirStream;IIIII[J)I" } : Jvm.MethodName)) ∈ lw_all := lw_in (lw_tb (List.mem_of_getElem? (i := 859) (by decide +kernel))) rfl
theorem wq860 : (Jvm.Cond.static ({ cls := "WeirStreamLaw", name := "addJoin", desc := "(LWeirStream;IIIII[J)I" } : Jvm.MethodName)) ∈ lw_all := lw_in (lw_tb (List.mem_of_getElem? (i := 860) (by decide +kernel))) rfl
theorem wq861 : (Jvm.Cond.codeWith ({ cls := "WeirStreamLaw", name := "addJoin", desc := "(LWeirStream;IIIII[J)I" } : Jvm.MethodName) method_8_code (8 : Nat) (Option.some Jvm.ClassFile.FieldType.int) [((0 : Nat), (16 : Nat), (19 : Nat), (21 : Nat)), ((0 : Nat), (16 : Nat), (23 : Nat), (13 : Nat)), ((0 : Nat), (16 : Nat), (27 : Nat), (15 : Nat))]) ∈ lw_all := lw_in (lw_tb (List.mem_of_getElem? (i := 861) (by decide +kernel))) rfl
theorem wq862 : (Jvm.Cond.methodLink "WeirStreamLaw" (33 : Nat) ({ cls := "WeirStream", name := "addJoin", desc := "(IIIII)I" } : Jvm.MethodName)) ∈ lw_all := lw_in (lw_tb (List.mem_of_getElem? (i := 862) (by decide +kernel))) rfl
theorem wq863 : (Jvm.Cond.instanceMethod ({ cls := "WeirStream", name := "addJoin", desc := "(IIIII)I" } : Jvm.MethodName)) ∈ lw_all := lw_in (lw_tb (List.mem_of_getElem? (i := 863) (by decide +kernel))) rfl
theorem wq864 : (Jvm.Cond.selects "WeirStream" ({ cls := "WeirStream", name := "addJoin", desc := "(IIIII)I" } : Jvm.MethodName) ({ cls := "WeirStream", name := "addJoin", desc := "(IIIII)I" } : Jvm.MethodName)) ∈ lw_all := lw_in (lw_tb (List.mem_of_getElem? (i := 864) (by decide +kernel))) rfl
theorem wq865 : (Jvm.Cond.code ({ cls := "WeirStream", name := "addJoin", desc := "(IIIII)I" } : Jvm.MethodName) prog_1_method_7_code (9 : Nat) (Option.some Jvm.ClassFile.FieldType.int)) ∈ lw_all := lw_in (lw_tb (List.mem_of_getElem? (i := 865) (by decide +kernel))) rfl
theorem wq866 : (Jvm.Cond.methodLink "WeirStreamLaw" (172 : Nat) ({ cls := "WeirStreamLaw", name := "addMerge", desc := "(LWeirStream;II[J)I" } : Jvm.MethodName)) ∈ lw_all := lw_in (lw_tb (List.mem_of_getElem? (i := 866) (by decide +kernel))) rfl
theorem wq867 : (Jvm.Cond.static ({ cls := "WeirStreamLaw", name := "addMerge", desc := "(LWeirStream;II[J)I" } : Jvm.MethodName)) ∈ lw_all := lw_in (lw_tb (List.mem_of_getElem? (i := 867) (by decide +kernel))) rfl
theorem wq868 : (Jvm.Cond.codeWith ({ cls := "WeirStreamLaw", name := "addMerge", desc := "(LWeirStream;II[J)I" } : Jvm.MethodName) method_9_code (5 : Nat) (Option.some Jvm.ClassFile.FieldType.int) [((0 : Nat), (10 : Nat), (13 : Nat), (21 : Nat)), ((0 : Nat), (10 : Nat), (17 : Nat), (13 : Nat)), ((0 : Nat), (10 : Nat), (21 : Nat), (15 : Nat))]) ∈ lw_all := lw_in (lw_tb (List.mem_of_getElem? (i := 868) (by decide +kernel))) rfl
theorem wq869 : (Jvm.Cond.methodLink "WeirStreamLaw" (36 : Nat) ({ cls := "WeirStream", name := "addMerge", desc := "(II)I" } : Jvm.MethodName)) ∈ lw_all := lw_in (lw_tb (List.mem_of_getElem? (i := 869) (by decide +kernel))) rfl
theorem wq870 : (Jvm.Cond.instanceMethod ({ cls := "WeirStream", name := "addMerge", desc := "(II)I" } : Jvm.MethodName)) ∈ lw_all := lw_in (lw_tb (List.mem_of_getElem? (i := 870) (by decide +kernel))) rfl
theorem wq871 : (Jvm.Cond.selects "WeirStream" ({ cls := "WeirStream", name := "addMerge", desc := "(II)I" } : Jvm.MethodName) ({ cls := "WeirStream", name := "addMerge", desc := "(II)I" } : Jvm.MethodName)) ∈ lw_all := lw_in (lw_tb (List.mem_of_getElem? (i := 871) (by decide +kernel))) rfl
theorem wq872 : (Jvm.Cond.code ({ cls := "WeirStream", name := "addMerge", desc := "(II)I" } : Jvm.MethodName) prog_1_method_8_code (5 : Nat) (Option.some Jvm.ClassFile.FieldType.int)) ∈ lw_all := lw_in (lw_tb (List.mem_of_getElem? (i := 872) (by decide +kernel))) rfl
theorem wq873 : (Jvm.Cond.methodLink "WeirStreamLaw" (176 : Nat) ({ cls := "WeirStreamLaw", name := "addSink", desc := "(LWeirStream;I[J)I" } : Jvm.MethodName)) ∈ lw_all := lw_in (lw_tb (List.mem_of_getElem? (i := 873) (by decide +kernel))) rfl
theorem wq874 : (Jvm.Cond.static ({ cls := "WeirStreamLaw", name := "addSink", desc := "(LWeirStream;I[J)I" } : Jvm.MethodName)) ∈ lw_all := lw_in (lw_tb (List.mem_of_getElem? (i := 874) (by decide +kernel))) rfl
theorem wq875 : (Jvm.Cond.codeWith ({ cls := "WeirStreamLaw", name := "addSink", desc := "(LWeirStream;I[J)I" } : Jvm.MethodName) method_10_code (4 : Nat) (Option.some Jvm.ClassFile.FieldType.int) [((0 : Nat), (9 : Nat), (12 : Nat), (21 : Nat)), ((0 : Nat), (9 : Nat), (15 : Nat), (13 : Nat)), ((0 : Nat), (9 : Nat), (18 : Nat), (15 : Nat))]) ∈ lw_all := lw_in (lw_tb (List.mem_of_getElem? (i := 875) (by decide +kernel))) rfl
theorem wq876 : (Jvm.Cond.methodLink "WeirStreamLaw" (40 : Nat) ({ cls := "WeirStream", name := "addSink", desc := "(I)I" } : Jvm.MethodName)) ∈ lw_all := lw_in (lw_tb (List.mem_of_getElem? (i := 876) (by decide +kernel))) rfl
theorem wq877 : (Jvm.Cond.instanceMethod ({ cls := "WeirStream", name := "addSink", desc := "(I)I" } : Jvm.MethodName)) ∈ lw_all := lw_in (lw_tb (List.mem_of_getElem? (i := 877) (by decide +kernel))) rfl
theorem wq878 : (Jvm.Cond.selects "WeirStream" ({ cls := "WeirStream", name := "addSink", desc := "(I)I" } : Jvm.MethodName) ({ cls := "WeirStream", name := "addSink", desc := "(I)I" } : Jvm.MethodName)) ∈ lw_all := lw_in (lw_tb (List.mem_of_getElem? (i := 878) (by decide +kernel))) rfl
theorem wq879 : (Jvm.Cond.code ({ cls := "WeirStream", name := "addSink", desc := "(I)I" } : Jvm.MethodName) prog_1_method_9_code (3 : Nat) (Option.some Jvm.ClassFile.FieldType.int)) ∈ lw_all := lw_in (lw_tb (List.mem_of_getElem? (i := 879) (by decide +kernel))) rfl
theorem wq880 : (Jvm.Cond.methodLink "WeirStreamLaw" (179 : Nat) ({ cls := "WeirStreamLaw", name := "start", desc := "(LWeirStream;[J)I" } : Jvm.MethodName)) ∈ lw_all := lw_in (lw_tb (List.mem_of_getElem? (i := 880) (by decide +kernel))) rfl
theorem wq881 : (Jvm.Cond.static ({ cls := "WeirStreamLaw", name := "start", desc := "(LWeirStream;[J)I" } : Jvm.MethodName)) ∈ lw_all := lw_in (lw_tb (List.mem_of_getElem? (i := 881) (by decide +kernel))) rfl
theorem wq882 : (Jvm.Cond.codeWith ({ cls := "WeirStreamLaw", name := "start", desc := "(LWeirStream;[J)I" } : Jvm.MethodName) method_11_code (3 : Nat) (Option.some Jvm.ClassFile.FieldType.int) [((0 : Nat), (8 : Nat), (11 : Nat), (15 : Nat))]) ∈ lw_all := lw_in (lw_tb (List.mem_of_getElem? (i := 882) (by decide +kernel))) rfl
theorem wq883 : (Jvm.Cond.methodLink "WeirStreamLaw" (43 : Nat) ({ cls := "WeirStream", name := "start", desc := "()I" } : Jvm.MethodName)) ∈ lw_all := lw_in (lw_tb (List.mem_of_getElem? (i := 883) (by decide +kernel))) rfl
theorem wq884 : (Jvm.Cond.instanceMethod ({ cls := "WeirStream", name := "start", desc := "()I" } : Jvm.MethodName)) ∈ lw_all := lw_in (lw_tb (List.mem_of_getElem? (i := 884) (by decide +kernel))) rfl
theorem wq885 : (Jvm.Cond.selects "WeirStream" ({ cls := "WeirStream", name := "start", desc := "()I" } : Jvm.MethodName) ({ cls := "WeirStream", name := "start", desc := "()I" } : Jvm.MethodName)) ∈ lw_all := lw_in (lw_tb (List.mem_of_getElem? (i := 885) (by decide +kernel))) rfl
theorem wq886 : (Jvm.Cond.code ({ cls := "WeirStream", name := "start", desc := "()I" } : Jvm.MethodName) prog_1_method_10_code (1 : Nat) (Option.some Jvm.ClassFile.FieldType.int)) ∈ lw_all := lw_in (lw_tb (List.mem_of_getElem? (i := 886) (by decide +kernel))) rfl
theorem wq887 : (Jvm.Cond.methodLink "WeirStreamLaw" (183 : Nat) ({ cls := "WeirStreamLaw", name := "setCapacity", desc := "(LWeirStream;I[J)I" } : Jvm.MethodName)) ∈ lw_all := lw_in (lw_tb (List.mem_of_getElem? (i := 887) (by decide +kernel))) rfl
theorem wq888 : (Jvm.Cond.static ({ cls := "WeirStreamLaw", name := "setCapacity", desc := "(LWeirStream;I[J)I" } : Jvm.MethodName)) ∈ lw_all := lw_in (lw_tb (List.mem_of_getElem? (i := 888) (by decide +kernel))) rfl
theorem wq889 : (Jvm.Cond.codeWith ({ cls := "WeirStreamLaw", name := "setCapacity", desc := "(LWeirStream;I[J)I" } : Jvm.MethodName) method_12_code (4 : Nat) (Option.some Jvm.ClassFile.FieldType.int) [((0 : Nat), (9 : Nat), (12 : Nat), (13 : Nat))]) ∈ lw_all := lw_in (lw_tb (List.mem_of_getElem? (i := 889) (by decide +kernel))) rfl
theorem wq890 : (Jvm.Cond.methodLink "WeirStreamLaw" (47 : Nat) ({ cls := "WeirStream", name := "setCapacity", desc := "(I)I" } : Jvm.MethodName)) ∈ lw_all := lw_in (lw_tb (List.mem_of_getElem? (i := 890) (by decide +kernel))) rfl
theorem wq891 : (Jvm.Cond.instanceMethod ({ cls := "WeirStream", name := "setCapacity", desc := "(I)I" } : Jvm.MethodName)) ∈ lw_all := lw_in (lw_tb (List.mem_of_getElem? (i := 891) (by decide +kernel))) rfl
theorem wq892 : (Jvm.Cond.selects "WeirStream" ({ cls := "WeirStream", name := "setCapacity", desc := "(I)I" } : Jvm.MethodName) ({ cls := "WeirStream", name := "setCapacity", desc := "(I)I" } : Jvm.MethodName)) ∈ lw_all := lw_in (lw_tb (List.mem_of_getElem? (i := 892) (by decide +kernel))) rfl
theorem wq893 : (Jvm.Cond.code ({ cls := "WeirStream", name := "setCapacity", desc := "(I)I" } : Jvm.MethodName) prog_1_method_11_code (3 : Nat) (Option.some Jvm.ClassFile.FieldType.int)) ∈ lw_all := lw_in (lw_tb (List.mem_of_getElem? (i := 893) (by decide +kernel))) rfl
theorem wq894 : (Jvm.Cond.methodLink "WeirStreamLaw" (186 : Nat) ({ cls := "WeirStreamLaw", name := "offer", desc := "(LWeirStream;IIII[J)I" } : Jvm.MethodName)) ∈ lw_all := lw_in (lw_tb (List.mem_of_getElem? (i := 894) (by decide +kernel))) rfl
theorem wq895 : (Jvm.Cond.static ({ cls := "WeirStreamLaw", name := "offer", desc := "(LWeirStream;IIII[J)I" } : Jvm.MethodName)) ∈ lw_all := lw_in (lw_tb (List.mem_of_getElem? (i := 895) (by decide +kernel))) rfl
theorem wq896 : (Jvm.Cond.codeWith ({ cls := "WeirStreamLaw", name := "offer", desc := "(LWeirStream;IIII[J)I" } : Jvm.MethodName) method_13_code (7 : Nat) (Option.some Jvm.ClassFile.FieldType.int) [((0 : Nat), (14 : Nat), (17 : Nat), (21 : Nat)), ((0 : Nat), (14 : Nat), (21 : Nat), (13 : Nat)), ((0 : Nat), (14 : Nat), (25 : Nat), (15 : Nat))]) ∈ lw_all := lw_in (lw_tb (List.mem_of_getElem? (i := 896) (by decide +kernel))) rfl
theorem wq897 : (Jvm.Cond.methodLink "WeirStreamLaw" (50 : Nat) ({ cls := "WeirStream", name := "offer", desc := "(IIII)I" } : Jvm.MethodName)) ∈ lw_all := lw_in (lw_tb (List.mem_of_getElem? (i := 897) (by decide +kernel))) rfl
theorem wq898 : (Jvm.Cond.instanceMethod ({ cls := "WeirStream", name := "offer", desc := "(IIII)I" } : Jvm.MethodName)) ∈ lw_all := lw_in (lw_tb (List.mem_of_getElem? (i := 898) (by decide +kernel))) rfl
theorem wq899 : (Jvm.Cond.selects "WeirStream" ({ cls := "WeirStream", name := "offer", desc := "(IIII)I" } : Jvm.MethodName) ({ cls := "WeirStream", name := "offer", desc := "(IIII)I" } : Jvm.MethodName)) ∈ lw_all := lw_in (lw_tb (List.mem_of_getElem? (i := 899) (by decide +kernel))) rfl
theorem wq900 : (Jvm.Cond.code ({ cls := "WeirStream", name := "offer", desc := "(IIII)I" } : Jvm.MethodName) prog_1_method_12_code (6 : Nat) (Option.some Jvm.ClassFile.FieldType.int)) ∈ lw_all := lw_in (lw_tb (List.mem_of_getElem? (i := 900) (by decide +kernel))) rfl
theorem wq901 : (Jvm.Cond.methodLink "WeirStream" (97 : Nat) ({ cls := "WeirStream", name := "sourceOf", desc := "(I)LWeirStream$Stage;" } : Jvm.MethodName)) ∈ lw_all := lw_in (lw_tb (List.mem_of_getElem? (i := 901) (by decide +kernel))) rfl
theorem wq903 : (Jvm.Cond.instanceMethod ({ cls := "WeirStream", name := "sourceOf", desc := "(I)LWeirStream$Stage;" } : Jvm.MethodName)) ∈ lw_all := lw_in (lw_tb (List.mem_of_getElem? (i := 903) (by decide +kernel))) rfl
theorem wq904 : (Jvm.Cond.code ({ cls := "WeirStream", name := "sourceOf", desc := "(I)LWeirStream$Stage;" } : Jvm.MethodName) prog_1_method_60_code (3 : Nat) (Option.some (Jvm.ClassFile.FieldType.object "WeirStream$Stage"))) ∈ lw_all := lw_in (lw_tb (List.mem_of_getElem? (i := 904) (by decide +kernel))) rfl
theorem wq930 : (Jvm.Cond.methodLink "WeirStreamLaw" (190 : Nat) ({ cls := "WeirStreamLaw", name := "close", desc := "(LWeirStream;I[J)I" } : Jvm.MethodName)) ∈ lw_all := lw_in (lw_tb (List.mem_of_getElem? (i := 930) (by decide +kernel))) rfl
theorem wq931 : (Jvm.Cond.static ({ cls := "WeirStreamLaw", name := "close", desc := "(LWeirStream;I[J)I" } : Jvm.MethodName)) ∈ lw_all := lw_in (lw_tb (List.mem_of_getElem? (i := 931) (by decide +kernel))) rfl
theorem wq932 : (Jvm.Cond.codeWith ({ cls := "WeirStreamLaw", name := "close", desc := "(LWeirStream;I[J)I" } : Jvm.MethodName) method_14_code (4 : Nat) (Option.some Jvm.ClassFile.FieldType.int) [((0 : Nat), (9 : Nat), (12 : Nat), (21 : Nat)), ((0 : Nat), (9 : Nat), (15 : Nat), (13 : Nat)), ((0 : Nat), (9 : Nat), (18 : Nat), (15 : Nat))]) ∈ lw_all := lw_in (lw_tb (List.mem_of_getElem? (i := 932) (by decide +kernel))) rfl
theorem wq933 : (Jvm.Cond.methodLink "WeirStreamLaw" (54 : Nat) ({ cls := "WeirStream", name := "close", desc := "(I)I" } : Jvm.MethodName)) ∈ lw_all := lw_in (lw_tb (List.mem_of_getElem? (i := 933) (by decide +kernel))) rfl
theorem wq934 : (Jvm.Cond.instanceMethod ({ cls := "WeirStream", name := "close", desc := "(I)I" } : Jvm.MethodName)) ∈ lw_all := lw_in (lw_tb (List.mem_of_getElem? (i := 934) (by decide +kernel))) rfl
theorem wq935 : (Jvm.Cond.selects "WeirStream" ({ cls := "WeirStream", name := "close", desc := "(I)I" } : Jvm.MethodName) ({ cls := "WeirStream", name := "close", desc := "(I)I" } : Jvm.MethodName)) ∈ lw_all := lw_in (lw_tb (List.mem_of_getElem? (i := 935) (by decide +kernel))) rfl
theorem wq936 : (Jvm.Cond.code ({ cls := "WeirStream", name := "close", desc := "(I)I" } : Jvm.MethodName) prog_1_method_13_code (3 : Nat) (Option.some Jvm.ClassFile.FieldType.int)) ∈ lw_all := lw_in (lw_tb (List.mem_of_getElem? (i := 936) (by decide +kernel))) rfl
theorem wq937 : (Jvm.Cond.methodLink "WeirStreamLaw" (193 : Nat) ({ cls := "WeirStreamLaw", name := "work", desc := "(LWeirStream;I[J)I" } : Jvm.MethodName)) ∈ lw_all := lw_in (lw_tb (List.mem_of_getElem? (i := 937) (by decide +kernel))) rfl
theorem wq938 : (Jvm.Cond.static ({ cls := "WeirStreamLaw", name := "work", desc := "(LWeirStream;I[J)I" } : Jvm.MethodName)) ∈ lw_all := lw_in (lw_tb (List.mem_of_getElem? (i := 938) (by decide +kernel))) rfl
theorem wq939 : (Jvm.Cond.codeWith ({ cls := "WeirStreamLaw", name := "work", desc := "(LWeirStream;I[J)I" } : Jvm.MethodName) method_15_code (4 : Nat) (Option.some Jvm.ClassFile.FieldType.int) [((0 : Nat), (9 : Nat), (12 : Nat), (13 : Nat)), ((0 : Nat), (9 : Nat), (15 : Nat), (15 : Nat))]) ∈ lw_all := lw_in (lw_tb (List.mem_of_getElem? (i := 939) (by decide +kernel))) rfl
theorem wq940 : (Jvm.Cond.methodLink "WeirStreamLaw" (57 : Nat) ({ cls := "WeirStream", name := "work", desc := "(I)I" } : Jvm.MethodName)) ∈ lw_all := lw_in (lw_tb (List.mem_of_getElem? (i := 940) (by decide +kernel))) rfl
theorem wq941 : (Jvm.Cond.instanceMethod ({ cls := "WeirStream", name := "work", desc := "(I)I" } : Jvm.MethodName)) ∈ lw_all := lw_in (lw_tb (List.mem_of_getElem? (i := 941) (by decide +kernel))) rfl
theorem wq942 : (Jvm.Cond.selects "WeirStream" ({ cls := "WeirStream", name := "work", desc := "(I)I" } : Jvm.MethodName) ({ cls := "WeirStream", name := "work", desc := "(I)I" } : Jvm.MethodName)) ∈ lw_all := lw_in (lw_tb (List.mem_of_getElem? (i := 942) (by decide +kernel))) rfl
theorem wq943 : (Jvm.Cond.code ({ cls := "WeirStream", name := "work", desc := "(I)I" } : Jvm.MethodName) prog_1_method_14_code (3 : Nat) (Option.some Jvm.ClassFile.FieldType.int)) ∈ lw_all := lw_in (lw_tb (List.mem_of_getElem? (i := 943) (by decide +kernel))) rfl
theorem wq944 : (Jvm.Cond.methodLink "WeirStream" (130 : Nat) ({ cls := "WeirStream", name := "refuseUnlessStarted", desc := "()V" } : Jvm.MethodName)) ∈ lw_all := lw_in (lw_tb (List.mem_of_getElem? (i := 944) (by decide +kernel))) rfl
theorem wq946 : (Jvm.Cond.instanceMethod ({ cls := "WeirStream", name := "refuseUnlessStarted", desc := "()V" } : Jvm.MethodName)) ∈ lw_all := lw_in (lw_tb (List.mem_of_getElem? (i := 946) (by decide +kernel))) rfl
theorem wq947 : (Jvm.Cond.code ({ cls := "WeirStream", name := "refuseUnlessStarted", desc := "()V" } : Jvm.MethodName) prog_1_method_57_code (1 : Nat) (Option.none : Option Jvm.ClassFile.FieldType)) ∈ lw_all := lw_in (lw_tb (List.mem_of_getElem? (i := 947) (by decide +kernel))) rfl
theorem wq948 : (Jvm.Cond.methodLink "WeirStream" (136 : Nat) ({ cls := "WeirStream$Flow", name := "step", desc := "(I)Z" } : Jvm.MethodName)) ∈ lw_all := lw_in (lw_tb (List.mem_of_getElem? (i := 948) (by decide +kernel))) rfl
theorem wq949 : (Jvm.Cond.instanceMethod ({ cls := "WeirStream$Flow", name := "step", desc := "(I)Z" } : Jvm.MethodName)) ∈ lw_all := lw_in (lw_tb (List.mem_of_getElem? (i := 949) (by decide +kernel))) rfl
theorem wq950 : (Jvm.Cond.selects "WeirStream$Flow" ({ cls := "WeirStream$Flow", name := "step", desc := "(I)Z" } : Jvm.MethodName) ({ cls := "WeirStream$Flow", name := "step", desc := "(I)Z" } : Jvm.MethodName)) ∈ lw_all := lw_in (lw_tb (List.mem_of_getElem? (i := 950) (by decide +kernel))) rfl
theorem wq951 : (Jvm.Cond.code ({ cls := "WeirStream$Flow", name := "step", desc := "(I)Z" } : Jvm.MethodName) prog_4_method_9_code (8 : Nat) (Option.some Jvm.ClassFile.FieldType.boolean)) ∈ lw_all := lw_in (lw_tb (List.mem_of_getElem? (i := 951) (by decide +kernel))) rfl
theorem wq1169 : (Jvm.Cond.methodLink "WeirStreamLaw" (196 : Nat) ({ cls := "WeirStreamLaw", name := "workAt", desc := "(LWeirStream;I[J)I" } : Jvm.MethodName)) ∈ lw_all := lw_in (lw_tb (List.mem_of_getElem? (i := 1169) (by decide +kernel))) rfl
theorem wq1170 : (Jvm.Cond.static ({ cls := "WeirStreamLaw", name := "workAt", desc := "(LWeirStream;I[J)I" } : Jvm.MethodName)) ∈ lw_all := lw_in (lw_tb (List.mem_of_getElem? (i := 1170) (by decide +kernel))) rfl
theorem wq1171 : (Jvm.Cond.codeWith ({ cls := "WeirStreamLaw", name := "workAt", desc := "(LWeirStream;I[J)I" } : Jvm.MethodName) method_16_code (4 : Nat) (Option.some Jvm.ClassFile.FieldType.int) [((0 : Nat), (16 : Nat), (19 : Nat), (21 : Nat)), ((0 : Nat), (16 : Nat), (22 : Nat), (15 : Nat))]) ∈ lw_all := lw_in (lw_tb (List.mem_of_getElem? (i := 1171) (by decide +kernel))) rfl
theorem wq1172 : (Jvm.Cond.methodLink "WeirStreamLaw" (60 : Nat) ({ cls := "WeirStream", name := "workAt", desc := "(I)Z" } : Jvm.MethodName)) ∈ lw_all := lw_in (lw_tb (List.mem_of_getElem? (i := 1172) (by decide +kernel))) rfl
theorem wq1173 : (Jvm.Cond.instanceMethod ({ cls := "WeirStream", name := "workAt", desc := "(I)Z" } : Jvm.MethodName)) ∈ lw_all := lw_in (lw_tb (List.mem_of_getElem? (i := 1173) (by decide +kernel))) rfl
theorem wq1174 : (Jvm.Cond.selects "WeirStream" ({ cls := "WeirStream", name := "workAt", desc := "(I)Z" } : Jvm.MethodName) ({ cls := "WeirStream", name := "workAt", desc := "(I)Z" } : Jvm.MethodName)) ∈ lw_all := lw_in (lw_tb (List.mem_of_getElem? (i := 1174) (by decide +kernel))) rfl
theorem wq1175 : (Jvm.Cond.code ({ cls := "WeirStream", name := "workAt", desc := "(I)Z" } : Jvm.MethodName) prog_1_method_15_code (3 : Nat) (Option.some Jvm.ClassFile.FieldType.boolean)) ∈ lw_all := lw_in (lw_tb (List.mem_of_getElem? (i := 1175) (by decide +kernel))) rfl
theorem wq1176 : (Jvm.Cond.methodLink "WeirStreamLaw" (199 : Nat) ({ cls := "WeirStreamLaw", name := "checkpoint", desc := "(LWeirStream;[J)I" } : Jvm.MethodName)) ∈ lw_all := lw_in (lw_tb (List.mem_of_getElem? (i := 1176) (by decide +kernel))) rfl
theorem wq1177 : (Jvm.Cond.static ({ cls := "WeirStreamLaw", name := "checkpoint", desc := "(LWeirStream;[J)I" } : Jvm.MethodName)) ∈ lw_all := lw_in (lw_tb (List.mem_of_getElem? (i := 1177) (by decide +kernel))) rfl
theorem wq1178 : (Jvm.Cond.codeWith ({ cls := "WeirStreamLaw", name := "checkpoint", desc := "(LWeirStream;[J)I" } : Jvm.MethodName) method_17_code (3 : Nat) (Option.some Jvm.ClassFile.FieldType.int) [((0 : Nat), (8 : Nat), (11 : Nat), (15 : Nat))]) ∈ lw_all := lw_in (lw_tb (List.mem_of_getElem? (i := 1178) (by decide +kernel))) rfl
theorem wq1179 : (Jvm.Cond.methodLink "WeirStreamLaw" (64 : Nat) ({ cls := "WeirStream", name := "checkpoint", desc := "()I" } : Jvm.MethodName)) ∈ lw_all := lw_in (lw_tb (List.mem_of_getElem? (i := 1179) (by decide +kernel))) rfl
theorem wq1180 : (Jvm.Cond.instanceMethod ({ cls := "WeirStream", name := "checkpoint", desc := "()I" } : Jvm.MethodName)) ∈ lw_all := lw_in (lw_tb (List.mem_of_getElem? (i := 1180) (by decide +kernel))) rfl
theorem wq1181 : (Jvm.Cond.selects "WeirStream" ({ cls := "WeirStream", name := "checkpoint", desc := "()I" } : Jvm.MethodName) ({ cls := "WeirStream", name := "checkpoint", desc := "()I" } : Jvm.MethodName)) ∈ lw_all := lw_in (lw_tb (List.mem_of_getElem? (i := 1181) (by decide +kernel))) rfl
theorem wq1182 : (Jvm.Cond.code ({ cls := "WeirStream", name := "checkpoint", desc := "()I" } : Jvm.MethodName) prog_1_method_16_code (1 : Nat) (Option.some Jvm.ClassFile.FieldType.int)) ∈ lw_all := lw_in (lw_tb (List.mem_of_getElem? (i := 1182) (by decide +kernel))) rfl
theorem wq1187 : (Jvm.Cond.methodLink "WeirStreamLaw" (202 : Nat) ({ cls := "WeirStreamLaw", name := "crash", desc := "(LWeirStream;[J)I" } : Jvm.MethodName)) ∈ lw_all := lw_in (lw_tb (List.mem_of_getElem? (i := 1187) (by decide +kernel))) rfl
theorem wq1188 : (Jvm.Cond.static ({ cls := "WeirStreamLaw", name := "crash", desc := "(LWeirStream;[J)I" } : Jvm.MethodName)) ∈ lw_all := lw_in (lw_tb (List.mem_of_getElem? (i := 1188) (by decide +kernel))) rfl
theorem wq1189 : (Jvm.Cond.codeWith ({ cls := "WeirStreamLaw", name := "crash", desc := "(LWeirStream;[J)I" } : Jvm.MethodName) method_18_code (3 : Nat) (Option.some Jvm.ClassFile.FieldType.int) [((0 : Nat), (8 : Nat), (11 : Nat), (15 : Nat))]) ∈ lw_all := lw_in (lw_tb (List.mem_of_getElem? (i := 1189) (by decide +kernel))) rfl
theorem wq1190 : (Jvm.Cond.methodLink "WeirStreamLaw" (67 : Nat) ({ cls := "WeirStream", name := "crash", desc := "()I" } : Jvm.MethodName)) ∈ lw_all := lw_in (lw_tb (List.mem_of_getElem? (i := 1190) (by decide +kernel))) rfl
theorem wq1191 : (Jvm.Cond.instanceMethod ({ cls := "WeirStream", name := "crash", desc := "()I" } : Jvm.MethodName)) ∈ lw_all := lw_in (lw_tb (List.mem_of_getElem? (i := 1191) (by decide +kernel))) rfl
theorem wq1192 : (Jvm.Cond.selects "WeirStream" ({ cls := "WeirStream", name := "crash", desc := "()I" } : Jvm.MethodName) ({ cls := "WeirStream", name := "crash", desc := "()I" } : Jvm.MethodName)) ∈ lw_all := lw_in (lw_tb (List.mem_of_getElem? (i := 1192) (by decide +kernel))) rfl
theorem wq1193 : (Jvm.Cond.code ({ cls := "WeirStream", name := "crash", desc := "()I" } : Jvm.MethodName) prog_1_method_17_code (1 : Nat) (Option.some Jvm.ClassFile.FieldType.int)) ∈ lw_all := lw_in (lw_tb (List.mem_of_getElem? (i := 1193) (by decide +kernel))) rfl
theorem wq1212 : (Jvm.Cond.methodLink "WeirStreamLaw" (214 : Nat) ({ cls := "WeirStreamLaw", name := "sortOf", desc := "(LWeirStream;I[J)I" } : Jvm.MethodName)) ∈ lw_all := lw_in (lw_tb (List.mem_of_getElem? (i := 1212) (by decide +kernel))) rfl
theorem wq1213 : (Jvm.Cond.static ({ cls := "WeirStreamLaw", name := "sortOf", desc := "(LWeirStream;I[J)I" } : Jvm.MethodName)) ∈ lw_all := lw_in (lw_tb (List.mem_of_getElem? (i := 1213) (by decide +kernel))) rfl
theorem wq1214 : (Jvm.Cond.codeWith ({ cls := "WeirStreamLaw", name := "sortOf", desc := "(LWeirStream;I[J)I" } : Jvm.MethodName) method_19_code (4 : Nat) (Option.some Jvm.ClassFile.FieldType.int) [((0 : Nat), (9 : Nat), (12 : Nat), (21 : Nat))]) ∈ lw_all := lw_in (lw_tb (List.mem_of_getElem? (i := 1214) (by decide +kernel))) rfl
theorem wq1215 : (Jvm.Cond.methodLink "WeirStreamLaw" (70 : Nat) ({ cls := "WeirStream", name := "sortOf", desc := "(I)I" } : Jvm.MethodName)) ∈ lw_all := lw_in (lw_tb (List.mem_of_getElem? (i := 1215) (by decide +kernel))) rfl
theorem wq1216 : (Jvm.Cond.methodLink "WeirStreamLaw" (217 : Nat) ({ cls := "WeirStreamLaw", name := "markOf", desc := "(LWeirStream;I[J)I" } : Jvm.MethodName)) ∈ lw_all := lw_in (lw_tb (List.mem_of_getElem? (i := 1216) (by decide +kernel))) rfl
theorem wq1217 : (Jvm.Cond.static ({ cls := "WeirStreamLaw", name := "markOf", desc := "(LWeirStream;I[J)I" } : Jvm.MethodName)) ∈ lw_all := lw_in (lw_tb (List.mem_of_getElem? (i := 1217) (by decide +kernel))) rfl
theorem wq1218 : (Jvm.Cond.codeWith ({ cls := "WeirStreamLaw", name := "markOf", desc := "(LWeirStream;I[J)I" } : Jvm.MethodName) method_20_code (4 : Nat) (Option.some Jvm.ClassFile.FieldType.int) [((0 : Nat), (9 : Nat), (12 : Nat), (21 : Nat))]) ∈ lw_all := lw_in (lw_tb (List.mem_of_getElem? (i := 1218) (by decide +kernel))) rfl
theorem wq1219 : (Jvm.Cond.methodLink "WeirStreamLaw" (73 : Nat) ({ cls := "WeirStream", name := "markOf", desc := "(I)I" } : Jvm.MethodName)) ∈ lw_all := lw_in (lw_tb (List.mem_of_getElem? (i := 1219) (by decide +kernel))) rfl
theorem wq1220 : (Jvm.Cond.methodLink "WeirStreamLaw" (220 : Nat) ({ cls := "WeirStreamLaw", name := "taken", desc := "(LWeirStream;I[J)I" } : Jvm.MethodName)) ∈ lw_all := lw_in (lw_tb (List.mem_of_getElem? (i := 1220) (by decide +kernel))) rfl
theorem wq1221 : (Jvm.Cond.static ({ cls := "WeirStreamLaw", name := "taken", desc := "(LWeirStream;I[J)I" } : Jvm.MethodName)) ∈ lw_all := lw_in (lw_tb (List.mem_of_getElem? (i := 1221) (by decide +kernel))) rfl
theorem wq1222 : (Jvm.Cond.codeWith ({ cls := "WeirStreamLaw", name := "taken", desc := "(LWeirStream;I[J)I" } : Jvm.MethodName) method_21_code (4 : Nat) (Option.some Jvm.ClassFile.FieldType.int) [((0 : Nat), (9 : Nat), (12 : Nat), (21 : Nat))]) ∈ lw_all := lw_in (lw_tb (List.mem_of_getElem? (i := 1222) (by decide +kernel))) rfl
theorem wq1223 : (Jvm.Cond.methodLink "WeirStreamLaw" (76 : Nat) ({ cls := "WeirStream", name := "taken", desc := "(I)I" } : Jvm.MethodName)) ∈ lw_all := lw_in (lw_tb (List.mem_of_getElem? (i := 1223) (by decide +kernel))) rfl
theorem wq1224 : (Jvm.Cond.methodLink "WeirStreamLaw" (223 : Nat) ({ cls := "WeirStreamLaw", name := "emitted", desc := "(LWeirStream;I[J)I" } : Jvm.MethodName)) ∈ lw_all := lw_in (lw_tb (List.mem_of_getElem? (i := 1224) (by decide +kernel))) rfl
theorem wq1225 : (Jvm.Cond.static ({ cls := "WeirStreamLaw", name := "emitted", desc := "(LWeirStream;I[J)I" } : Jvm.MethodName)) ∈ lw_all := lw_in (lw_tb (List.mem_of_getElem? (i := 1225) (by decide +kernel))) rfl
theorem wq1226 : (Jvm.Cond.codeWith ({ cls := "WeirStreamLaw", name := "emitted", desc := "(LWeirStream;I[J)I" } : Jvm.MethodName) method_22_code (4 : Nat) (Option.some Jvm.ClassFile.FieldType.int) [((0 : Nat), (9 : Nat), (12 : Nat), (21 : Nat))]) ∈ lw_all := lw_in (lw_tb (List.mem_of_getElem? (i := 1226) (by decide +kernel))) rfl
theorem wq1227 : (Jvm.Cond.methodLink "WeirStreamLaw" (79 : Nat) ({ cls := "WeirStream", name := "emitted", desc := "(I)I" } : Jvm.MethodName)) ∈ lw_all := lw_in (lw_tb (List.mem_of_getElem? (i := 1227) (by decide +kernel))) rfl
theorem wq1228 : (Jvm.Cond.methodLink "WeirStreamLaw" (226 : Nat) ({ cls := "WeirStreamLaw", name := "late", desc := "(LWeirStream;I[J)I" } : Jvm.MethodName)) ∈ lw_all := lw_in (lw_tb (List.mem_of_getElem? (i := 1228) (by decide +kernel))) rfl
theorem wq1229 : (Jvm.Cond.static ({ cls := "WeirStreamLaw", name := "late", desc := "(LWeirStream;I[J)I" } : Jvm.MethodName)) ∈ lw_all := lw_in (lw_tb (List.mem_of_getElem? (i := 1229) (by decide +kernel))) rfl
theorem wq1230 : (Jvm.Cond.codeWith ({ cls := "WeirStreamLaw", name := "late", desc := "(LWeirStream;I[J)I" } : Jvm.MethodName) method_23_code (4 : Nat) (Option.some Jvm.ClassFile.FieldType.int) [((0 : Nat), (9 : Nat), (12 : Nat), (21 : Nat))]) ∈ lw_all := lw_in (lw_tb (List.mem_of_getElem? (i := 1230) (by decide +kernel))) rfl
theorem wq1231 : (Jvm.Cond.methodLink "WeirStreamLaw" (82 : Nat) ({ cls := "WeirStream", name := "late", desc := "(I)I" } : Jvm.MethodName)) ∈ lw_all := lw_in (lw_tb (List.mem_of_getElem? (i := 1231) (by decide +kernel))) rfl
theorem wq1232 : (Jvm.Cond.methodLink "WeirStreamLaw" (229 : Nat) ({ cls := "WeirStreamLaw", name := "kept", desc := "(LWeirStream;I[J)I" } : Jvm.MethodName)) ∈ lw_all := lw_in (lw_tb (List.mem_of_getElem? (i := 1232) (by decide +kernel))) rfl
theorem wq1233 : (Jvm.Cond.static ({ cls := "WeirStreamLaw", name := "kept", desc := "(LWeirStream;I[J)I" } : Jvm.MethodName)) ∈ lw_all := lw_in (lw_tb (List.mem_of_getElem? (i := 1233) (by decide +kernel))) rfl
theorem wq1234 : (Jvm.Cond.codeWith ({ cls := "WeirStreamLaw", name := "kept", desc := "(LWeirStream;I[J)I" } : Jvm.MethodName) method_24_code (4 : Nat) (Option.some Jvm.ClassFile.FieldType.int) [((0 : Nat), (9 : Nat), (12 : Nat), (21 : Nat))]) ∈ lw_all := lw_in (lw_tb (List.mem_of_getElem? (i := 1234) (by decide +kernel))) rfl
theorem wq1235 : (Jvm.Cond.methodLink "WeirStreamLaw" (85 : Nat) ({ cls := "WeirStream", name := "kept", desc := "(I)I" } : Jvm.MethodName)) ∈ lw_all := lw_in (lw_tb (List.mem_of_getElem? (i := 1235) (by decide +kernel))) rfl
theorem wq1236 : (Jvm.Cond.methodLink "WeirStreamLaw" (232 : Nat) ({ cls := "WeirStreamLaw", name := "isReady", desc := "(LWeirStream;I[J)I" } : Jvm.MethodName)) ∈ lw_all := lw_in (lw_tb (List.mem_of_getElem? (i := 1236) (by decide +kernel))) rfl
theorem wq1237 : (Jvm.Cond.static ({ cls := "WeirStreamLaw", name := "isReady", desc := "(LWeirStream;I[J)I" } : Jvm.MethodName)) ∈ lw_all := lw_in (lw_tb (List.mem_of_getElem? (i := 1237) (by decide +kernel))) rfl
theorem wq1238 : (Jvm.Cond.codeWith ({ cls := "WeirStreamLaw", name := "isReady", desc := "(LWeirStream;I[J)I" } : Jvm.MethodName) method_25_code (4 : Nat) (Option.some Jvm.ClassFile.FieldType.int) [((0 : Nat), (16 : Nat), (19 : Nat), (21 : Nat))]) ∈ lw_all := lw_in (lw_tb (List.mem_of_getElem? (i := 1238) (by decide +kernel))) rfl
theorem wq1239 : (Jvm.Cond.methodLink "WeirStreamLaw" (88 : Nat) ({ cls := "WeirStream", name := "isReady", desc := "(I)Z" } : Jvm.MethodName)) ∈ lw_all := lw_in (lw_tb (List.mem_of_getElem? (i := 1239) (by decide +kernel))) rfl
theorem wq1240 : (Jvm.Cond.methodLink "WeirStreamLaw" (235 : Nat) ({ cls := "WeirStreamLaw", name := "hasRoom", desc := "(LWeirStream;I[J)I" } : Jvm.MethodName)) ∈ lw_all := lw_in (lw_tb (List.mem_of_getElem? (i := 1240) (by decide +kernel))) rfl
theorem wq1241 : (Jvm.Cond.static ({ cls := "WeirStreamLaw", name := "hasRoom", desc := "(LWeirStream;I[J)I" } : Jvm.MethodName)) ∈ lw_all := lw_in (lw_tb (List.mem_of_getElem? (i := 1241) (by decide +kernel))) rfl
theorem wq1242 : (Jvm.Cond.codeWith ({ cls := "WeirStreamLaw", name := "hasRoom", desc := "(LWeirStream;I[J)I" } : Jvm.MethodName) method_26_code (4 : Nat) (Option.some Jvm.ClassFile.FieldType.int) [((0 : Nat), (16 : Nat), (19 : Nat), (21 : Nat))]) ∈ lw_all := lw_in (lw_tb (List.mem_of_getElem? (i := 1242) (by decide +kernel))) rfl
theorem wq1243 : (Jvm.Cond.methodLink "WeirStreamLaw" (91 : Nat) ({ cls := "WeirStream", name := "hasRoom", desc := "(I)Z" } : Jvm.MethodName)) ∈ lw_all := lw_in (lw_tb (List.mem_of_getElem? (i := 1243) (by decide +kernel))) rfl
theorem wq1244 : (Jvm.Cond.methodLink "WeirStreamLaw" (238 : Nat) ({ cls := "WeirStreamLaw", name := "queued", desc := "(LWeirStream;IZ[J)I" } : Jvm.MethodName)) ∈ lw_all := lw_in (lw_tb (List.mem_of_getElem? (i := 1244) (by decide +kernel))) rfl
theorem wq1245 : (Jvm.Cond.static ({ cls := "WeirStreamLaw", name := "queued", desc := "(LWeirStream;IZ[J)I" } : Jvm.MethodName)) ∈ lw_all := lw_in (lw_tb (List.mem_of_getElem? (i := 1245) (by decide +kernel))) rfl
theorem wq1246 : (Jvm.Cond.codeWith ({ cls := "WeirStreamLaw", name := "queued", desc := "(LWeirStream;IZ[J)I" } : Jvm.MethodName) method_27_code (5 : Nat) (Option.some Jvm.ClassFile.FieldType.int) [((0 : Nat), (10 : Nat), (13 : Nat), (21 : Nat))]) ∈ lw_all := lw_in (lw_tb (List.mem_of_getElem? (i := 1246) (by decide +kernel))) rfl
theorem wq1247 : (Jvm.Cond.methodLink "WeirStreamLaw" (94 : Nat) ({ cls := "WeirStream", name := "queued", desc := "(IZ)I" } : Jvm.MethodName)) ∈ lw_all := lw_in (lw_tb (List.mem_of_getElem? (i := 1247) (by decide +kernel))) rfl
theorem wq1248 : (Jvm.Cond.methodLink "WeirStreamLaw" (242 : Nat) ({ cls := "WeirStreamLaw", name := "isBlocked", desc := "(LWeirStream;IZ[J)I" } : Jvm.MethodName)) ∈ lw_all := lw_in (lw_tb (List.mem_of_getElem? (i := 1248) (by decide +kernel))) rfl
theorem wq1249 : (Jvm.Cond.static ({ cls := "WeirStreamLaw", name := "isBlocked", desc := "(LWeirStream;IZ[J)I" } : Jvm.MethodName)) ∈ lw_all := lw_in (lw_tb (List.mem_of_getElem? (i := 1249) (by decide +kernel))) rfl
theorem wq1250 : (Jvm.Cond.codeWith ({ cls := "WeirStreamLaw", name := "isBlocked", desc := "(LWeirStream;IZ[J)I" } : Jvm.MethodName) method_28_code (5 : Nat) (Option.some Jvm.ClassFile.FieldType.int) [((0 : Nat), (17 : Nat), (20 : Nat), (21 : Nat))]) ∈ lw_all := lw_in (lw_tb (List.mem_of_getElem? (i := 1250) (by decide +kernel))) rfl
theorem wq1251 : (Jvm.Cond.methodLink "WeirStreamLaw" (98 : Nat) ({ cls := "WeirStream", name := "isBlocked", desc := "(IZ)Z" } : Jvm.MethodName)) ∈ lw_all := lw_in (lw_tb (List.mem_of_getElem? (i := 1251) (by decide +kernel))) rfl
theorem wq1252 : (Jvm.Cond.methodLink "WeirStreamLaw" (245 : Nat) ({ cls := "WeirStreamLaw", name := "leads", desc := "(LWeirStream;II[J)I" } : Jvm.MethodName)) ∈ lw_all := lw_in (lw_tb (List.mem_of_getElem? (i := 1252) (by decide +kernel))) rfl
theorem wq1253 : (Jvm.Cond.static ({ cls := "WeirStreamLaw", name := "leads", desc := "(LWeirStream;II[J)I" } : Jvm.MethodName)) ∈ lw_all := lw_in (lw_tb (List.mem_of_getElem? (i := 1253) (by decide +kernel))) rfl
theorem wq1254 : (Jvm.Cond.codeWith ({ cls := "WeirStreamLaw", name := "leads", desc := "(LWeirStream;II[J)I" } : Jvm.MethodName) method_29_code (5 : Nat) (Option.some Jvm.ClassFile.FieldType.int) [((0 : Nat), (17 : Nat), (20 : Nat), (21 : Nat))]) ∈ lw_all := lw_in (lw_tb (List.mem_of_getElem? (i := 1254) (by decide +kernel))) rfl
theorem wq1255 : (Jvm.Cond.methodLink "WeirStreamLaw" (102 : Nat) ({ cls := "WeirStream", name := "leads", desc := "(II)Z" } : Jvm.MethodName)) ∈ lw_all := lw_in (lw_tb (List.mem_of_getElem? (i := 1255) (by decide +kernel))) rfl
theorem wq1256 : (Jvm.Cond.instanceMethod ({ cls := "WeirStream", name := "leads", desc := "(II)Z" } : Jvm.MethodName)) ∈ lw_all := lw_in (lw_tb (List.mem_of_getElem? (i := 1256) (by decide +kernel))) rfl
theorem wq1257 : (Jvm.Cond.selects "WeirStream" ({ cls := "WeirStream", name := "leads", desc := "(II)Z" } : Jvm.MethodName) ({ cls := "WeirStream", name := "leads", desc := "(II)Z" } : Jvm.MethodName)) ∈ lw_all := lw_in (lw_tb (List.mem_of_getElem? (i := 1257) (by decide +kernel))) rfl
theorem wq1258 : (Jvm.Cond.code ({ cls := "WeirStream", name := "leads", desc := "(II)Z" } : Jvm.MethodName) prog_1_method_30_code (3 : Nat) (Option.some Jvm.ClassFile.FieldType.boolean)) ∈ lw_all := lw_in (lw_tb (List.mem_of_getElem? (i := 1258) (by decide +kernel))) rfl
theorem wq1259 : (Jvm.Cond.methodLink "WeirStreamLaw" (248 : Nat) ({ cls := "WeirStreamLaw", name := "depthOf", desc := "(LWeirStream;I[J)I" } : Jvm.MethodName)) ∈ lw_all := lw_in (lw_tb (List.mem_of_getElem? (i := 1259) (by decide +kernel))) rfl
theorem wq1260 : (Jvm.Cond.static ({ cls := "WeirStreamLaw", name := "depthOf", desc := "(LWeirStream;I[J)I" } : Jvm.MethodName)) ∈ lw_all := lw_in (lw_tb (List.mem_of_getElem? (i := 1260) (by decide +kernel))) rfl
theorem wq1261 : (Jvm.Cond.codeWith ({ cls := "WeirStreamLaw", name := "depthOf", desc := "(LWeirStream;I[J)I" } : Jvm.MethodName) method_30_code (4 : Nat) (Option.some Jvm.ClassFile.FieldType.int) [((0 : Nat), (9 : Nat), (12 : Nat), (21 : Nat))]) ∈ lw_all := lw_in (lw_tb (List.mem_of_getElem? (i := 1261) (by decide +kernel))) rfl
theorem wq1262 : (Jvm.Cond.methodLink "WeirStreamLaw" (106 : Nat) ({ cls := "WeirStream", name := "depthOf", desc := "(I)I" } : Jvm.MethodName)) ∈ lw_all := lw_in (lw_tb (List.mem_of_getElem? (i := 1262) (by decide +kernel))) rfl
theorem wq1263 : (Jvm.Cond.methodLink "WeirStreamLaw" (251 : Nat) ({ cls := "WeirStreamLaw", name := "accountAt", desc := "(LWeirStream;III[J)I" } : Jvm.MethodName)) ∈ lw_all := lw_in (lw_tb (List.mem_of_getElem? (i := 1263) (by decide +kernel))) rfl
theorem wq1264 : (Jvm.Cond.static ({ cls := "WeirStreamLaw", name := "accountAt", desc := "(LWeirStream;III[J)I" } : Jvm.MethodName)) ∈ lw_all := lw_in (lw_tb (List.mem_of_getElem? (i := 1264) (by decide +kernel))) rfl
theorem wq1265 : (Jvm.Cond.codeWith ({ cls := "WeirStreamLaw", name := "accountAt", desc := "(LWeirStream;III[J)I" } : Jvm.MethodName) method_31_code (6 : Nat) (Option.some Jvm.ClassFile.FieldType.int) [((0 : Nat), (12 : Nat), (15 : Nat), (21 : Nat)), ((0 : Nat), (12 : Nat), (19 : Nat), (13 : Nat))]) ∈ lw_all := lw_in (lw_tb (List.mem_of_getElem? (i := 1265) (by decide +kernel))) rfl
theorem wq1266 : (Jvm.Cond.methodLink "WeirStreamLaw" (109 : Nat) ({ cls := "WeirStream", name := "accountAt", desc := "(III)I" } : Jvm.MethodName)) ∈ lw_all := lw_in (lw_tb (List.mem_of_getElem? (i := 1266) (by decide +kernel))) rfl
theorem wq1267 : (Jvm.Cond.instanceMethod ({ cls := "WeirStream", name := "accountAt", desc := "(III)I" } : Jvm.MethodName)) ∈ lw_all := lw_in (lw_tb (List.mem_of_getElem? (i := 1267) (by decide +kernel))) rfl
theorem wq1268 : (Jvm.Cond.selects "WeirStream" ({ cls := "WeirStream", name := "accountAt", desc := "(III)I" } : Jvm.MethodName) ({ cls := "WeirStream", name := "accountAt", desc := "(III)I" } : Jvm.MethodName)) ∈ lw_all := lw_in (lw_tb (List.mem_of_getElem? (i := 1268) (by decide +kernel))) rfl
theorem wq1269 : (Jvm.Cond.code ({ cls := "WeirStream", name := "accountAt", desc := "(III)I" } : Jvm.MethodName) prog_1_method_32_code (7 : Nat) (Option.some Jvm.ClassFile.FieldType.int)) ∈ lw_all := lw_in (lw_tb (List.mem_of_getElem? (i := 1269) (by decide +kernel))) rfl
theorem wq1279 : (Jvm.Cond.methodLink "WeirStreamLaw" (254 : Nat) ({ cls := "WeirStreamLaw", name := "nextEnd", desc := "(LWeirStream;I[J)I" } : Jvm.MethodName)) ∈ lw_all := lw_in (lw_tb (List.mem_of_getElem? (i := 1279) (by decide +kernel))) rfl
theorem wq1280 : (Jvm.Cond.static ({ cls := "WeirStreamLaw", name := "nextEnd", desc := "(LWeirStream;I[J)I" } : Jvm.MethodName)) ∈ lw_all := lw_in (lw_tb (List.mem_of_getElem? (i := 1280) (by decide +kernel))) rfl
theorem wq1281 : (Jvm.Cond.codeWith ({ cls := "WeirStreamLaw", name := "nextEnd", desc := "(LWeirStream;I[J)I" } : Jvm.MethodName) method_32_code (4 : Nat) (Option.some Jvm.ClassFile.FieldType.int) [((0 : Nat), (9 : Nat), (12 : Nat), (21 : Nat)), ((0 : Nat), (9 : Nat), (15 : Nat), (13 : Nat))]) ∈ lw_all := lw_in (lw_tb (List.mem_of_getElem? (i := 1281) (by decide +kernel))) rfl
theorem wq1282 : (Jvm.Cond.methodLink "WeirStreamLaw" (112 : Nat) ({ cls := "WeirStream", name := "nextEnd", desc := "(I)I" } : Jvm.MethodName)) ∈ lw_all := lw_in (lw_tb (List.mem_of_getElem? (i := 1282) (by decide +kernel))) rfl
theorem wq1283 : (Jvm.Cond.methodLink "WeirStreamLaw" (257 : Nat) ({ cls := "WeirStreamLaw", name := "outputs", desc := "(LWeirStream;I[J)I" } : Jvm.MethodName)) ∈ lw_all := lw_in (lw_tb (List.mem_of_getElem? (i := 1283) (by decide +kernel))) rfl
theorem wq1284 : (Jvm.Cond.static ({ cls := "WeirStreamLaw", name := "outputs", desc := "(LWeirStream;I[J)I" } : Jvm.MethodName)) ∈ lw_all := lw_in (lw_tb (List.mem_of_getElem? (i := 1284) (by decide +kernel))) rfl
theorem wq1285 : (Jvm.Cond.codeWith ({ cls := "WeirStreamLaw", name := "outputs", desc := "(LWeirStream;I[J)I" } : Jvm.MethodName) method_33_code (4 : Nat) (Option.some Jvm.ClassFile.FieldType.int) [((0 : Nat), (9 : Nat), (12 : Nat), (21 : Nat)), ((0 : Nat), (9 : Nat), (15 : Nat), (13 : Nat))]) ∈ lw_all := lw_in (lw_tb (List.mem_of_getElem? (i := 1285) (by decide +kernel))) rfl
theorem wq1286 : (Jvm.Cond.methodLink "WeirStreamLaw" (115 : Nat) ({ cls := "WeirStream", name := "outputs", desc := "(I)I" } : Jvm.MethodName)) ∈ lw_all := lw_in (lw_tb (List.mem_of_getElem? (i := 1286) (by decide +kernel))) rfl
theorem wq1287 : (Jvm.Cond.methodLink "WeirStreamLaw" (260 : Nat) ({ cls := "WeirStreamLaw", name := "committed", desc := "(LWeirStream;I[J)I" } : Jvm.MethodName)) ∈ lw_all := lw_in (lw_tb (List.mem_of_getElem? (i := 1287) (by decide +kernel))) rfl
theorem wq1288 : (Jvm.Cond.static ({ cls := "WeirStreamLaw", name := "committed", desc := "(LWeirStream;I[J)I" } : Jvm.MethodName)) ∈ lw_all := lw_in (lw_tb (List.mem_of_getElem? (i := 1288) (by decide +kernel))) rfl
theorem wq1289 : (Jvm.Cond.codeWith ({ cls := "WeirStreamLaw", name := "committed", desc := "(LWeirStream;I[J)I" } : Jvm.MethodName) method_34_code (4 : Nat) (Option.some Jvm.ClassFile.FieldType.int) [((0 : Nat), (9 : Nat), (12 : Nat), (21 : Nat)), ((0 : Nat), (9 : Nat), (15 : Nat), (13 : Nat))]) ∈ lw_all := lw_in (lw_tb (List.mem_of_getElem? (i := 1289) (by decide +kernel))) rfl
theorem wq1290 : (Jvm.Cond.methodLink "WeirStreamLaw" (118 : Nat) ({ cls := "WeirStream", name := "committed", desc := "(I)I" } : Jvm.MethodName)) ∈ lw_all := lw_in (lw_tb (List.mem_of_getElem? (i := 1290) (by decide +kernel))) rfl
theorem wq1291 : (Jvm.Cond.methodLink "WeirStreamLaw" (263 : Nat) ({ cls := "WeirStreamLaw", name := "keyAt", desc := "(LWeirStream;II[J)I" } : Jvm.MethodName)) ∈ lw_all := lw_in (lw_tb (List.mem_of_getElem? (i := 1291) (by decide +kernel))) rfl
theorem wq1292 : (Jvm.Cond.static ({ cls := "WeirStreamLaw", name := "keyAt", desc := "(LWeirStream;II[J)I" } : Jvm.MethodName)) ∈ lw_all := lw_in (lw_tb (List.mem_of_getElem? (i := 1292) (by decide +kernel))) rfl
theorem wq1293 : (Jvm.Cond.codeWith ({ cls := "WeirStreamLaw", name := "keyAt", desc := "(LWeirStream;II[J)I" } : Jvm.MethodName) method_35_code (5 : Nat) (Option.some Jvm.ClassFile.FieldType.int) [((0 : Nat), (10 : Nat), (13 : Nat), (21 : Nat)), ((0 : Nat), (10 : Nat), (17 : Nat), (13 : Nat))]) ∈ lw_all := lw_in (lw_tb (List.mem_of_getElem? (i := 1293) (by decide +kernel))) rfl
theorem wq1294 : (Jvm.Cond.methodLink "WeirStreamLaw" (121 : Nat) ({ cls := "WeirStream", name := "keyAt", desc := "(II)I" } : Jvm.MethodName)) ∈ lw_all := lw_in (lw_tb (List.mem_of_getElem? (i := 1294) (by decide +kernel))) rfl
theorem wq1295 : (Jvm.Cond.instanceMethod ({ cls := "WeirStream", name := "keyAt", desc := "(II)I" } : Jvm.MethodName)) ∈ lw_all := lw_in (lw_tb (List.mem_of_getElem? (i := 1295) (by decide +kernel))) rfl
theorem wq1296 : (Jvm.Cond.selects "WeirStream" ({ cls := "WeirStream", name := "keyAt", desc := "(II)I" } : Jvm.MethodName) ({ cls := "WeirStream", name := "keyAt", desc := "(II)I" } : Jvm.MethodName)) ∈ lw_all := lw_in (lw_tb (List.mem_of_getElem? (i := 1296) (by decide +kernel))) rfl
theorem wq1297 : (Jvm.Cond.code ({ cls := "WeirStream", name := "keyAt", desc := "(II)I" } : Jvm.MethodName) prog_1_method_36_code (3 : Nat) (Option.some Jvm.ClassFile.FieldType.int)) ∈ lw_all := lw_in (lw_tb (List.mem_of_getElem? (i := 1297) (by decide +kernel))) rfl
theorem wq1298 : (Jvm.Cond.methodLink "WeirStreamLaw" (266 : Nat) ({ cls := "WeirStreamLaw", name := "valueAt", desc := "(LWeirStream;II[J)I" } : Jvm.MethodName)) ∈ lw_all := lw_in (lw_tb (List.mem_of_getElem? (i := 1298) (by decide +kernel))) rfl
theorem wq1299 : (Jvm.Cond.static ({ cls := "WeirStreamLaw", name := "valueAt", desc := "(LWeirStream;II[J)I" } : Jvm.MethodName)) ∈ lw_all := lw_in (lw_tb (List.mem_of_getElem? (i := 1299) (by decide +kernel))) rfl
theorem wq1300 : (Jvm.Cond.codeWith ({ cls := "WeirStreamLaw", name := "valueAt", desc := "(LWeirStream;II[J)I" } : Jvm.MethodName) method_36_code (5 : Nat) (Option.some Jvm.ClassFile.FieldType.int) [((0 : Nat), (10 : Nat), (13 : Nat), (21 : Nat)), ((0 : Nat), (10 : Nat), (17 : Nat), (13 : Nat))]) ∈ lw_all := lw_in (lw_tb (List.mem_of_getElem? (i := 1300) (by decide +kernel))) rfl
theorem wq1301 : (Jvm.Cond.methodLink "WeirStreamLaw" (124 : Nat) ({ cls := "WeirStream", name := "valueAt", desc := "(II)I" } : Jvm.MethodName)) ∈ lw_all := lw_in (lw_tb (List.mem_of_getElem? (i := 1301) (by decide +kernel))) rfl
theorem wq1302 : (Jvm.Cond.instanceMethod ({ cls := "WeirStream", name := "valueAt", desc := "(II)I" } : Jvm.MethodName)) ∈ lw_all := lw_in (lw_tb (List.mem_of_getElem? (i := 1302) (by decide +kernel))) rfl
theorem wq1303 : (Jvm.Cond.selects "WeirStream" ({ cls := "WeirStream", name := "valueAt", desc := "(II)I" } : Jvm.MethodName) ({ cls := "WeirStream", name := "valueAt", desc := "(II)I" } : Jvm.MethodName)) ∈ lw_all := lw_in (lw_tb (List.mem_of_getElem? (i := 1303) (by decide +kernel))) rfl
theorem wq1304 : (Jvm.Cond.code ({ cls := "WeirStream", name := "valueAt", desc := "(II)I" } : Jvm.MethodName) prog_1_method_37_code (3 : Nat) (Option.some Jvm.ClassFile.FieldType.int)) ∈ lw_all := lw_in (lw_tb (List.mem_of_getElem? (i := 1304) (by decide +kernel))) rfl
theorem wq1305 : (Jvm.Cond.methodLink "WeirStreamLaw" (269 : Nat) ({ cls := "WeirStreamLaw", name := "timeAt", desc := "(LWeirStream;II[J)I" } : Jvm.MethodName)) ∈ lw_all := lw_in (lw_tb (List.mem_of_getElem? (i := 1305) (by decide +kernel))) rfl
theorem wq1306 : (Jvm.Cond.static ({ cls := "WeirStreamLaw", name := "timeAt", desc := "(LWeirStream;II[J)I" } : Jvm.MethodName)) ∈ lw_all := lw_in (lw_tb (List.mem_of_getElem? (i := 1306) (by decide +kernel))) rfl
theorem wq1307 : (Jvm.Cond.codeWith ({ cls := "WeirStreamLaw", name := "timeAt", desc := "(LWeirStream;II[J)I" } : Jvm.MethodName) method_37_code (5 : Nat) (Option.some Jvm.ClassFile.FieldType.int) [((0 : Nat), (10 : Nat), (13 : Nat), (21 : Nat)), ((0 : Nat), (10 : Nat), (17 : Nat), (13 : Nat))]) ∈ lw_all := lw_in (lw_tb (List.mem_of_getElem? (i := 1307) (by decide +kernel))) rfl
theorem wq1308 : (Jvm.Cond.methodLink "WeirStreamLaw" (127 : Nat) ({ cls := "WeirStream", name := "timeAt", desc := "(II)I" } : Jvm.MethodName)) ∈ lw_all := lw_in (lw_tb (List.mem_of_getElem? (i := 1308) (by decide +kernel))) rfl
theorem wq1309 : (Jvm.Cond.instanceMethod ({ cls := "WeirStream", name := "timeAt", desc := "(II)I" } : Jvm.MethodName)) ∈ lw_all := lw_in (lw_tb (List.mem_of_getElem? (i := 1309) (by decide +kernel))) rfl
theorem wq1310 : (Jvm.Cond.selects "WeirStream" ({ cls := "WeirStream", name := "timeAt", desc := "(II)I" } : Jvm.MethodName) ({ cls := "WeirStream", name := "timeAt", desc := "(II)I" } : Jvm.MethodName)) ∈ lw_all := lw_in (lw_tb (List.mem_of_getElem? (i := 1310) (by decide +kernel))) rfl
theorem wq1311 : (Jvm.Cond.code ({ cls := "WeirStream", name := "timeAt", desc := "(II)I" } : Jvm.MethodName) prog_1_method_38_code (3 : Nat) (Option.some Jvm.ClassFile.FieldType.int)) ∈ lw_all := lw_in (lw_tb (List.mem_of_getElem? (i := 1311) (by decide +kernel))) rfl
theorem wq1312 : (Jvm.Cond.methodLink "WeirStreamLaw" (301 : Nat) ({ cls := "WeirStreamLaw", name := "itemsToRest", desc := "(LWeirStream;I[J)I" } : Jvm.MethodName)) ∈ lw_all := lw_in (lw_tb (List.mem_of_getElem? (i := 1312) (by decide +kernel))) rfl
theorem wq1313 : (Jvm.Cond.static ({ cls := "WeirStreamLaw", name := "itemsToRest", desc := "(LWeirStream;I[J)I" } : Jvm.MethodName)) ∈ lw_all := lw_in (lw_tb (List.mem_of_getElem? (i := 1313) (by decide +kernel))) rfl
theorem wq1314 : (Jvm.Cond.codeWith ({ cls := "WeirStreamLaw", name := "itemsToRest", desc := "(LWeirStream;I[J)I" } : Jvm.MethodName) method_38_code (4 : Nat) (Option.some Jvm.ClassFile.FieldType.int) [((0 : Nat), (9 : Nat), (12 : Nat), (13 : Nat))]) ∈ lw_all := lw_in (lw_tb (List.mem_of_getElem? (i := 1314) (by decide +kernel))) rfl
theorem wq1315 : (Jvm.Cond.methodLink "WeirStreamLaw" (130 : Nat) ({ cls := "WeirStream", name := "itemsToRest", desc := "(I)I" } : Jvm.MethodName)) ∈ lw_all := lw_in (lw_tb (List.mem_of_getElem? (i := 1315) (by decide +kernel))) rfl
theorem wq1316 : (Jvm.Cond.instanceMethod ({ cls := "WeirStream", name := "itemsToRest", desc := "(I)I" } : Jvm.MethodName)) ∈ lw_all := lw_in (lw_tb (List.mem_of_getElem? (i := 1316) (by decide +kernel))) rfl
theorem wq1317 : (Jvm.Cond.selects "WeirStream" ({ cls := "WeirStream", name := "itemsToRest", desc := "(I)I" } : Jvm.MethodName) ({ cls := "WeirStream", name := "itemsToRest", desc := "(I)I" } : Jvm.MethodName)) ∈ lw_all := lw_in (lw_tb (List.mem_of_getElem? (i := 1317) (by decide +kernel))) rfl
theorem wq1318 : (Jvm.Cond.code ({ cls := "WeirStream", name := "itemsToRest", desc := "(I)I" } : Jvm.MethodName) prog_1_method_46_code (3 : Nat) (Option.some Jvm.ClassFile.FieldType.int)) ∈ lw_all := lw_in (lw_tb (List.mem_of_getElem? (i := 1318) (by decide +kernel))) rfl
theorem wq1319 : (Jvm.Cond.methodLink "WeirStream" (266 : Nat) ({ cls := "WeirStream$Flow", name := "become", desc := "(LWeirStream$Flow;)V" } : Jvm.MethodName)) ∈ lw_all := lw_in (lw_tb (List.mem_of_getElem? (i := 1319) (by decide +kernel))) rfl
theorem wq1320 : (Jvm.Cond.instanceMethod ({ cls := "WeirStream$Flow", name := "become", desc := "(LWeirStream$Flow;)V" } : Jvm.MethodName)) ∈ lw_all := lw_in (lw_tb (List.mem_of_getElem? (i := 1320) (by decide +kernel))) rfl
theorem wq1321 : (Jvm.Cond.selects "WeirStream$Flow" ({ cls := "WeirStream$Flow", name := "become", desc := "(LWeirStream$Flow;)V" } : Jvm.MethodName) ({ cls := "WeirStream$Flow", name := "become", desc := "(LWeirStream$Flow;)V" } : Jvm.MethodName)) ∈ lw_all := lw_in (lw_tb (List.mem_of_getElem? (i := 1321) (by decide +kernel))) rfl
theorem wq1322 : (Jvm.Cond.code ({ cls := "WeirStream$Flow", name := "become", desc := "(LWeirStream$Flow;)V" } : Jvm.MethodName) prog_4_method_15_code (3 : Nat) (Option.none : Option Jvm.ClassFile.FieldType)) ∈ lw_all := lw_in (lw_tb (List.mem_of_getElem? (i := 1322) (by decide +kernel))) rfl
theorem wq1332 : (Jvm.Cond.methodLink "WeirStreamLaw" (304 : Nat) ({ cls := "WeirStreamLaw", name := "outputsIn", desc := "(LWeirStream;II[J)I" } : Jvm.MethodName)) ∈ lw_all := lw_in (lw_tb (List.mem_of_getElem? (i := 1332) (by decide +kernel))) rfl
theorem wq1333 : (Jvm.Cond.static ({ cls := "WeirStreamLaw", name := "outputsIn", desc := "(LWeirStream;II[J)I" } : Jvm.MethodName)) ∈ lw_all := lw_in (lw_tb (List.mem_of_getElem? (i := 1333) (by decide +kernel))) rfl
theorem wq1334 : (Jvm.Cond.codeWith ({ cls := "WeirStreamLaw", name := "outputsIn", desc := "(LWeirStream;II[J)I" } : Jvm.MethodName) method_39_code (5 : Nat) (Option.some Jvm.ClassFile.FieldType.int) [((0 : Nat), (10 : Nat), (13 : Nat), (21 : Nat)), ((0 : Nat), (10 : Nat), (17 : Nat), (13 : Nat))]) ∈ lw_all := lw_in (lw_tb (List.mem_of_getElem? (i := 1334) (by decide +kernel))) rfl
theorem wq1335 : (Jvm.Cond.methodLink "WeirStreamLaw" (133 : Nat) ({ cls := "WeirStream", name := "outputsIn", desc := "(II)I" } : Jvm.MethodName)) ∈ lw_all := lw_in (lw_tb (List.mem_of_getElem? (i := 1335) (by decide +kernel))) rfl
theorem wq1336 : (Jvm.Cond.instanceMethod ({ cls := "WeirStream", name := "outputsIn", desc := "(II)I" } : Jvm.MethodName)) ∈ lw_all := lw_in (lw_tb (List.mem_of_getElem? (i := 1336) (by decide +kernel))) rfl
theorem wq1337 : (Jvm.Cond.selects "WeirStream" ({ cls := "WeirStream", name := "outputsIn", desc := "(II)I" } : Jvm.MethodName) ({ cls := "WeirStream", name := "outputsIn", desc := "(II)I" } : Jvm.MethodName)) ∈ lw_all := lw_in (lw_tb (List.mem_of_getElem? (i := 1337) (by decide +kernel))) rfl
theorem wq1338 : (Jvm.Cond.code ({ cls := "WeirStream", name := "outputsIn", desc := "(II)I" } : Jvm.MethodName) prog_1_method_47_code (6 : Nat) (Option.some Jvm.ClassFile.FieldType.int)) ∈ lw_all := lw_in (lw_tb (List.mem_of_getElem? (i := 1338) (by decide +kernel))) rfl
theorem wq1339 : (Jvm.Cond.methodLink "WeirStreamLaw" (307 : Nat) ({ cls := "WeirStreamLaw", name := "wouldLose", desc := "(LWeirStream;I[J)I" } : Jvm.MethodName)) ∈ lw_all := lw_in (lw_tb (List.mem_of_getElem? (i := 1339) (by decide +kernel))) rfl
theorem wq1340 : (Jvm.Cond.static ({ cls := "WeirStreamLaw", name := "wouldLose", desc := "(LWeirStream;I[J)I" } : Jvm.MethodName)) ∈ lw_all := lw_in (lw_tb (List.mem_of_getElem? (i := 1340) (by decide +kernel))) rfl
theorem wq1341 : (Jvm.Cond.codeWith ({ cls := "WeirStreamLaw", name := "wouldLose", desc := "(LWeirStream;I[J)I" } : Jvm.MethodName) method_40_code (4 : Nat) (Option.some Jvm.ClassFile.FieldType.int) [((0 : Nat), (9 : Nat), (12 : Nat), (21 : Nat)), ((0 : Nat), (9 : Nat), (15 : Nat), (13 : Nat))]) ∈ lw_all := lw_in (lw_tb (List.mem_of_getElem? (i := 1341) (by decide +kernel))) rfl
theorem wq1342 : (Jvm.Cond.methodLink "WeirStreamLaw" (136 : Nat) ({ cls := "WeirStream", name := "wouldLose", desc := "(I)I" } : Jvm.MethodName)) ∈ lw_all := lw_in (lw_tb (List.mem_of_getElem? (i := 1342) (by decide +kernel))) rfl
theorem wq1343 : (Jvm.Cond.instanceMethod ({ cls := "WeirStream", name := "wouldLose", desc := "(I)I" } : Jvm.MethodName)) ∈ lw_all := lw_in (lw_tb (List.mem_of_getElem? (i := 1343) (by decide +kernel))) rfl
theorem wq1344 : (Jvm.Cond.selects "WeirStream" ({ cls := "WeirStream", name := "wouldLose", desc := "(I)I" } : Jvm.MethodName) ({ cls := "WeirStream", name := "wouldLose", desc := "(I)I" } : Jvm.MethodName)) ∈ lw_all := lw_in (lw_tb (List.mem_of_getElem? (i := 1344) (by decide +kernel))) rfl
theorem wq1345 : (Jvm.Cond.code ({ cls := "WeirStream", name := "wouldLose", desc := "(I)I" } : Jvm.MethodName) prog_1_method_48_code (3 : Nat) (Option.some Jvm.ClassFile.FieldType.int)) ∈ lw_all := lw_in (lw_tb (List.mem_of_getElem? (i := 1345) (by decide +kernel))) rfl
theorem wq1346 : (Jvm.Cond.methodLink "WeirStreamLaw" (310 : Nat) ({ cls := "WeirStreamLaw", name := "wouldReplay", desc := "(LWeirStream;I[J)I" } : Jvm.MethodName)) ∈ lw_all := lw_in (lw_tb (List.mem_of_getElem? (i := 1346) (by decide +kernel))) rfl
theorem wq1347 : (Jvm.Cond.static ({ cls := "WeirStreamLaw", name := "wouldReplay", desc := "(LWeirStream;I[J)I" } : Jvm.MethodName)) ∈ lw_all := lw_in (lw_tb (List.mem_of_getElem? (i := 1347) (by decide +kernel))) rfl
theorem wq1348 : (Jvm.Cond.codeWith ({ cls := "WeirStreamLaw", name := "wouldReplay", desc := "(LWeirStream;I[J)I" } : Jvm.MethodName) method_41_code (4 : Nat) (Option.some Jvm.ClassFile.FieldType.int) [((0 : Nat), (9 : Nat), (12 : Nat), (21 : Nat)), ((0 : Nat), (9 : Nat), (15 : Nat), (13 : Nat))]) ∈ lw_all := lw_in (lw_tb (List.mem_of_getElem? (i := 1348) (by decide +kernel))) rfl
theorem wq1349 : (Jvm.Cond.methodLink "WeirStreamLaw" (139 : Nat) ({ cls := "WeirStream", name := "wouldReplay", desc := "(I)I" } : Jvm.MethodName)) ∈ lw_all := lw_in (lw_tb (List.mem_of_getElem? (i := 1349) (by decide +kernel))) rfl
theorem wq1350 : (Jvm.Cond.instanceMethod ({ cls := "WeirStream", name := "wouldReplay", desc := "(I)I" } : Jvm.MethodName)) ∈ lw_all := lw_in (lw_tb (List.mem_of_getElem? (i := 1350) (by decide +kernel))) rfl
theorem wq1351 : (Jvm.Cond.selects "WeirStream" ({ cls := "WeirStream", name := "wouldReplay", desc := "(I)I" } : Jvm.MethodName) ({ cls := "WeirStream", name := "wouldReplay", desc := "(I)I" } : Jvm.MethodName)) ∈ lw_all := lw_in (lw_tb (List.mem_of_getElem? (i := 1351) (by decide +kernel))) rfl
theorem wq1352 : (Jvm.Cond.code ({ cls := "WeirStream", name := "wouldReplay", desc := "(I)I" } : Jvm.MethodName) prog_1_method_49_code (3 : Nat) (Option.some Jvm.ClassFile.FieldType.int)) ∈ lw_all := lw_in (lw_tb (List.mem_of_getElem? (i := 1352) (by decide +kernel))) rfl
theorem wq1353 : (Jvm.Cond.classLink "WeirStreamLaw" (143 : Nat) "WeirStreamModel") ∈ lw_all := lw_in (lw_tb (List.mem_of_getElem? (i := 1353) (by decide +kernel))) rfl
theorem wq1354 : (Jvm.Cond.instantiable "WeirStreamModel" (11 : Nat)) ∈ lw_all := lw_in (lw_tb (List.mem_of_getElem? (i := 1354) (by decide +kernel))) rfl
theorem wq1355 : (Jvm.Cond.methodLink "WeirStreamLaw" (145 : Nat) ({ cls := "WeirStreamModel", name := "<init>", desc := "()V" } : Jvm.MethodName)) ∈ lw_all := lw_in (lw_tb (List.mem_of_getElem? (i := 1355) (by decide +kernel))) rfl
theorem wq1356 : (Jvm.Cond.instanceMethod ({ cls := "WeirStreamModel", name := "<init>", desc := "()V" } : Jvm.MethodName)) ∈ lw_all := lw_in (lw_tb (List.mem_of_getElem? (i := 1356) (by decide +kernel))) rfl
theorem wq1357 : (Jvm.Cond.code ({ cls := "WeirStreamModel", name := "<init>", desc := "()V" } : Jvm.MethodName) prog_13_method_1_code (1 : Nat) (Option.none : Option Jvm.ClassFile.FieldType)) ∈ lw_all := lw_in (lw_tb (List.mem_of_getElem? (i := 1357) (by decide +kernel))) rfl
theorem wq1467 : (Jvm.Cond.fieldLink "WeirStreamModel$State" (65 : Nat) "WeirStreamModel$State" "begun" "I") ∈ lw_all := lw_in (lw_tb (List.mem_of_getElem? (i := 1467) (by decide +kernel))) rfl
theorem wq1469 : (Jvm.Cond.fieldLink "WeirStreamModel$State" (68 : Nat) "WeirStreamModel$State" "complete" "I") ∈ lw_all := lw_in (lw_tb (List.mem_of_getElem? (i := 1469) (by decide +kernel))) rfl
theorem wq1471 : (Jvm.Cond.fieldLink "WeirStreamModel$State" (71 : Nat) "WeirStreamModel$State" "numbers" "I") ∈ lw_all := lw_in (lw_tb (List.mem_of_getElem? (i := 1471) (by decide +kernel))) rfl
theorem wq1472 : (Jvm.Cond.fieldLink "WeirStreamModel$State" (74 : Nat) "WeirStreamModel$State" "crashes" "I") ∈ lw_all := lw_in (lw_tb (List.mem_of_getElem? (i := 1472) (by decide +kernel))) rfl
theorem wq1474 : (Jvm.Cond.fieldLink "WeirStreamModel$State" (77 : Nat) "WeirStreamModel$State" "worked" "I") ∈ lw_all := lw_in (lw_tb (List.mem_of_getElem? (i := 1474) (by decide +kernel))) rfl
theorem wq1528 : (Jvm.Cond.fieldLink "WeirStreamModel" (47 : Nat) "WeirStreamModel" "stages" "I") ∈ lw_all := lw_in (lw_tb (List.mem_of_getElem? (i := 1528) (by decide +kernel))) rfl
theorem wq1529 : (Jvm.Cond.fieldLink "WeirStreamModel" (58 : Nat) "WeirStreamModel" "isStarted" "Z") ∈ lw_all := lw_in (lw_tb (List.mem_of_getElem? (i := 1529) (by decide +kernel))) rfl
theorem wq1542 : (Jvm.Cond.fieldLink "WeirStreamModel" (43 : Nat) "WeirStreamModel" "thrown" "I") ∈ lw_all := lw_in (lw_tb (List.mem_of_getElem? (i := 1542) (by decide +kernel))) rfl
theorem wq1543 : (Jvm.Cond.fieldLink "WeirStreamModel" (233 : Nat) "WeirStreamModel" "sum" "J") ∈ lw_all := lw_in (lw_tb (List.mem_of_getElem? (i := 1543) (by decide +kernel))) rfl
theorem wq1567 : (Jvm.Cond.methodLink "WeirStreamLaw" (152 : Nat) ({ cls := "WeirStreamModel", name := "thrown", desc := "()I" } : Jvm.MethodName)) ∈ lw_all := lw_in (lw_tb (List.mem_of_getElem? (i := 1567) (by decide +kernel))) rfl
theorem wq1568 : (Jvm.Cond.instanceMethod ({ cls := "WeirStreamModel", name := "thrown", desc := "()I" } : Jvm.MethodName)) ∈ lw_all := lw_in (lw_tb (List.mem_of_getElem? (i := 1568) (by decide +kernel))) rfl
theorem wq1569 : (Jvm.Cond.selects "WeirStreamModel" ({ cls := "WeirStreamModel", name := "thrown", desc := "()I" } : Jvm.MethodName) ({ cls := "WeirStreamModel", name := "thrown", desc := "()I" } : Jvm.MethodName)) ∈ lw_all := lw_in (lw_tb (List.mem_of_getElem? (i := 1569) (by decide +kernel))) rfl
theorem wq1570 : (Jvm.Cond.code ({ cls := "WeirStreamModel", name := "thrown", desc := "()I" } : Jvm.MethodName) prog_13_method_2_code (1 : Nat) (Option.some Jvm.ClassFile.FieldType.int)) ∈ lw_all := lw_in (lw_tb (List.mem_of_getElem? (i := 1570) (by decide +kernel))) rfl
theorem wq1571 : (Jvm.Cond.methodLink "WeirStreamLaw" (151 : Nat) ({ cls := "WeirStreamModel", name := "addSource", desc := "(I)I" } : Jvm.MethodName)) ∈ lw_all := lw_in (lw_tb (List.mem_of_getElem? (i := 1571) (by decide +kernel))) rfl
theorem wq1572 : (Jvm.Cond.instanceMethod ({ cls := "WeirStreamModel", name := "addSource", desc := "(I)I" } : Jvm.MethodName)) ∈ lw_all := lw_in (lw_tb (List.mem_of_getElem? (i := 1572) (by decide +kernel))) rfl
theorem wq1573 : (Jvm.Cond.selects "WeirStreamModel" ({ cls := "WeirStreamModel", name := "addSource", desc := "(I)I" } : Jvm.MethodName) ({ cls := "WeirStreamModel", name := "addSource", desc := "(I)I" } : Jvm.MethodName)) ∈ lw_all := lw_in (lw_tb (List.mem_of_getElem? (i := 1573) (by decide +kernel))) rfl
theorem wq1574 : (Jvm.Cond.code ({ cls := "WeirStreamModel", name := "addSource", desc := "(I)I" } : Jvm.MethodName) prog_13_method_8_code (2 : Nat) (Option.some Jvm.ClassFile.FieldType.int)) ∈ lw_all := lw_in (lw_tb (List.mem_of_getElem? (i := 1574) (by decide +kernel))) rfl
theorem wq1575 : (Jvm.Cond.methodLink "WeirStreamModel" (50 : Nat) ({ cls := "WeirStreamModel", name := "is", desc := "(III)Z" } : Jvm.MethodName)) ∈ lw_all := lw_in (lw_tb (List.mem_of_getElem? (i := 1575) (by decide +kernel))) rfl
theorem wq1576 : (Jvm.Cond.static ({ cls := "WeirStreamModel", name := "is", desc := "(III)Z" } : Jvm.MethodName)) ∈ lw_all := lw_in (lw_tb (List.mem_of_getElem? (i := 1576) (by decide +kernel))) rfl
theorem wq1577 : (Jvm.Cond.code ({ cls := "WeirStreamModel", name := "is", desc := "(III)Z" } : Jvm.MethodName) prog_13_method_4_code (3 : Nat) (Option.some Jvm.ClassFile.FieldType.boolean)) ∈ lw_all := lw_in (lw_tb (List.mem_of_getElem? (i := 1577) (by decide +kernel))) rfl
theorem wq1578 : (Jvm.Cond.methodLink "WeirStreamModel" (75 : Nat) ({ cls := "WeirStreamModel", name := "add", desc := "(IIII[I)I" } : Jvm.MethodName)) ∈ lw_all := lw_in (lw_tb (List.mem_of_getElem? (i := 1578) (by decide +kernel))) rfl
theorem wq1580 : (Jvm.Cond.instanceMethod ({ cls := "WeirStreamModel", name := "add", desc := "(IIII[I)I" } : Jvm.MethodName)) ∈ lw_all := lw_in (lw_tb (List.mem_of_getElem? (i := 1580) (by decide +kernel))) rfl
theorem wq1581 : (Jvm.Cond.code ({ cls := "WeirStreamModel", name := "add", desc := "(IIII[I)I" } : Jvm.MethodName) prog_13_method_7_code (7 : Nat) (Option.some Jvm.ClassFile.FieldType.int)) ∈ lw_all := lw_in (lw_tb (List.mem_of_getElem? (i := 1581) (by decide +kernel))) rfl
theorem wq1582 : (Jvm.Cond.methodLink "WeirStreamModel" (62 : Nat) ({ cls := "WeirStreamModel", name := "refuse", desc := "(I)I" } : Jvm.MethodName)) ∈ lw_all := lw_in (lw_tb (List.mem_of_getElem? (i := 1582) (by decide +kernel))) rfl
theorem wq1584 : (Jvm.Cond.instanceMethod ({ cls := "WeirStreamModel", name := "refuse", desc := "(I)I" } : Jvm.MethodName)) ∈ lw_all := lw_in (lw_tb (List.mem_of_getElem? (i := 1584) (by decide +kernel))) rfl
theorem wq1585 : (Jvm.Cond.code ({ cls := "WeirStreamModel", name := "refuse", desc := "(I)I" } : Jvm.MethodName) prog_13_method_3_code (2 : Nat) (Option.some Jvm.ClassFile.FieldType.int)) ∈ lw_all := lw_in (lw_tb (List.mem_of_getElem? (i := 1585) (by decide +kernel))) rfl
theorem wq1586 : (Jvm.Cond.methodLink "WeirStreamModel" (66 : Nat) ({ cls := "java/lang/System", name := "arraycopy", desc := "(Ljava/lang/Object;ILjava/lang/Object;II)V" } : Jvm.MethodName)) ∈ lw_all := lw_in (lw_tb (List.mem_of_getElem? (i := 1586) (by decide +kernel))) rfl
theorem wq1587 : (Jvm.Cond.methodLink "WeirStreamModel" (72 : Nat) ({ cls := "WeirStreamModel$Rows", name := "<init>", desc := "(I)V" } : Jvm.MethodName)) ∈ lw_all := lw_in (lw_tb (List.mem_of_getElem? (i := 1587) (by decide +kernel))) rfl
theorem wq1588 : (Jvm.Cond.methodLink "WeirStreamLaw" (158 : Nat) ({ cls := "WeirStreamModel", name := "addFilter", desc := "(III)I" } : Jvm.MethodName)) ∈ lw_all := lw_in (lw_tb (List.mem_of_getElem? (i := 1588) (by decide +kernel))) rfl
theorem wq1589 : (Jvm.Cond.instanceMethod ({ cls := "WeirStreamModel", name := "addFilter", desc := "(III)I" } : Jvm.MethodName)) ∈ lw_all := lw_in (lw_tb (List.mem_of_getElem? (i := 1589) (by decide +kernel))) rfl
theorem wq1590 : (Jvm.Cond.selects "WeirStreamModel" ({ cls := "WeirStreamModel", name := "addFilter", desc := "(III)I" } : Jvm.MethodName) ({ cls := "WeirStreamModel", name := "addFilter", desc := "(III)I" } : Jvm.MethodName)) ∈ lw_all := lw_in (lw_tb (List.mem_of_getElem? (i := 1590) (by decide +kernel))) rfl
theorem wq1591 : (Jvm.Cond.code ({ cls := "WeirStreamModel", name := "addFilter", desc := "(III)I" } : Jvm.MethodName) prog_13_method_10_code (4 : Nat) (Option.some Jvm.ClassFile.FieldType.int)) ∈ lw_all := lw_in (lw_tb (List.mem_of_getElem? (i := 1591) (by decide +kernel))) rfl
theorem wq1592 : (Jvm.Cond.methodLink "WeirStreamModel" (82 : Nat) ({ cls := "WeirStreamModel", name := "canBegin", desc := "(II)Z" } : Jvm.MethodName)) ∈ lw_all := lw_in (lw_tb (List.mem_of_getElem? (i := 1592) (by decide +kernel))) rfl
theorem wq1594 : (Jvm.Cond.instanceMethod ({ cls := "WeirStreamModel", name := "canBegin", desc := "(II)Z" } : Jvm.MethodName)) ∈ lw_all := lw_in (lw_tb (List.mem_of_getElem? (i := 1594) (by decide +kernel))) rfl
theorem wq1595 : (Jvm.Cond.code ({ cls := "WeirStreamModel", name := "canBegin", desc := "(II)Z" } : Jvm.MethodName) prog_13_method_9_code (3 : Nat) (Option.some Jvm.ClassFile.FieldType.boolean)) ∈ lw_all := lw_in (lw_tb (List.mem_of_getElem? (i := 1595) (by decide +kernel))) rfl
theorem wq1596 : (Jvm.Cond.methodLink "WeirStreamModel" (54 : Nat) ({ cls := "WeirStreamModel", name := "isStage", desc := "(I)Z" } : Jvm.MethodName)) ∈ lw_all := lw_in (lw_tb (List.mem_of_getElem? (i := 1596) (by decide +kernel))) rfl
theorem wq1598 : (Jvm.Cond.instanceMethod ({ cls := "WeirStreamModel", name := "isStage", desc := "(I)Z" } : Jvm.MethodName)) ∈ lw_all := lw_in (lw_tb (List.mem_of_getElem? (i := 1598) (by decide +kernel))) rfl
theorem wq1599 : (Jvm.Cond.code ({ cls := "WeirStreamModel", name := "isStage", desc := "(I)Z" } : Jvm.MethodName) prog_13_method_5_code (2 : Nat) (Option.some Jvm.ClassFile.FieldType.boolean)) ∈ lw_all := lw_in (lw_tb (List.mem_of_getElem? (i := 1599) (by decide +kernel))) rfl
theorem wq1604 : (Jvm.Cond.methodLink "WeirStreamLaw" (161 : Nat) ({ cls := "WeirStreamModel", name := "addMap", desc := "(III)I" } : Jvm.MethodName)) ∈ lw_all := lw_in (lw_tb (List.mem_of_getElem? (i := 1604) (by decide +kernel))) rfl
theorem wq1605 : (Jvm.Cond.instanceMethod ({ cls := "WeirStreamModel", name := "addMap", desc := "(III)I" } : Jvm.MethodName)) ∈ lw_all := lw_in (lw_tb (List.mem_of_getElem? (i := 1605) (by decide +kernel))) rfl
theorem wq1606 : (Jvm.Cond.selects "WeirStreamModel" ({ cls := "WeirStreamModel", name := "addMap", desc := "(III)I" } : Jvm.MethodName) ({ cls := "WeirStreamModel", name := "addMap", desc := "(III)I" } : Jvm.MethodName)) ∈ lw_all := lw_in (lw_tb (List.mem_of_getElem? (i := 1606) (by decide +kernel))) rfl
theorem wq1607 : (Jvm.Cond.code ({ cls := "WeirStreamModel", name := "addMap", desc := "(III)I" } : Jvm.MethodName) prog_13_method_11_code (4 : Nat) (Option.some Jvm.ClassFile.FieldType.int)) ∈ lw_all := lw_in (lw_tb (List.mem_of_getElem? (i := 1607) (by decide +kernel))) rfl
theorem wq1608 : (Jvm.Cond.methodLink "WeirStreamLaw" (165 : Nat) ({ cls := "WeirStreamModel", name := "addWindow", desc := "(IIIII)I" } : Jvm.MethodName)) ∈ lw_all := lw_in (lw_tb (List.mem_of_getElem? (i := 1608) (by decide +kernel))) rfl
theorem wq1609 : (Jvm.Cond.instanceMethod ({ cls := "WeirStreamModel", name := "addWindow", desc := "(IIIII)I" } : Jvm.MethodName)) ∈ lw_all := lw_in (lw_tb (List.mem_of_getElem? (i := 1609) (by decide +kernel))) rfl
theorem wq1610 : (Jvm.Cond.selects "WeirStreamModel" ({ cls := "WeirStreamModel", name := "addWindow", desc := "(IIIII)I" } : Jvm.MethodName) ({ cls := "WeirStreamModel", name := "addWindow", desc := "(IIIII)I" } : Jvm.MethodName)) ∈ lw_all := lw_in (lw_tb (List.mem_of_getElem? (i := 1610) (by decide +kernel))) rfl
theorem wq1611 : (Jvm.Cond.code ({ cls := "WeirStreamModel", name := "addWindow", desc := "(IIIII)I" } : Jvm.MethodName) prog_13_method_12_code (6 : Nat) (Option.some Jvm.ClassFile.FieldType.int)) ∈ lw_all := lw_in (lw_tb (List.mem_of_getElem? (i := 1611) (by decide +kernel))) rfl
theorem wq1612 : (Jvm.Cond.methodLink "WeirStreamLaw" (168 : Nat) ({ cls := "WeirStreamModel", name := "addSession", desc := "(III)I" } : Jvm.MethodName)) ∈ lw_all := lw_in (lw_tb (List.mem_of_getElem? (i := 1612) (by decide +kernel))) rfl
theorem wq1613 : (Jvm.Cond.instanceMethod ({ cls := "WeirStreamModel", name := "addSession", desc := "(III)I" } : Jvm.MethodName)) ∈ lw_all := lw_in (lw_tb (List.mem_of_getElem? (i := 1613) (by decide +kernel))) rfl
theorem wq1614 : (Jvm.Cond.selects "WeirStreamModel" ({ cls := "WeirStreamModel", name := "addSession", desc := "(III)I" } : Jvm.MethodName) ({ cls := "WeirStreamModel", name := "addSession", desc := "(III)I" } : Jvm.MethodName)) ∈ lw_all := lw_in (lw_tb (List.mem_of_getElem? (i := 1614) (by decide +kernel))) rfl
theorem wq1615 : (Jvm.Cond.code ({ cls := "WeirStreamModel", name := "addSession", desc := "(III)I" } : Jvm.MethodName) prog_13_method_13_code (4 : Nat) (Option.some Jvm.ClassFile.FieldType.int)) ∈ lw_all := lw_in (lw_tb (List.mem_of_getElem? (i := 1615) (by decide +kernel))) rfl
theorem wq1616 : (Jvm.Cond.methodLink "WeirStreamLaw" (171 : Nat) ({ cls := "WeirStreamModel", name := "addJoin", desc := "(IIIII)I" } : Jvm.MethodName)) ∈ lw_all := lw_in (lw_tb (List.mem_of_getElem? (i := 1616) (by decide +kernel))) rfl
theorem wq1617 : (Jvm.Cond.instanceMethod ({ cls := "WeirStreamModel", name := "addJoin", desc := "(IIIII)I" } : Jvm.MethodName)) ∈ lw_all := lw_in (lw_tb (List.mem_of_getElem? (i := 1617) (by decide +kernel))) rfl
theorem wq1618 : (Jvm.Cond.selects "WeirStreamModel" ({ cls := "WeirStreamModel", name := "addJoin", desc := "(IIIII)I" } : Jvm.MethodName) ({ cls := "WeirStreamModel", name := "addJoin", desc := "(IIIII)I" } : Jvm.MethodName)) ∈ lw_all := lw_in (lw_tb (List.mem_of_getElem? (i := 1618) (by decide +kernel))) rfl
theorem wq1619 : (Jvm.Cond.code ({ cls := "WeirStreamModel", name := "addJoin", desc := "(IIIII)I" } : Jvm.MethodName) prog_13_method_14_code (6 : Nat) (Option.some Jvm.ClassFile.FieldType.int)) ∈ lw_all := lw_in (lw_tb (List.mem_of_getElem? (i := 1619) (by decide +kernel))) rfl
theorem wq1620 : (Jvm.Cond.methodLink "WeirStreamLaw" (175 : Nat) ({ cls := "WeirStreamModel", name := "addMerge", desc := "(II)I" } : Jvm.MethodName)) ∈ lw_all := lw_in (lw_tb (List.mem_of_getElem? (i := 1620) (by decide +kernel))) rfl
theorem wq1621 : (Jvm.Cond.instanceMethod ({ cls := "WeirStreamModel", name := "addMerge", desc := "(II)I" } : Jvm.MethodName)) ∈ lw_all := lw_in (lw_tb (List.mem_of_getElem? (i := 1621) (by decide +kernel))) rfl
theorem wq1622 : (Jvm.Cond.selects "WeirStreamModel" ({ cls := "WeirStreamModel", name := "addMerge", desc := "(II)I" } : Jvm.MethodName) ({ cls := "WeirStreamModel", name := "addMerge", desc := "(II)I" } : Jvm.MethodName)) ∈ lw_all := lw_in (lw_tb (List.mem_of_getElem? (i := 1622) (by decide +kernel))) rfl
theorem wq1623 : (Jvm.Cond.code ({ cls := "WeirStreamModel", name := "addMerge", desc := "(II)I" } : Jvm.MethodName) prog_13_method_15_code (3 : Nat) (Option.some Jvm.ClassFile.FieldType.int)) ∈ lw_all := lw_in (lw_tb (List.mem_of_getElem? (i := 1623) (by decide +kernel))) rfl
theorem wq1624 : (Jvm.Cond.methodLink "WeirStreamLaw" (178 : Nat) ({ cls := "WeirStreamModel", name := "addSink", desc := "(I)I" } : Jvm.MethodName)) ∈ lw_all := lw_in (lw_tb (List.mem_of_getElem? (i := 1624) (by decide +kernel))) rfl
theorem wq1625 : (Jvm.Cond.instanceMethod ({ cls := "WeirStreamModel", name := "addSink", desc := "(I)I" } : Jvm.MethodName)) ∈ lw_all := lw_in (lw_tb (List.mem_of_getElem? (i := 1625) (by decide +kernel))) rfl
theorem wq1626 : (Jvm.Cond.selects "WeirStreamModel" ({ cls := "WeirStreamModel", name := "addSink", desc := "(I)I" } : Jvm.MethodName) ({ cls := "WeirStreamModel", name := "addSink", desc := "(I)I" } : Jvm.MethodName)) ∈ lw_all := lw_in (lw_tb (List.mem_of_getElem? (i := 1626) (by decide +kernel))) rfl
theorem wq1627 : (Jvm.Cond.code ({ cls := "WeirStreamModel", name := "addSink", desc := "(I)I" } : Jvm.MethodName) prog_13_method_16_code (2 : Nat) (Option.some Jvm.ClassFile.FieldType.int)) ∈ lw_all := lw_in (lw_tb (List.mem_of_getElem? (i := 1627) (by decide +kernel))) rfl
theorem wq1628 : (Jvm.Cond.methodLink "WeirStreamLaw" (182 : Nat) ({ cls := "WeirStreamModel", name := "start", desc := "()I" } : Jvm.MethodName)) ∈ lw_all := lw_in (lw_tb (List.mem_of_getElem? (i := 1628) (by decide +kernel))) rfl
theorem wq1629 : (Jvm.Cond.instanceMethod ({ cls := "WeirStreamModel", name := "start", desc := "()I" } : Jvm.MethodName)) ∈ lw_all := lw_in (lw_tb (List.mem_of_getElem? (i := 1629) (by decide +kernel))) rfl
theorem wq1630 : (Jvm.Cond.selects "WeirStreamModel" ({ cls := "WeirStreamModel", name := "start", desc := "()I" } : Jvm.MethodName) ({ cls := "WeirStreamModel", name := "start", desc := "()I" } : Jvm.MethodName)) ∈ lw_all := lw_in (lw_tb (List.mem_of_getElem? (i := 1630) (by decide +kernel))) rfl
theorem wq1631 : (Jvm.Cond.code ({ cls := "WeirStreamModel", name := "start", desc := "()I" } : Jvm.MethodName) prog_13_method_17_code (3 : Nat) (Option.some Jvm.ClassFile.FieldType.int)) ∈ lw_all := lw_in (lw_tb (List.mem_of_getElem? (i := 1631) (by decide +kernel))) rfl
theorem wq1632 : (Jvm.Cond.methodLink "WeirStreamLaw" (185 : Nat) ({ cls := "WeirStreamModel", name := "setCapacity", desc := "(I)I" } : Jvm.MethodName)) ∈ lw_all := lw_in (lw_tb (List.mem_of_getElem? (i := 1632) (by decide +kernel))) rfl
theorem wq1633 : (Jvm.Cond.instanceMethod ({ cls := "WeirStreamModel", name := "setCapacity", desc := "(I)I" } : Jvm.MethodName)) ∈ lw_all := lw_in (lw_tb (List.mem_of_getElem? (i := 1633) (by decide +kernel))) rfl
theorem wq1634 : (Jvm.Cond.selects "WeirStreamModel" ({ cls := "WeirStreamModel", name := "setCapacity", desc := "(I)I" } : Jvm.MethodName) ({ cls := "WeirStreamModel", name := "setCapacity", desc := "(I)I" } : Jvm.MethodName)) ∈ lw_all := lw_in (lw_tb (List.mem_of_getElem? (i := 1634) (by decide +kernel))) rfl
theorem wq1635 : (Jvm.Cond.code ({ cls := "WeirStreamModel", name := "setCapacity", desc := "(I)I" } : Jvm.MethodName) prog_13_method_18_code (3 : Nat) (Option.some Jvm.ClassFile.FieldType.int)) ∈ lw_all := lw_in (lw_tb (List.mem_of_getElem? (i := 1635) (by decide +kernel))) rfl
theorem wq1636 : (Jvm.Cond.methodLink "WeirStreamLaw" (189 : Nat) ({ cls := "WeirStreamModel", name := "offer", desc := "(IIII)I" } : Jvm.MethodName)) ∈ lw_all := lw_in (lw_tb (List.mem_of_getElem? (i := 1636) (by decide +kernel))) rfl
theorem wq1637 : (Jvm.Cond.instanceMethod ({ cls := "WeirStreamModel", name := "offer", desc := "(IIII)I" } : Jvm.MethodName)) ∈ lw_all := lw_in (lw_tb (List.mem_of_getElem? (i := 1637) (by decide +kernel))) rfl
theorem wq1638 : (Jvm.Cond.selects "WeirStreamModel" ({ cls := "WeirStreamModel", name := "offer", desc := "(IIII)I" } : Jvm.MethodName) ({ cls := "WeirStreamModel", name := "offer", desc := "(IIII)I" } : Jvm.MethodName)) ∈ lw_all := lw_in (lw_tb (List.mem_of_getElem? (i := 1638) (by decide +kernel))) rfl
theorem wq1639 : (Jvm.Cond.code ({ cls := "WeirStreamModel", name := "offer", desc := "(IIII)I" } : Jvm.MethodName) prog_13_method_19_code (5 : Nat) (Option.some Jvm.ClassFile.FieldType.int)) ∈ lw_all := lw_in (lw_tb (List.mem_of_getElem? (i := 1639) (by decide +kernel))) rfl
theorem wq1654 : (Jvm.Cond.methodLink "WeirStreamLaw" (192 : Nat) ({ cls := "WeirStreamModel", name := "close", desc := "(I)I" } : Jvm.MethodName)) ∈ lw_all := lw_in (lw_tb (List.mem_of_getElem? (i := 1654) (by decide +kernel))) rfl
theorem wq1655 : (Jvm.Cond.instanceMethod ({ cls := "WeirStreamModel", name := "close", desc := "(I)I" } : Jvm.MethodName)) ∈ lw_all := lw_in (lw_tb (List.mem_of_getElem? (i := 1655) (by decide +kernel))) rfl
theorem wq1656 : (Jvm.Cond.selects "WeirStreamModel" ({ cls := "WeirStreamModel", name := "close", desc := "(I)I" } : Jvm.MethodName) ({ cls := "WeirStreamModel", name := "close", desc := "(I)I" } : Jvm.MethodName)) ∈ lw_all := lw_in (lw_tb (List.mem_of_getElem? (i := 1656) (by decide +kernel))) rfl
theorem wq1657 : (Jvm.Cond.code ({ cls := "WeirStreamModel", name := "close", desc := "(I)I" } : Jvm.MethodName) prog_13_method_21_code (2 : Nat) (Option.some Jvm.ClassFile.FieldType.int)) ∈ lw_all := lw_in (lw_tb (List.mem_of_getElem? (i := 1657) (by decide +kernel))) rfl
theorem wq1662 : (Jvm.Cond.methodLink "WeirStreamLaw" (195 : Nat) ({ cls := "WeirStreamModel", name := "work", desc := "(I)I" } : Jvm.MethodName)) ∈ lw_all := lw_in (lw_tb (List.mem_of_getElem? (i := 1662) (by decide +kernel))) rfl
theorem wq1663 : (Jvm.Cond.instanceMethod ({ cls := "WeirStreamModel", name := "work", desc := "(I)I" } : Jvm.MethodName)) ∈ lw_all := lw_in (lw_tb (List.mem_of_getElem? (i := 1663) (by decide +kernel))) rfl
theorem wq1664 : (Jvm.Cond.selects "WeirStreamModel" ({ cls := "WeirStreamModel", name := "work", desc := "(I)I" } : Jvm.MethodName) ({ cls := "WeirStreamModel", name := "work", desc := "(I)I" } : Jvm.MethodName)) ∈ lw_all := lw_in (lw_tb (List.mem_of_getElem? (i := 1664) (by decide +kernel))) rfl
theorem wq1665 : (Jvm.Cond.code ({ cls := "WeirStreamModel", name := "work", desc := "(I)I" } : Jvm.MethodName) prog_13_method_22_code (2 : Nat) (Option.some Jvm.ClassFile.FieldType.int)) ∈ lw_all := lw_in (lw_tb (List.mem_of_getElem? (i := 1665) (by decide +kernel))) rfl
theorem wq1671 : (Jvm.Cond.instanceMethod ({ cls := "WeirStreamModel$State", name := "next", desc := "()I" } : Jvm.MethodName)) ∈ lw_all := lw_in (lw_tb (List.mem_of_getElem? (i := 1671) (by decide +kernel))) rfl
theorem wq1672 : (Jvm.Cond.selects "WeirStreamModel$State" ({ cls := "WeirStreamModel$State", name := "next", desc := "()I" } : Jvm.MethodName) ({ cls := "WeirStreamModel$State", name := "next", desc := "()I" } : Jvm.MethodName)) ∈ lw_all := lw_in (lw_tb (List.mem_of_getElem? (i := 1672) (by decide +kernel))) rfl
theorem wq1673 : (Jvm.Cond.code ({ cls := "WeirStreamModel$State", name := "next", desc := "()I" } : Jvm.MethodName) prog_16_method_8_code (3 : Nat) (Option.some Jvm.ClassFile.FieldType.int)) ∈ lw_all := lw_in (lw_tb (List.mem_of_getElem? (i := 1673) (by decide +kernel))) rfl
theorem wq1813 : (Jvm.Cond.methodLink "WeirStreamLaw" (198 : Nat) ({ cls := "WeirStreamModel", name := "workAt", desc := "(I)Z" } : Jvm.MethodName)) ∈ lw_all := lw_in (lw_tb (List.mem_of_getElem? (i := 1813) (by decide +kernel))) rfl
theorem wq1814 : (Jvm.Cond.instanceMethod ({ cls := "WeirStreamModel", name := "workAt", desc := "(I)Z" } : Jvm.MethodName)) ∈ lw_all := lw_in (lw_tb (List.mem_of_getElem? (i := 1814) (by decide +kernel))) rfl
theorem wq1815 : (Jvm.Cond.selects "WeirStreamModel" ({ cls := "WeirStreamModel", name := "workAt", desc := "(I)Z" } : Jvm.MethodName) ({ cls := "WeirStreamModel", name := "workAt", desc := "(I)Z" } : Jvm.MethodName)) ∈ lw_all := lw_in (lw_tb (List.mem_of_getElem? (i := 1815) (by decide +kernel))) rfl
theorem wq1816 : (Jvm.Cond.code ({ cls := "WeirStreamModel", name := "workAt", desc := "(I)Z" } : Jvm.MethodName) prog_13_method_23_code (2 : Nat) (Option.some Jvm.ClassFile.FieldType.boolean)) ∈ lw_all := lw_in (lw_tb (List.mem_of_getElem? (i := 1816) (by decide +kernel))) rfl
theorem wq1819 : (Jvm.Cond.methodLink "WeirStreamLaw" (201 : Nat) ({ cls := "WeirStreamModel", name := "checkpoint", desc := "()I" } : Jvm.MethodName)) ∈ lw_all := lw_in (lw_tb (List.mem_of_getElem? (i := 1819) (by decide +kernel))) rfl
theorem wq1820 : (Jvm.Cond.instanceMethod ({ cls := "WeirStreamModel", name := "checkpoint", desc := "()I" } : Jvm.MethodName)) ∈ lw_all := lw_in (lw_tb (List.mem_of_getElem? (i := 1820) (by decide +kernel))) rfl
theorem wq1821 : (Jvm.Cond.selects "WeirStreamModel" ({ cls := "WeirStreamModel", name := "checkpoint", desc := "()I" } : Jvm.MethodName) ({ cls := "WeirStreamModel", name := "checkpoint", desc := "()I" } : Jvm.MethodName)) ∈ lw_all := lw_in (lw_tb (List.mem_of_getElem? (i := 1821) (by decide +kernel))) rfl
theorem wq1822 : (Jvm.Cond.code ({ cls := "WeirStreamModel", name := "checkpoint", desc := "()I" } : Jvm.MethodName) prog_13_method_24_code (1 : Nat) (Option.some Jvm.ClassFile.FieldType.int)) ∈ lw_all := lw_in (lw_tb (List.mem_of_getElem? (i := 1822) (by decide +kernel))) rfl
theorem wq1827 : (Jvm.Cond.methodLink "WeirStreamLaw" (204 : Nat) ({ cls := "WeirStreamModel", name := "crash", desc := "()I" } : Jvm.MethodName)) ∈ lw_all := lw_in (lw_tb (List.mem_of_getElem? (i := 1827) (by decide +kernel))) rfl
theorem wq1828 : (Jvm.Cond.instanceMethod ({ cls := "WeirStreamModel", name := "crash", desc := "()I" } : Jvm.MethodName)) ∈ lw_all := lw_in (lw_tb (List.mem_of_getElem? (i := 1828) (by decide +kernel))) rfl
theorem wq1829 : (Jvm.Cond.selects "WeirStreamModel" ({ cls := "WeirStreamModel", name := "crash", desc := "()I" } : Jvm.MethodName) ({ cls := "WeirStreamModel", name := "crash", desc := "()I" } : Jvm.MethodName)) ∈ lw_all := lw_in (lw_tb (List.mem_of_getElem? (i := 1829) (by decide +kernel))) rfl
theorem wq1830 : (Jvm.Cond.code ({ cls := "WeirStreamModel", name := "crash", desc := "()I" } : Jvm.MethodName) prog_13_method_25_code (1 : Nat) (Option.some Jvm.ClassFile.FieldType.int)) ∈ lw_all := lw_in (lw_tb (List.mem_of_getElem? (i := 1830) (by decide +kernel))) rfl
theorem wq1835 : (Jvm.Cond.methodLink "WeirStreamLaw" (208 : Nat) ({ cls := "WeirStreamModel", name := "stages", desc := "()I" } : Jvm.MethodName)) ∈ lw_all := lw_in (lw_tb (List.mem_of_getElem? (i := 1835) (by decide +kernel))) rfl
theorem wq1836 : (Jvm.Cond.instanceMethod ({ cls := "WeirStreamModel", name := "stages", desc := "()I" } : Jvm.MethodName)) ∈ lw_all := lw_in (lw_tb (List.mem_of_getElem? (i := 1836) (by decide +kernel))) rfl
theorem wq1837 : (Jvm.Cond.selects "WeirStreamModel" ({ cls := "WeirStreamModel", name := "stages", desc := "()I" } : Jvm.MethodName) ({ cls := "WeirStreamModel", name := "stages", desc := "()I" } : Jvm.MethodName)) ∈ lw_all := lw_in (lw_tb (List.mem_of_getElem? (i := 1837) (by decide +kernel))) rfl
theorem wq1838 : (Jvm.Cond.code ({ cls := "WeirStreamModel", name := "stages", desc := "()I" } : Jvm.MethodName) prog_13_method_26_code (1 : Nat) (Option.some Jvm.ClassFile.FieldType.int)) ∈ lw_all := lw_in (lw_tb (List.mem_of_getElem? (i := 1838) (by decide +kernel))) rfl
theorem wq1839 : (Jvm.Cond.methodLink "WeirStreamLaw" (213 : Nat) ({ cls := "WeirStreamModel", name := "isStarted", desc := "()Z" } : Jvm.MethodName)) ∈ lw_all := lw_in (lw_tb (List.mem_of_getElem? (i := 1839) (by decide +kernel))) rfl
theorem wq1840 : (Jvm.Cond.instanceMethod ({ cls := "WeirStreamModel", name := "isStarted", desc := "()Z" } : Jvm.MethodName)) ∈ lw_all := lw_in (lw_tb (List.mem_of_getElem? (i := 1840) (by decide +kernel))) rfl
theorem wq1841 : (Jvm.Cond.selects "WeirStreamModel" ({ cls := "WeirStreamModel", name := "isStarted", desc := "()Z" } : Jvm.MethodName) ({ cls := "WeirStreamModel", name := "isStarted", desc := "()Z" } : Jvm.MethodName)) ∈ lw_all := lw_in (lw_tb (List.mem_of_getElem? (i := 1841) (by decide +kernel))) rfl
theorem wq1842 : (Jvm.Cond.code ({ cls := "WeirStreamModel", name := "isStarted", desc := "()Z" } : Jvm.MethodName) prog_13_method_27_code (1 : Nat) (Option.some Jvm.ClassFile.FieldType.boolean)) ∈ lw_all := lw_in (lw_tb (List.mem_of_getElem? (i := 1842) (by decide +kernel))) rfl
theorem wq1843 : (Jvm.Cond.methodLink "WeirStreamLaw" (216 : Nat) ({ cls := "WeirStreamModel", name := "sortOf", desc := "(I)I" } : Jvm.MethodName)) ∈ lw_all := lw_in (lw_tb (List.mem_of_getElem? (i := 1843) (by decide +kernel))) rfl
theorem wq1844 : (Jvm.Cond.instanceMethod ({ cls := "WeirStreamModel", name := "sortOf", desc := "(I)I" } : Jvm.MethodName)) ∈ lw_all := lw_in (lw_tb (List.mem_of_getElem? (i := 1844) (by decide +kernel))) rfl
theorem wq1845 : (Jvm.Cond.selects "WeirStreamModel" ({ cls := "WeirStreamModel", name := "sortOf", desc := "(I)I" } : Jvm.MethodName) ({ cls := "WeirStreamModel", name := "sortOf", desc := "(I)I" } : Jvm.MethodName)) ∈ lw_all := lw_in (lw_tb (List.mem_of_getElem? (i := 1845) (by decide +kernel))) rfl
theorem wq1846 : (Jvm.Cond.code ({ cls := "WeirStreamModel", name := "sortOf", desc := "(I)I" } : Jvm.MethodName) prog_13_method_29_code (2 : Nat) (Option.some Jvm.ClassFile.FieldType.int)) ∈ lw_all := lw_in (lw_tb (List.mem_of_getElem? (i := 1846) (by decide +kernel))) rfl
theorem wq1847 : (Jvm.Cond.methodLink "WeirStreamModel" (126 : Nat) ({ cls := "WeirStreamModel", name := "has", desc := "(I)Z" } : Jvm.MethodName)) ∈ lw_all := lw_in (lw_tb (List.mem_of_getElem? (i := 1847) (by decide +kernel))) rfl
theorem wq1849 : (Jvm.Cond.instanceMethod ({ cls := "WeirStreamModel", name := "has", desc := "(I)Z" } : Jvm.MethodName)) ∈ lw_all := lw_in (lw_tb (List.mem_of_getElem? (i := 1849) (by decide +kernel))) rfl
theorem wq1850 : (Jvm.Cond.code ({ cls := "WeirStreamModel", name := "has", desc := "(I)Z" } : Jvm.MethodName) prog_13_method_28_code (2 : Nat) (Option.some Jvm.ClassFile.FieldType.boolean)) ∈ lw_all := lw_in (lw_tb (List.mem_of_getElem? (i := 1850) (by decide +kernel))) rfl
theorem wq1851 : (Jvm.Cond.methodLink "WeirStreamLaw" (219 : Nat) ({ cls := "WeirStreamModel", name := "markOf", desc := "(I)I" } : Jvm.MethodName)) ∈ lw_all := lw_in (lw_tb (List.mem_of_getElem? (i := 1851) (by decide +kernel))) rfl
theorem wq1852 : (Jvm.Cond.instanceMethod ({ cls := "WeirStreamModel", name := "markOf", desc := "(I)I" } : Jvm.MethodName)) ∈ lw_all := lw_in (lw_tb (List.mem_of_getElem? (i := 1852) (by decide +kernel))) rfl
theorem wq1853 : (Jvm.Cond.selects "WeirStreamModel" ({ cls := "WeirStreamModel", name := "markOf", desc := "(I)I" } : Jvm.MethodName) ({ cls := "WeirStreamModel", name := "markOf", desc := "(I)I" } : Jvm.MethodName)) ∈ lw_all := lw_in (lw_tb (List.mem_of_getElem? (i := 1853) (by decide +kernel))) rfl
theorem wq1854 : (Jvm.Cond.code ({ cls := "WeirStreamModel", name := "markOf", desc := "(I)I" } : Jvm.MethodName) prog_13_method_30_code (2 : Nat) (Option.some Jvm.ClassFile.FieldType.int)) ∈ lw_all := lw_in (lw_tb (List.mem_of_getElem? (i := 1854) (by decide +kernel))) rfl
theorem wq1855 : (Jvm.Cond.methodLink "WeirStreamLaw" (222 : Nat) ({ cls := "WeirStreamModel", name := "taken", desc := "(I)I" } : Jvm.MethodName)) ∈ lw_all := lw_in (lw_tb (List.mem_of_getElem? (i := 1855) (by decide +kernel))) rfl
theorem wq1856 : (Jvm.Cond.instanceMethod ({ cls := "WeirStreamModel", name := "taken", desc := "(I)I" } : Jvm.MethodName)) ∈ lw_all := lw_in (lw_tb (List.mem_of_getElem? (i := 1856) (by decide +kernel))) rfl
theorem wq1857 : (Jvm.Cond.selects "WeirStreamModel" ({ cls := "WeirStreamModel", name := "taken", desc := "(I)I" } : Jvm.MethodName) ({ cls := "WeirStreamModel", name := "taken", desc := "(I)I" } : Jvm.MethodName)) ∈ lw_all := lw_in (lw_tb (List.mem_of_getElem? (i := 1857) (by decide +kernel))) rfl
theorem wq1858 : (Jvm.Cond.code ({ cls := "WeirStreamModel", name := "taken", desc := "(I)I" } : Jvm.MethodName) prog_13_method_32_code (2 : Nat) (Option.some Jvm.ClassFile.FieldType.int)) ∈ lw_all := lw_in (lw_tb (List.mem_of_getElem? (i := 1858) (by decide +kernel))) rfl
theorem wq1863 : (Jvm.Cond.methodLink "WeirStreamLaw" (225 : Nat) ({ cls := "WeirStreamModel", name := "emitted", desc := "(I)I" } : Jvm.MethodName)) ∈ lw_all := lw_in (lw_tb (List.mem_of_getElem? (i := 1863) (by decide +kernel))) rfl
theorem wq1864 : (Jvm.Cond.instanceMethod ({ cls := "WeirStreamModel", name := "emitted", desc := "(I)I" } : Jvm.MethodName)) ∈ lw_all := lw_in (lw_tb (List.mem_of_getElem? (i := 1864) (by decide +kernel))) rfl
theorem wq1865 : (Jvm.Cond.selects "WeirStreamModel" ({ cls := "WeirStreamModel", name := "emitted", desc := "(I)I" } : Jvm.MethodName) ({ cls := "WeirStreamModel", name := "emitted", desc := "(I)I" } : Jvm.MethodName)) ∈ lw_all := lw_in (lw_tb (List.mem_of_getElem? (i := 1865) (by decide +kernel))) rfl
theorem wq1866 : (Jvm.Cond.code ({ cls := "WeirStreamModel", name := "emitted", desc := "(I)I" } : Jvm.MethodName) prog_13_method_33_code (2 : Nat) (Option.some Jvm.ClassFile.FieldType.int)) ∈ lw_all := lw_in (lw_tb (List.mem_of_getElem? (i := 1866) (by decide +kernel))) rfl
theorem wq1867 : (Jvm.Cond.methodLink "WeirStreamLaw" (228 : Nat) ({ cls := "WeirStreamModel", name := "late", desc := "(I)I" } : Jvm.MethodName)) ∈ lw_all := lw_in (lw_tb (List.mem_of_getElem? (i := 1867) (by decide +kernel))) rfl
theorem wq1868 : (Jvm.Cond.instanceMethod ({ cls := "WeirStreamModel", name := "late", desc := "(I)I" } : Jvm.MethodName)) ∈ lw_all := lw_in (lw_tb (List.mem_of_getElem? (i := 1868) (by decide +kernel))) rfl
theorem wq1869 : (Jvm.Cond.selects "WeirStreamModel" ({ cls := "WeirStreamModel", name := "late", desc := "(I)I" } : Jvm.MethodName) ({ cls := "WeirStreamModel", name := "late", desc := "(I)I" } : Jvm.MethodName)) ∈ lw_all := lw_in (lw_tb (List.mem_of_getElem? (i := 1869) (by decide +kernel))) rfl
theorem wq1870 : (Jvm.Cond.code ({ cls := "WeirStreamModel", name := "late", desc := "(I)I" } : Jvm.MethodName) prog_13_method_34_code (2 : Nat) (Option.some Jvm.ClassFile.FieldType.int)) ∈ lw_all := lw_in (lw_tb (List.mem_of_getElem? (i := 1870) (by decide +kernel))) rfl
theorem wq1871 : (Jvm.Cond.methodLink "WeirStreamLaw" (231 : Nat) ({ cls := "WeirStreamModel", name := "kept", desc := "(I)I" } : Jvm.MethodName)) ∈ lw_all := lw_in (lw_tb (List.mem_of_getElem? (i := 1871) (by decide +kernel))) rfl
theorem wq1872 : (Jvm.Cond.instanceMethod ({ cls := "WeirStreamModel", name := "kept", desc := "(I)I" } : Jvm.MethodName)) ∈ lw_all := lw_in (lw_tb (List.mem_of_getElem? (i := 1872) (by decide +kernel))) rfl
theorem wq1873 : (Jvm.Cond.selects "WeirStreamModel" ({ cls := "WeirStreamModel", name := "kept", desc := "(I)I" } : Jvm.MethodName) ({ cls := "WeirStreamModel", name := "kept", desc := "(I)I" } : Jvm.MethodName)) ∈ lw_all := lw_in (lw_tb (List.mem_of_getElem? (i := 1873) (by decide +kernel))) rfl
theorem wq1874 : (Jvm.Cond.code ({ cls := "WeirStreamModel", name := "kept", desc := "(I)I" } : Jvm.MethodName) prog_13_method_36_code (2 : Nat) (Option.some Jvm.ClassFile.FieldType.int)) ∈ lw_all := lw_in (lw_tb (List.mem_of_getElem? (i := 1874) (by decide +kernel))) rfl
theorem wq1879 : (Jvm.Cond.methodLink "WeirStreamLaw" (234 : Nat) ({ cls := "WeirStreamModel", name := "isReady", desc := "(I)Z" } : Jvm.MethodName)) ∈ lw_all := lw_in (lw_tb (List.mem_of_getElem? (i := 1879) (by decide +kernel))) rfl
theorem wq1880 : (Jvm.Cond.instanceMethod ({ cls := "WeirStreamModel", name := "isReady", desc := "(I)Z" } : Jvm.MethodName)) ∈ lw_all := lw_in (lw_tb (List.mem_of_getElem? (i := 1880) (by decide +kernel))) rfl
theorem wq1881 : (Jvm.Cond.selects "WeirStreamModel" ({ cls := "WeirStreamModel", name := "isReady", desc := "(I)Z" } : Jvm.MethodName) ({ cls := "WeirStreamModel", name := "isReady", desc := "(I)Z" } : Jvm.MethodName)) ∈ lw_all := lw_in (lw_tb (List.mem_of_getElem? (i := 1881) (by decide +kernel))) rfl
theorem wq1882 : (Jvm.Cond.code ({ cls := "WeirStreamModel", name := "isReady", desc := "(I)Z" } : Jvm.MethodName) prog_13_method_37_code (2 : Nat) (Option.some Jvm.ClassFile.FieldType.boolean)) ∈ lw_all := lw_in (lw_tb (List.mem_of_getElem? (i := 1882) (by decide +kernel))) rfl
theorem wq1883 : (Jvm.Cond.methodLink "WeirStreamLaw" (237 : Nat) ({ cls := "WeirStreamModel", name := "hasRoom", desc := "(I)Z" } : Jvm.MethodName)) ∈ lw_all := lw_in (lw_tb (List.mem_of_getElem? (i := 1883) (by decide +kernel))) rfl
theorem wq1884 : (Jvm.Cond.instanceMethod ({ cls := "WeirStreamModel", name := "hasRoom", desc := "(I)Z" } : Jvm.MethodName)) ∈ lw_all := lw_in (lw_tb (List.mem_of_getElem? (i := 1884) (by decide +kernel))) rfl
theorem wq1885 : (Jvm.Cond.selects "WeirStreamModel" ({ cls := "WeirStreamModel", name := "hasRoom", desc := "(I)Z" } : Jvm.MethodName) ({ cls := "WeirStreamModel", name := "hasRoom", desc := "(I)Z" } : Jvm.MethodName)) ∈ lw_all := lw_in (lw_tb (List.mem_of_getElem? (i := 1885) (by decide +kernel))) rfl
theorem wq1886 : (Jvm.Cond.code ({ cls := "WeirStreamModel", name := "hasRoom", desc := "(I)Z" } : Jvm.MethodName) prog_13_method_38_code (2 : Nat) (Option.some Jvm.ClassFile.FieldType.boolean)) ∈ lw_all := lw_in (lw_tb (List.mem_of_getElem? (i := 1886) (by decide +kernel))) rfl
theorem wq1888 : (Jvm.Cond.methodLink "WeirStreamLaw" (241 : Nat) ({ cls := "WeirStreamModel", name := "queued", desc := "(IZ)I" } : Jvm.MethodName)) ∈ lw_all := lw_in (lw_tb (List.mem_of_getElem? (i := 1888) (by decide +kernel))) rfl
theorem wq1889 : (Jvm.Cond.instanceMethod ({ cls := "WeirStreamModel", name := "queued", desc := "(IZ)I" } : Jvm.MethodName)) ∈ lw_all := lw_in (lw_tb (List.mem_of_getElem? (i := 1889) (by decide +kernel))) rfl
theorem wq1890 : (Jvm.Cond.selects "WeirStreamModel" ({ cls := "WeirStreamModel", name := "queued", desc := "(IZ)I" } : Jvm.MethodName) ({ cls := "WeirStreamModel", name := "queued", desc := "(IZ)I" } : Jvm.MethodName)) ∈ lw_all := lw_in (lw_tb (List.mem_of_getElem? (i := 1890) (by decide +kernel))) rfl
theorem wq1891 : (Jvm.Cond.code ({ cls := "WeirStreamModel", name := "queued", desc := "(IZ)I" } : Jvm.MethodName) prog_13_method_40_code (3 : Nat) (Option.some Jvm.ClassFile.FieldType.int)) ∈ lw_all := lw_in (lw_tb (List.mem_of_getElem? (i := 1891) (by decide +kernel))) rfl
theorem wq1896 : (Jvm.Cond.methodLink "WeirStreamLaw" (244 : Nat) ({ cls := "WeirStreamModel", name := "isBlocked", desc := "(IZ)Z" } : Jvm.MethodName)) ∈ lw_all := lw_in (lw_tb (List.mem_of_getElem? (i := 1896) (by decide +kernel))) rfl
theorem wq1897 : (Jvm.Cond.instanceMethod ({ cls := "WeirStreamModel", name := "isBlocked", desc := "(IZ)Z" } : Jvm.MethodName)) ∈ lw_all := lw_in (lw_tb (List.mem_of_getElem? (i := 1897) (by decide +kernel))) rfl
theorem wq1898 : (Jvm.Cond.selects "WeirStreamModel" ({ cls := "WeirStreamModel", name := "isBlocked", desc := "(IZ)Z" } : Jvm.MethodName) ({ cls := "WeirStreamModel", name := "isBlocked", desc := "(IZ)Z" } : Jvm.MethodName)) ∈ lw_all := lw_in (lw_tb (List.mem_of_getElem? (i := 1898) (by decide +kernel))) rfl
theorem wq1899 : (Jvm.Cond.code ({ cls := "WeirStreamModel", name := "isBlocked", desc := "(IZ)Z" } : Jvm.MethodName) prog_13_method_41_code (3 : Nat) (Option.some Jvm.ClassFile.FieldType.boolean)) ∈ lw_all := lw_in (lw_tb (List.mem_of_getElem? (i := 1899) (by decide +kernel))) rfl
theorem wq1900 : (Jvm.Cond.methodLink "WeirStreamLaw" (247 : Nat) ({ cls := "WeirStreamModel", name := "leads", desc := "(II)Z" } : Jvm.MethodName)) ∈ lw_all := lw_in (lw_tb (List.mem_of_getElem? (i := 1900) (by decide +kernel))) rfl
theorem wq1901 : (Jvm.Cond.instanceMethod ({ cls := "WeirStreamModel", name := "leads", desc := "(II)Z" } : Jvm.MethodName)) ∈ lw_all := lw_in (lw_tb (List.mem_of_getElem? (i := 1901) (by decide +kernel))) rfl
theorem wq1902 : (Jvm.Cond.selects "WeirStreamModel" ({ cls := "WeirStreamModel", name := "leads", desc := "(II)Z" } : Jvm.MethodName) ({ cls := "WeirStreamModel", name := "leads", desc := "(II)Z" } : Jvm.MethodName)) ∈ lw_all := lw_in (lw_tb (List.mem_of_getElem? (i := 1902) (by decide +kernel))) rfl
theorem wq1903 : (Jvm.Cond.code ({ cls := "WeirStreamModel", name := "leads", desc := "(II)Z" } : Jvm.MethodName) prog_13_method_43_code (3 : Nat) (Option.some Jvm.ClassFile.FieldType.boolean)) ∈ lw_all := lw_in (lw_tb (List.mem_of_getElem? (i := 1903) (by decide +kernel))) rfl
theorem wq1908 : (Jvm.Cond.methodLink "WeirStreamLaw" (250 : Nat) ({ cls := "WeirStreamModel", name := "depthOf", desc := "(I)I" } : Jvm.MethodName)) ∈ lw_all := lw_in (lw_tb (List.mem_of_getElem? (i := 1908) (by decide +kernel))) rfl
theorem wq1909 : (Jvm.Cond.instanceMethod ({ cls := "WeirStreamModel", name := "depthOf", desc := "(I)I" } : Jvm.MethodName)) ∈ lw_all := lw_in (lw_tb (List.mem_of_getElem? (i := 1909) (by decide +kernel))) rfl
theorem wq1910 : (Jvm.Cond.selects "WeirStreamModel" ({ cls := "WeirStreamModel", name := "depthOf", desc := "(I)I" } : Jvm.MethodName) ({ cls := "WeirStreamModel", name := "depthOf", desc := "(I)I" } : Jvm.MethodName)) ∈ lw_all := lw_in (lw_tb (List.mem_of_getElem? (i := 1910) (by decide +kernel))) rfl
theorem wq1911 : (Jvm.Cond.code ({ cls := "WeirStreamModel", name := "depthOf", desc := "(I)I" } : Jvm.MethodName) prog_13_method_45_code (2 : Nat) (Option.some Jvm.ClassFile.FieldType.int)) ∈ lw_all := lw_in (lw_tb (List.mem_of_getElem? (i := 1911) (by decide +kernel))) rfl
theorem wq1917 : (Jvm.Cond.methodLink "WeirStreamLaw" (253 : Nat) ({ cls := "WeirStreamModel", name := "accountAt", desc := "(III)I" } : Jvm.MethodName)) ∈ lw_all := lw_in (lw_tb (List.mem_of_getElem? (i := 1917) (by decide +kernel))) rfl
theorem wq1918 : (Jvm.Cond.instanceMethod ({ cls := "WeirStreamModel", name := "accountAt", desc := "(III)I" } : Jvm.MethodName)) ∈ lw_all := lw_in (lw_tb (List.mem_of_getElem? (i := 1918) (by decide +kernel))) rfl
theorem wq1919 : (Jvm.Cond.selects "WeirStreamModel" ({ cls := "WeirStreamModel", name := "accountAt", desc := "(III)I" } : Jvm.MethodName) ({ cls := "WeirStreamModel", name := "accountAt", desc := "(III)I" } : Jvm.MethodName)) ∈ lw_all := lw_in (lw_tb (List.mem_of_getElem? (i := 1919) (by decide +kernel))) rfl
theorem wq1920 : (Jvm.Cond.code ({ cls := "WeirStreamModel", name := "accountAt", desc := "(III)I" } : Jvm.MethodName) prog_13_method_47_code (7 : Nat) (Option.some Jvm.ClassFile.FieldType.int)) ∈ lw_all := lw_in (lw_tb (List.mem_of_getElem? (i := 1920) (by decide +kernel))) rfl
theorem wq1921 : (Jvm.Cond.methodLink "WeirStreamModel" (183 : Nat) ({ cls := "WeirStreamModel", name := "hasSpans", desc := "(I)Z" } : Jvm.MethodName)) ∈ lw_all := lw_in (lw_tb (List.mem_of_getElem? (i := 1921) (by decide +kernel))) rfl
theorem wq1923 : (Jvm.Cond.instanceMethod ({ cls := "WeirStreamModel", name := "hasSpans", desc := "(I)Z" } : Jvm.MethodName)) ∈ lw_all := lw_in (lw_tb (List.mem_of_getElem? (i := 1923) (by decide +kernel))) rfl
theorem wq1924 : (Jvm.Cond.code ({ cls := "WeirStreamModel", name := "hasSpans", desc := "(I)Z" } : Jvm.MethodName) prog_13_method_46_code (2 : Nat) (Option.some Jvm.ClassFile.FieldType.boolean)) ∈ lw_all := lw_in (lw_tb (List.mem_of_getElem? (i := 1924) (by decide +kernel))) rfl
theorem wq1927 : (Jvm.Cond.methodLink "WeirStreamLaw" (256 : Nat) ({ cls := "WeirStreamModel", name := "nextEnd", desc := "(I)I" } : Jvm.MethodName)) ∈ lw_all := lw_in (lw_tb (List.mem_of_getElem? (i := 1927) (by decide +kernel))) rfl
theorem wq1928 : (Jvm.Cond.instanceMethod ({ cls := "WeirStreamModel", name := "nextEnd", desc := "(I)I" } : Jvm.MethodName)) ∈ lw_all := lw_in (lw_tb (List.mem_of_getElem? (i := 1928) (by decide +kernel))) rfl
theorem wq1929 : (Jvm.Cond.selects "WeirStreamModel" ({ cls := "WeirStreamModel", name := "nextEnd", desc := "(I)I" } : Jvm.MethodName) ({ cls := "WeirStreamModel", name := "nextEnd", desc := "(I)I" } : Jvm.MethodName)) ∈ lw_all := lw_in (lw_tb (List.mem_of_getElem? (i := 1929) (by decide +kernel))) rfl
theorem wq1930 : (Jvm.Cond.code ({ cls := "WeirStreamModel", name := "nextEnd", desc := "(I)I" } : Jvm.MethodName) prog_13_method_49_code (2 : Nat) (Option.some Jvm.ClassFile.FieldType.int)) ∈ lw_all := lw_in (lw_tb (List.mem_of_getElem? (i := 1930) (by decide +kernel))) rfl
theorem wq1935 : (Jvm.Cond.methodLink "WeirStreamLaw" (259 : Nat) ({ cls := "WeirStreamModel", name := "outputs", desc := "(I)I" } : Jvm.MethodName)) ∈ lw_all := lw_in (lw_tb (List.mem_of_getElem? (i := 1935) (by decide +kernel))) rfl
theorem wq1936 : (Jvm.Cond.instanceMethod ({ cls := "WeirStreamModel", name := "outputs", desc := "(I)I" } : Jvm.MethodName)) ∈ lw_all := lw_in (lw_tb (List.mem_of_getElem? (i := 1936) (by decide +kernel))) rfl
theorem wq1937 : (Jvm.Cond.selects "WeirStreamModel" ({ cls := "WeirStreamModel", name := "outputs", desc := "(I)I" } : Jvm.MethodName) ({ cls := "WeirStreamModel", name := "outputs", desc := "(I)I" } : Jvm.MethodName)) ∈ lw_all := lw_in (lw_tb (List.mem_of_getElem? (i := 1937) (by decide +kernel))) rfl
theorem wq1938 : (Jvm.Cond.code ({ cls := "WeirStreamModel", name := "outputs", desc := "(I)I" } : Jvm.MethodName) prog_13_method_51_code (2 : Nat) (Option.some Jvm.ClassFile.FieldType.int)) ∈ lw_all := lw_in (lw_tb (List.mem_of_getElem? (i := 1938) (by decide +kernel))) rfl
theorem wq1939 : (Jvm.Cond.methodLink "WeirStreamModel" (195 : Nat) ({ cls := "WeirStreamModel", name := "hasSink", desc := "(I)Z" } : Jvm.MethodName)) ∈ lw_all := lw_in (lw_tb (List.mem_of_getElem? (i := 1939) (by decide +kernel))) rfl
theorem wq1941 : (Jvm.Cond.instanceMethod ({ cls := "WeirStreamModel", name := "hasSink", desc := "(I)Z" } : Jvm.MethodName)) ∈ lw_all := lw_in (lw_tb (List.mem_of_getElem? (i := 1941) (by decide +kernel))) rfl
theorem wq1942 : (Jvm.Cond.code ({ cls := "WeirStreamModel", name := "hasSink", desc := "(I)Z" } : Jvm.MethodName) prog_13_method_50_code (2 : Nat) (Option.some Jvm.ClassFile.FieldType.boolean)) ∈ lw_all := lw_in (lw_tb (List.mem_of_getElem? (i := 1942) (by decide +kernel))) rfl
theorem wq1943 : (Jvm.Cond.methodLink "WeirStreamLaw" (262 : Nat) ({ cls := "WeirStreamModel", name := "committed", desc := "(I)I" } : Jvm.MethodName)) ∈ lw_all := lw_in (lw_tb (List.mem_of_getElem? (i := 1943) (by decide +kernel))) rfl
theorem wq1944 : (Jvm.Cond.instanceMethod ({ cls := "WeirStreamModel", name := "committed", desc := "(I)I" } : Jvm.MethodName)) ∈ lw_all := lw_in (lw_tb (List.mem_of_getElem? (i := 1944) (by decide +kernel))) rfl
theorem wq1945 : (Jvm.Cond.selects "WeirStreamModel" ({ cls := "WeirStreamModel", name := "committed", desc := "(I)I" } : Jvm.MethodName) ({ cls := "WeirStreamModel", name := "committed", desc := "(I)I" } : Jvm.MethodName)) ∈ lw_all := lw_in (lw_tb (List.mem_of_getElem? (i := 1945) (by decide +kernel))) rfl
theorem wq1946 : (Jvm.Cond.code ({ cls := "WeirStreamModel", name := "committed", desc := "(I)I" } : Jvm.MethodName) prog_13_method_52_code (2 : Nat) (Option.some Jvm.ClassFile.FieldType.int)) ∈ lw_all := lw_in (lw_tb (List.mem_of_getElem? (i := 1946) (by decide +kernel))) rfl
theorem wq1947 : (Jvm.Cond.methodLink "WeirStreamLaw" (265 : Nat) ({ cls := "WeirStreamModel", name := "keyAt", desc := "(II)I" } : Jvm.MethodName)) ∈ lw_all := lw_in (lw_tb (List.mem_of_getElem? (i := 1947) (by decide +kernel))) rfl
theorem wq1948 : (Jvm.Cond.instanceMethod ({ cls := "WeirStreamModel", name := "keyAt", desc := "(II)I" } : Jvm.MethodName)) ∈ lw_all := lw_in (lw_tb (List.mem_of_getElem? (i := 1948) (by decide +kernel))) rfl
theorem wq1949 : (Jvm.Cond.selects "WeirStreamModel" ({ cls := "WeirStreamModel", name := "keyAt", desc := "(II)I" } : Jvm.MethodName) ({ cls := "WeirStreamModel", name := "keyAt", desc := "(II)I" } : Jvm.MethodName)) ∈ lw_all := lw_in (lw_tb (List.mem_of_getElem? (i := 1949) (by decide +kernel))) rfl
theorem wq1950 : (Jvm.Cond.code ({ cls := "WeirStreamModel", name := "keyAt", desc := "(II)I" } : Jvm.MethodName) prog_13_method_54_code (3 : Nat) (Option.some Jvm.ClassFile.FieldType.int)) ∈ lw_all := lw_in (lw_tb (List.mem_of_getElem? (i := 1950) (by decide +kernel))) rfl
theorem wq1951 : (Jvm.Cond.methodLink "WeirStreamModel" (204 : Nat) ({ cls := "WeirStreamModel", name := "ofOutput", desc := "(III)I" } : Jvm.MethodName)) ∈ lw_all := lw_in (lw_tb (List.mem_of_getElem? (i := 1951) (by decide +kernel))) rfl
theorem wq1953 : (Jvm.Cond.instanceMethod ({ cls := "WeirStreamModel", name := "ofOutput", desc := "(III)I" } : Jvm.MethodName)) ∈ lw_all := lw_in (lw_tb (List.mem_of_getElem? (i := 1953) (by decide +kernel))) rfl
theorem wq1954 : (Jvm.Cond.code ({ cls := "WeirStreamModel", name := "ofOutput", desc := "(III)I" } : Jvm.MethodName) prog_13_method_53_code (4 : Nat) (Option.some Jvm.ClassFile.FieldType.int)) ∈ lw_all := lw_in (lw_tb (List.mem_of_getElem? (i := 1954) (by decide +kernel))) rfl
theorem wq1955 : (Jvm.Cond.methodLink "WeirStreamLaw" (268 : Nat) ({ cls := "WeirStreamModel", name := "valueAt", desc := "(II)I" } : Jvm.MethodName)) ∈ lw_all := lw_in (lw_tb (List.mem_of_getElem? (i := 1955) (by decide +kernel))) rfl
theorem wq1956 : (Jvm.Cond.instanceMethod ({ cls := "WeirStreamModel", name := "valueAt", desc := "(II)I" } : Jvm.MethodName)) ∈ lw_all := lw_in (lw_tb (List.mem_of_getElem? (i := 1956) (by decide +kernel))) rfl
theorem wq1957 : (Jvm.Cond.selects "WeirStreamModel" ({ cls := "WeirStreamModel", name := "valueAt", desc := "(II)I" } : Jvm.MethodName) ({ cls := "WeirStreamModel", name := "valueAt", desc := "(II)I" } : Jvm.MethodName)) ∈ lw_all := lw_in (lw_tb (List.mem_of_getElem? (i := 1957) (by decide +kernel))) rfl
theorem wq1958 : (Jvm.Cond.code ({ cls := "WeirStreamModel", name := "valueAt", desc := "(II)I" } : Jvm.MethodName) prog_13_method_55_code (3 : Nat) (Option.some Jvm.ClassFile.FieldType.int)) ∈ lw_all := lw_in (lw_tb (List.mem_of_getElem? (i := 1958) (by decide +kernel))) rfl
theorem wq1959 : (Jvm.Cond.methodLink "WeirStreamLaw" (271 : Nat) ({ cls := "WeirStreamModel", name := "timeAt", desc := "(II)I" } : Jvm.MethodName)) ∈ lw_all := lw_in (lw_tb (List.mem_of_getElem? (i := 1959) (by decide +kernel))) rfl
theorem wq1960 : (Jvm.Cond.instanceMethod ({ cls := "WeirStreamModel", name := "timeAt", desc := "(II)I" } : Jvm.MethodName)) ∈ lw_all := lw_in (lw_tb (List.mem_of_getElem? (i := 1960) (by decide +kernel))) rfl
theorem wq1961 : (Jvm.Cond.selects "WeirStreamModel" ({ cls := "WeirStreamModel", name := "timeAt", desc := "(II)I" } : Jvm.MethodName) ({ cls := "WeirStreamModel", name := "timeAt", desc := "(II)I" } : Jvm.MethodName)) ∈ lw_all := lw_in (lw_tb (List.mem_of_getElem? (i := 1961) (by decide +kernel))) rfl
theorem wq1962 : (Jvm.Cond.code ({ cls := "WeirStreamModel", name := "timeAt", desc := "(II)I" } : Jvm.MethodName) prog_13_method_56_code (3 : Nat) (Option.some Jvm.ClassFile.FieldType.int)) ∈ lw_all := lw_in (lw_tb (List.mem_of_getElem? (i := 1962) (by decide +kernel))) rfl
theorem wq1963 : (Jvm.Cond.methodLink "WeirStreamLaw" (275 : Nat) ({ cls := "WeirStreamModel", name := "complete", desc := "()I" } : Jvm.MethodName)) ∈ lw_all := lw_in (lw_tb (List.mem_of_getElem? (i := 1963) (by decide +kernel))) rfl
theorem wq1964 : (Jvm.Cond.instanceMethod ({ cls := "WeirStreamModel", name := "complete", desc := "()I" } : Jvm.MethodName)) ∈ lw_all := lw_in (lw_tb (List.mem_of_getElem? (i := 1964) (by decide +kernel))) rfl
theorem wq1965 : (Jvm.Cond.selects "WeirStreamModel" ({ cls := "WeirStreamModel", name := "complete", desc := "()I" } : Jvm.MethodName) ({ cls := "WeirStreamModel", name := "complete", desc := "()I" } : Jvm.MethodName)) ∈ lw_all := lw_in (lw_tb (List.mem_of_getElem? (i := 1965) (by decide +kernel))) rfl
theorem wq1966 : (Jvm.Cond.code ({ cls := "WeirStreamModel", name := "complete", desc := "()I" } : Jvm.MethodName) prog_13_method_57_code (1 : Nat) (Option.some Jvm.ClassFile.FieldType.int)) ∈ lw_all := lw_in (lw_tb (List.mem_of_getElem? (i := 1966) (by decide +kernel))) rfl
theorem wq1967 : (Jvm.Cond.methodLink "WeirStreamLaw" (279 : Nat) ({ cls := "WeirStreamModel", name := "begun", desc := "()I" } : Jvm.MethodName)) ∈ lw_all := lw_in (lw_tb (List.mem_of_getElem? (i := 1967) (by decide +kernel))) rfl
theorem wq1968 : (Jvm.Cond.instanceMethod ({ cls := "WeirStreamModel", name := "begun", desc := "()I" } : Jvm.MethodName)) ∈ lw_all := lw_in (lw_tb (List.mem_of_getElem? (i := 1968) (by decide +kernel))) rfl
theorem wq1969 : (Jvm.Cond.selects "WeirStreamModel" ({ cls := "WeirStreamModel", name := "begun", desc := "()I" } : Jvm.MethodName) ({ cls := "WeirStreamModel", name := "begun", desc := "()I" } : Jvm.MethodName)) ∈ lw_all := lw_in (lw_tb (List.mem_of_getElem? (i := 1969) (by decide +kernel))) rfl
theorem wq1970 : (Jvm.Cond.code ({ cls := "WeirStreamModel", name := "begun", desc := "()I" } : Jvm.MethodName) prog_13_method_58_code (1 : Nat) (Option.some Jvm.ClassFile.FieldType.int)) ∈ lw_all := lw_in (lw_tb (List.mem_of_getElem? (i := 1970) (by decide +kernel))) rfl
theorem wq1971 : (Jvm.Cond.methodLink "WeirStreamLaw" (283 : Nat) ({ cls := "WeirStreamModel", name := "crashes", desc := "()I" } : Jvm.MethodName)) ∈ lw_all := lw_in (lw_tb (List.mem_of_getElem? (i := 1971) (by decide +kernel))) rfl
theorem wq1972 : (Jvm.Cond.instanceMethod ({ cls := "WeirStreamModel", name := "crashes", desc := "()I" } : Jvm.MethodName)) ∈ lw_all := lw_in (lw_tb (List.mem_of_getElem? (i := 1972) (by decide +kernel))) rfl
theorem wq1973 : (Jvm.Cond.selects "WeirStreamModel" ({ cls := "WeirStreamModel", name := "crashes", desc := "()I" } : Jvm.MethodName) ({ cls := "WeirStreamModel", name := "crashes", desc := "()I" } : Jvm.MethodName)) ∈ lw_all := lw_in (lw_tb (List.mem_of_getElem? (i := 1973) (by decide +kernel))) rfl
theorem wq1974 : (Jvm.Cond.code ({ cls := "WeirStreamModel", name := "crashes", desc := "()I" } : Jvm.MethodName) prog_13_method_59_code (1 : Nat) (Option.some Jvm.ClassFile.FieldType.int)) ∈ lw_all := lw_in (lw_tb (List.mem_of_getElem? (i := 1974) (by decide +kernel))) rfl
theorem wq1975 : (Jvm.Cond.methodLink "WeirStreamLaw" (287 : Nat) ({ cls := "WeirStreamModel", name := "worked", desc := "()I" } : Jvm.MethodName)) ∈ lw_all := lw_in (lw_tb (List.mem_of_getElem? (i := 1975) (by decide +kernel))) rfl
theorem wq1976 : (Jvm.Cond.instanceMethod ({ cls := "WeirStreamModel", name := "worked", desc := "()I" } : Jvm.MethodName)) ∈ lw_all := lw_in (lw_tb (List.mem_of_getElem? (i := 1976) (by decide +kernel))) rfl
theorem wq1977 : (Jvm.Cond.selects "WeirStreamModel" ({ cls := "WeirStreamModel", name := "worked", desc := "()I" } : Jvm.MethodName) ({ cls := "WeirStreamModel", name := "worked", desc := "()I" } : Jvm.MethodName)) ∈ lw_all := lw_in (lw_tb (List.mem_of_getElem? (i := 1977) (by decide +kernel))) rfl
theorem wq1978 : (Jvm.Cond.code ({ cls := "WeirStreamModel", name := "worked", desc := "()I" } : Jvm.MethodName) prog_13_method_60_code (1 : Nat) (Option.some Jvm.ClassFile.FieldType.int)) ∈ lw_all := lw_in (lw_tb (List.mem_of_getElem? (i := 1978) (by decide +kernel))) rfl
theorem wq1979 : (Jvm.Cond.methodLink "WeirStreamLaw" (291 : Nat) ({ cls := "WeirStreamModel", name := "inFlight", desc := "()I" } : Jvm.MethodName)) ∈ lw_all := lw_in (lw_tb (List.mem_of_getElem? (i := 1979) (by decide +kernel))) rfl
theorem wq1980 : (Jvm.Cond.instanceMethod ({ cls := "WeirStreamModel", name := "inFlight", desc := "()I" } : Jvm.MethodName)) ∈ lw_all := lw_in (lw_tb (List.mem_of_getElem? (i := 1980) (by decide +kernel))) rfl
theorem wq1981 : (Jvm.Cond.selects "WeirStreamModel" ({ cls := "WeirStreamModel", name := "inFlight", desc := "()I" } : Jvm.MethodName) ({ cls := "WeirStreamModel", name := "inFlight", desc := "()I" } : Jvm.MethodName)) ∈ lw_all := lw_in (lw_tb (List.mem_of_getElem? (i := 1981) (by decide +kernel))) rfl
theorem wq1982 : (Jvm.Cond.code ({ cls := "WeirStreamModel", name := "inFlight", desc := "()I" } : Jvm.MethodName) prog_13_method_63_code (1 : Nat) (Option.some Jvm.ClassFile.FieldType.int)) ∈ lw_all := lw_in (lw_tb (List.mem_of_getElem? (i := 1982) (by decide +kernel))) rfl
theorem wq1983 : (Jvm.Cond.methodLink "WeirStreamModel" (217 : Nat) ({ cls := "WeirStreamModel", name := "flying", desc := "()I" } : Jvm.MethodName)) ∈ lw_all := lw_in (lw_tb (List.mem_of_getElem? (i := 1983) (by decide +kernel))) rfl
theorem wq1985 : (Jvm.Cond.instanceMethod ({ cls := "WeirStreamModel", name := "flying", desc := "()I" } : Jvm.MethodName)) ∈ lw_all := lw_in (lw_tb (List.mem_of_getElem? (i := 1985) (by decide +kernel))) rfl
theorem wq1986 : (Jvm.Cond.code ({ cls := "WeirStreamModel", name := "flying", desc := "()I" } : Jvm.MethodName) prog_13_method_62_code (3 : Nat) (Option.some Jvm.ClassFile.FieldType.int)) ∈ lw_all := lw_in (lw_tb (List.mem_of_getElem? (i := 1986) (by decide +kernel))) rfl
theorem wq1987 : (Jvm.Cond.methodLink "WeirStreamLaw" (295 : Nat) ({ cls := "WeirStreamModel", name := "next", desc := "()I" } : Jvm.MethodName)) ∈ lw_all := lw_in (lw_tb (List.mem_of_getElem? (i := 1987) (by decide +kernel))) rfl
theorem wq1988 : (Jvm.Cond.instanceMethod ({ cls := "WeirStreamModel", name := "next", desc := "()I" } : Jvm.MethodName)) ∈ lw_all := lw_in (lw_tb (List.mem_of_getElem? (i := 1988) (by decide +kernel))) rfl
theorem wq1989 : (Jvm.Cond.selects "WeirStreamModel" ({ cls := "WeirStreamModel", name := "next", desc := "()I" } : Jvm.MethodName) ({ cls := "WeirStreamModel", name := "next", desc := "()I" } : Jvm.MethodName)) ∈ lw_all := lw_in (lw_tb (List.mem_of_getElem? (i := 1989) (by decide +kernel))) rfl
theorem wq1990 : (Jvm.Cond.code ({ cls := "WeirStreamModel", name := "next", desc := "()I" } : Jvm.MethodName) prog_13_method_64_code (1 : Nat) (Option.some Jvm.ClassFile.FieldType.int)) ∈ lw_all := lw_in (lw_tb (List.mem_of_getElem? (i := 1990) (by decide +kernel))) rfl
theorem wq1991 : (Jvm.Cond.methodLink "WeirStreamModel" (220 : Nat) ({ cls := "WeirStreamModel$State", name := "next", desc := "()I" } : Jvm.MethodName)) ∈ lw_all := lw_in (lw_tb (List.mem_of_getElem? (i := 1991) (by decide +kernel))) rfl
theorem wq1992 : (Jvm.Cond.methodLink "WeirStreamLaw" (300 : Nat) ({ cls := "WeirStreamModel", name := "meanQueue", desc := "()D" } : Jvm.MethodName)) ∈ lw_all := lw_in (lw_tb (List.mem_of_getElem? (i := 1992) (by decide +kernel))) rfl
theorem wq1993 : (Jvm.Cond.instanceMethod ({ cls := "WeirStreamModel", name := "meanQueue", desc := "()D" } : Jvm.MethodName)) ∈ lw_all := lw_in (lw_tb (List.mem_of_getElem? (i := 1993) (by decide +kernel))) rfl
theorem wq1994 : (Jvm.Cond.selects "WeirStreamModel" ({ cls := "WeirStreamModel", name := "meanQueue", desc := "()D" } : Jvm.MethodName) ({ cls := "WeirStreamModel", name := "meanQueue", desc := "()D" } : Jvm.MethodName)) ∈ lw_all := lw_in (lw_tb (List.mem_of_getElem? (i := 1994) (by decide +kernel))) rfl
theorem wq1995 : (Jvm.Cond.code ({ cls := "WeirStreamModel", name := "meanQueue", desc := "()D" } : Jvm.MethodName) prog_13_method_65_code (1 : Nat) (Option.some Jvm.ClassFile.FieldType.double)) ∈ lw_all := lw_in (lw_tb (List.mem_of_getElem? (i := 1995) (by decide +kernel))) rfl
theorem wq1996 : (Jvm.Cond.methodLink "WeirStreamModel" (223 : Nat) ({ cls := "WeirStreamModel", name := "channels", desc := "()I" } : Jvm.MethodName)) ∈ lw_all := lw_in (lw_tb (List.mem_of_getElem? (i := 1996) (by decide +kernel))) rfl
theorem wq1998 : (Jvm.Cond.instanceMethod ({ cls := "WeirStreamModel", name := "channels", desc := "()I" } : Jvm.MethodName)) ∈ lw_all := lw_in (lw_tb (List.mem_of_getElem? (i := 1998) (by decide +kernel))) rfl
theorem wq1999 : (Jvm.Cond.code ({ cls := "WeirStreamModel", name := "channels", desc := "()I" } : Jvm.MethodName) prog_13_method_61_code (3 : Nat) (Option.some Jvm.ClassFile.FieldType.int)) ∈ lw_all := lw_in (lw_tb (List.mem_of_getElem? (i := 1999) (by decide +kernel))) rfl
theorem wq2000 : (Jvm.Cond.methodLink "WeirStreamLaw" (303 : Nat) ({ cls := "WeirStreamModel", name := "itemsToRest", desc := "(I)I" } : Jvm.MethodName)) ∈ lw_all := lw_in (lw_tb (List.mem_of_getElem? (i := 2000) (by decide +kernel))) rfl
theorem wq2001 : (Jvm.Cond.instanceMethod ({ cls := "WeirStreamModel", name := "itemsToRest", desc := "(I)I" } : Jvm.MethodName)) ∈ lw_all := lw_in (lw_tb (List.mem_of_getElem? (i := 2001) (by decide +kernel))) rfl
theorem wq2002 : (Jvm.Cond.selects "WeirStreamModel" ({ cls := "WeirStreamModel", name := "itemsToRest", desc := "(I)I" } : Jvm.MethodName) ({ cls := "WeirStreamModel", name := "itemsToRest", desc := "(I)I" } : Jvm.MethodName)) ∈ lw_all := lw_in (lw_tb (List.mem_of_getElem? (i := 2002) (by decide +kernel))) rfl
theorem wq2003 : (Jvm.Cond.code ({ cls := "WeirStreamModel", name := "itemsToRest", desc := "(I)I" } : Jvm.MethodName) prog_13_method_66_code (3 : Nat) (Option.some Jvm.ClassFile.FieldType.int)) ∈ lw_all := lw_in (lw_tb (List.mem_of_getElem? (i := 2003) (by decide +kernel))) rfl
theorem wq2004 : (Jvm.Cond.methodLink "WeirStreamModel" (226 : Nat) ({ cls := "WeirStreamModel$State", name := "become", desc := "(LWeirStreamModel$State;)V" } : Jvm.MethodName)) ∈ lw_all := lw_in (lw_tb (List.mem_of_getElem? (i := 2004) (by decide +kernel))) rfl
theorem wq2005 : (Jvm.Cond.instanceMethod ({ cls := "WeirStreamModel$State", name := "become", desc := "(LWeirStreamModel$State;)V" } : Jvm.MethodName)) ∈ lw_all := lw_in (lw_tb (List.mem_of_getElem? (i := 2005) (by decide +kernel))) rfl
theorem wq2006 : (Jvm.Cond.selects "WeirStreamModel$State" ({ cls := "WeirStreamModel$State", name := "become", desc := "(LWeirStreamModel$State;)V" } : Jvm.MethodName) ({ cls := "WeirStreamModel$State", name := "become", desc := "(LWeirStreamModel$State;)V" } : Jvm.MethodName)) ∈ lw_all := lw_in (lw_tb (List.mem_of_getElem? (i := 2006) (by decide +kernel))) rfl
theorem wq2007 : (Jvm.Cond.code ({ cls := "WeirStreamModel$State", name := "become", desc := "(LWeirStreamModel$State;)V" } : Jvm.MethodName) prog_16_method_2_code (4 : Nat) (Option.none : Option Jvm.ClassFile.FieldType)) ∈ lw_all := lw_in (lw_tb (List.mem_of_getElem? (i := 2007) (by decide +kernel))) rfl
theorem wq2009 : (Jvm.Cond.methodLink "WeirStreamLaw" (306 : Nat) ({ cls := "WeirStreamModel", name := "outputsIn", desc := "(II)I" } : Jvm.MethodName)) ∈ lw_all := lw_in (lw_tb (List.mem_of_getElem? (i := 2009) (by decide +kernel))) rfl
theorem wq2010 : (Jvm.Cond.instanceMethod ({ cls := "WeirStreamModel", name := "outputsIn", desc := "(II)I" } : Jvm.MethodName)) ∈ lw_all := lw_in (lw_tb (List.mem_of_getElem? (i := 2010) (by decide +kernel))) rfl
theorem wq2011 : (Jvm.Cond.selects "WeirStreamModel" ({ cls := "WeirStreamModel", name := "outputsIn", desc := "(II)I" } : Jvm.MethodName) ({ cls := "WeirStreamModel", name := "outputsIn", desc := "(II)I" } : Jvm.MethodName)) ∈ lw_all := lw_in (lw_tb (List.mem_of_getElem? (i := 2011) (by decide +kernel))) rfl
theorem wq2012 : (Jvm.Cond.code ({ cls := "WeirStreamModel", name := "outputsIn", desc := "(II)I" } : Jvm.MethodName) prog_13_method_67_code (3 : Nat) (Option.some Jvm.ClassFile.FieldType.int)) ∈ lw_all := lw_in (lw_tb (List.mem_of_getElem? (i := 2012) (by decide +kernel))) rfl
theorem wq2013 : (Jvm.Cond.methodLink "WeirStreamLaw" (309 : Nat) ({ cls := "WeirStreamModel", name := "wouldLose", desc := "(I)I" } : Jvm.MethodName)) ∈ lw_all := lw_in (lw_tb (List.mem_of_getElem? (i := 2013) (by decide +kernel))) rfl
theorem wq2014 : (Jvm.Cond.instanceMethod ({ cls := "WeirStreamModel", name := "wouldLose", desc := "(I)I" } : Jvm.MethodName)) ∈ lw_all := lw_in (lw_tb (List.mem_of_getElem? (i := 2014) (by decide +kernel))) rfl
theorem wq2015 : (Jvm.Cond.selects "WeirStreamModel" ({ cls := "WeirStreamModel", name := "wouldLose", desc := "(I)I" } : Jvm.MethodName) ({ cls := "WeirStreamModel", name := "wouldLose", desc := "(I)I" } : Jvm.MethodName)) ∈ lw_all := lw_in (lw_tb (List.mem_of_getElem? (i := 2015) (by decide +kernel))) rfl
theorem wq2016 : (Jvm.Cond.code ({ cls := "WeirStreamModel", name := "wouldLose", desc := "(I)I" } : Jvm.MethodName) prog_13_method_68_code (2 : Nat) (Option.some Jvm.ClassFile.FieldType.int)) ∈ lw_all := lw_in (lw_tb (List.mem_of_getElem? (i := 2016) (by decide +kernel))) rfl
theorem wq2017 : (Jvm.Cond.methodLink "WeirStreamLaw" (312 : Nat) ({ cls := "WeirStreamModel", name := "wouldReplay", desc := "(I)I" } : Jvm.MethodName)) ∈ lw_all := lw_in (lw_tb (List.mem_of_getElem? (i := 2017) (by decide +kernel))) rfl
theorem wq2018 : (Jvm.Cond.instanceMethod ({ cls := "WeirStreamModel", name := "wouldReplay", desc := "(I)I" } : Jvm.MethodName)) ∈ lw_all := lw_in (lw_tb (List.mem_of_getElem? (i := 2018) (by decide +kernel))) rfl
theorem wq2019 : (Jvm.Cond.selects "WeirStreamModel" ({ cls := "WeirStreamModel", name := "wouldReplay", desc := "(I)I" } : Jvm.MethodName) ({ cls := "WeirStreamModel", name := "wouldReplay", desc := "(I)I" } : Jvm.MethodName)) ∈ lw_all := lw_in (lw_tb (List.mem_of_getElem? (i := 2019) (by decide +kernel))) rfl
theorem wq2020 : (Jvm.Cond.code ({ cls := "WeirStreamModel", name := "wouldReplay", desc := "(I)I" } : Jvm.MethodName) prog_13_method_69_code (2 : Nat) (Option.some Jvm.ClassFile.FieldType.int)) ∈ lw_all := lw_in (lw_tb (List.mem_of_getElem? (i := 2020) (by decide +kernel))) rfl
theorem wq2021 : (Jvm.Cond.methodLink "WeirStreamLaw" (317 : Nat) ({ cls := "WeirStreamModel", name := "digest", desc := "()J" } : Jvm.MethodName)) ∈ lw_all := lw_in (lw_tb (List.mem_of_getElem? (i := 2021) (by decide +kernel))) rfl
theorem wq2022 : (Jvm.Cond.instanceMethod ({ cls := "WeirStreamModel", name := "digest", desc := "()J" } : Jvm.MethodName)) ∈ lw_all := lw_in (lw_tb (List.mem_of_getElem? (i := 2022) (by decide +kernel))) rfl
theorem wq2023 : (Jvm.Cond.selects "WeirStreamModel" ({ cls := "WeirStreamModel", name := "digest", desc := "()J" } : Jvm.MethodName) ({ cls := "WeirStreamModel", name := "digest", desc := "()J" } : Jvm.MethodName)) ∈ lw_all := lw_in (lw_tb (List.mem_of_getElem? (i := 2023) (by decide +kernel))) rfl
theorem wq2024 : (Jvm.Cond.code ({ cls := "WeirStreamModel", name := "digest", desc := "()J" } : Jvm.MethodName) prog_13_method_72_code (6 : Nat) (Option.some Jvm.ClassFile.FieldType.long)) ∈ lw_all := lw_in (lw_tb (List.mem_of_getElem? (i := 2024) (by decide +kernel))) rfl
theorem wq2025 : (Jvm.Cond.constantLong "WeirStreamModel" (241 : Nat) (58014 : Int64)) ∈ lw_all := lw_in (lw_tb (List.mem_of_getElem? (i := 2025) (by decide +kernel))) rfl
theorem wq2026 : (Jvm.Cond.methodLink "WeirStreamModel" (239 : Nat) ({ cls := "WeirStreamModel", name := "add", desc := "(I)V" } : Jvm.MethodName)) ∈ lw_all := lw_in (lw_tb (List.mem_of_getElem? (i := 2026) (by decide +kernel))) rfl
theorem wq2028 : (Jvm.Cond.instanceMethod ({ cls := "WeirStreamModel", name := "add", desc := "(I)V" } : Jvm.MethodName)) ∈ lw_all := lw_in (lw_tb (List.mem_of_getElem? (i := 2028) (by decide +kernel))) rfl
theorem wq2029 : (Jvm.Cond.code ({ cls := "WeirStreamModel", name := "add", desc := "(I)V" } : Jvm.MethodName) prog_13_method_70_code (2 : Nat) (Option.none : Option Jvm.ClassFile.FieldType)) ∈ lw_all := lw_in (lw_tb (List.mem_of_getElem? (i := 2029) (by decide +kernel))) rfl
theorem wq2030 : (Jvm.Cond.constantLong "WeirStreamModel" (237 : Nat) (31 : Int64)) ∈ lw_all := lw_in (lw_tb (List.mem_of_getElem? (i := 2030) (by decide +kernel))) rfl
theorem wr58 : (Jvm.Cond.laysStatic "java/util/ArrayList" "DEFAULTCAPACITY_EMPTY_ELEMENTDATA" "[Ljava/lang/Object;") ∈ lw_tbl := lw_tb (List.mem_of_getElem? (i := 58) (by decide +kernel))
theorem wr74 : (Jvm.Cond.fieldLinkNest "WeirStream" (94 : Nat) "WeirStream$Flow" "capacity" "I" "WeirStream") ∈ lw_tbl := lw_tb (List.mem_of_getElem? (i := 74) (by decide +kernel))
theorem wr78 : (Jvm.Cond.fieldLinkNest "WeirStream" (145 : Nat) "WeirStream$Flow" "begunNumber" "I" "WeirStream") ∈ lw_tbl := lw_tb (List.mem_of_getElem? (i := 78) (by decide +kernel))
theorem wr80 : (Jvm.Cond.fieldLinkNest "WeirStream" (257 : Nat) "WeirStream$Flow" "completeNumber" "I" "WeirStream") ∈ lw_tbl := lw_tb (List.mem_of_getElem? (i := 80) (by decide +kernel))
theorem wr261 : (Jvm.Cond.castable "java/lang/IndexOutOfBoundsException" "java/lang/IndexOutOfBoundsException") ∈ lw_tbl := lw_tb (List.mem_of_getElem? (i := 261) (by decide +kernel))
theorem wr286 : (Jvm.Cond.laysStatic "java/lang/Throwable" "UNASSIGNED_STACK" "[Ljava/lang/StackTraceElement;") ∈ lw_tbl := lw_tb (List.mem_of_getElem? (i := 286) (by decide +kernel))
theorem wr288 : (Jvm.Cond.laysStatic "java/lang/Throwable" "SUPPRESSED_SENTINEL" "Ljava/util/List;") ∈ lw_tbl := lw_tb (List.mem_of_getElem? (i := 288) (by decide +kernel))
theorem wr393 : (Jvm.Cond.castable "java/lang/IllegalArgumentException" "java/lang/IllegalArgumentException") ∈ lw_tbl := lw_tb (List.mem_of_getElem? (i := 393) (by decide +kernel))
theorem wr473 : (Jvm.Cond.castable "java/lang/IllegalStateException" "java/lang/IllegalStateException") ∈ lw_tbl := lw_tb (List.mem_of_getElem? (i := 473) (by decide +kernel))
theorem wr497 : (Jvm.Cond.fieldLinkNest "WeirStream$Flow" (39 : Nat) "WeirStream$Plan" "first" "I" "WeirStream") ∈ lw_tbl := lw_tb (List.mem_of_getElem? (i := 497) (by decide +kernel))
theorem wr498 : (Jvm.Cond.fieldLinkNest "WeirStream" (365 : Nat) "WeirStream$Plan" "first" "I" "WeirStream") ∈ lw_tbl := lw_tb (List.mem_of_getElem? (i := 498) (by decide +kernel))
theorem wr500 : (Jvm.Cond.fieldLinkNest "WeirStream$Flow" (48 : Nat) "WeirStream$Plan" "second" "I" "WeirStream") ∈ lw_tbl := lw_tb (List.mem_of_getElem? (i := 500) (by decide +kernel))
theorem wr501 : (Jvm.Cond.fieldLinkNest "WeirStream" (376 : Nat) "WeirStream$Plan" "second" "I" "WeirStream") ∈ lw_tbl := lw_tb (List.mem_of_getElem? (i := 501) (by decide +kernel))
theorem wr502 : (Jvm.Cond.fieldLinkNest "WeirStream" (36 : Nat) "WeirStream$Plan" "slack" "I" "WeirStream") ∈ lw_tbl := lw_tb (List.mem_of_getElem? (i := 502) (by decide +kernel))
theorem wr574 : (Jvm.Cond.methodLinkNest "WeirStream" (379 : Nat) ({ cls := "WeirStream$Row", name := "<init>", desc := "()V" } : Jvm.MethodName) "WeirStream") ∈ lw_tbl := lw_tb (List.mem_of_getElem? (i := 574) (by decide +kernel))
theorem wr670 : (Jvm.Cond.arrayOver (Jvm.ClassFile.FieldType.object "java/lang/Object")) ∈ lw_tbl := lw_tb (List.mem_of_getElem? (i := 670) (by decide +kernel))
theorem wr683 : (Jvm.Cond.methodLinkNest "WeirStream$Stage" (11 : Nat) ({ cls := "WeirStream$Outlet", name := "<init>", desc := "()V" } : Jvm.MethodName) "WeirStream") ∈ lw_tbl := lw_tb (List.mem_of_getElem? (i := 683) (by decide +kernel))
theorem wr688 : (Jvm.Cond.methodLinkNest "WeirStream$Outlet" (9 : Nat) ({ cls := "WeirStream$Row", name := "<init>", desc := "()V" } : Jvm.MethodName) "WeirStream") ∈ lw_tbl := lw_tb (List.mem_of_getElem? (i := 688) (by decide +kernel))
theorem wr702 : (Jvm.Cond.methodLinkNest "WeirStream$Stage" (20 : Nat) ({ cls := "WeirStream$Row", name := "<init>", desc := "()V" } : Jvm.MethodName) "WeirStream") ∈ lw_tbl := lw_tb (List.mem_of_getElem? (i := 702) (by decide +kernel))
theorem wr705 : (Jvm.Cond.methodLinkNest "WeirStream$Stage" (27 : Nat) ({ cls := "WeirStream$State", name := "<init>", desc := "()V" } : Jvm.MethodName) "WeirStream") ∈ lw_tbl := lw_tb (List.mem_of_getElem? (i := 705) (by decide +kernel))
theorem wr711 : (Jvm.Cond.methodLinkNest "WeirStream$State" (25 : Nat) ({ cls := "WeirStream$Spans", name := "<init>", desc := "()V" } : Jvm.MethodName) "WeirStream") ∈ lw_tbl := lw_tb (List.mem_of_getElem? (i := 711) (by decide +kernel))
theorem wr716 : (Jvm.Cond.methodLinkNest "WeirStream$Spans" (11 : Nat) ({ cls := "WeirStream$Row", name := "<init>", desc := "()V" } : Jvm.MethodName) "WeirStream") ∈ lw_tbl := lw_tb (List.mem_of_getElem? (i := 716) (by decide +kernel))
theorem wr725 : (Jvm.Cond.methodLinkNest "WeirStream$State" (32 : Nat) ({ cls := "WeirStream$Row", name := "<init>", desc := "()V" } : Jvm.MethodName) "WeirStream") ∈ lw_tbl := lw_tb (List.mem_of_getElem? (i := 725) (by decide +kernel))
theorem wr1465 : (Jvm.Cond.fieldLinkNest "WeirStreamModel" (86 : Nat) "WeirStreamModel$State" "capacity" "I" "WeirStreamModel") ∈ lw_tbl := lw_tb (List.mem_of_getElem? (i := 1465) (by decide +kernel))
theorem wr1468 : (Jvm.Cond.fieldLinkNest "WeirStreamModel" (116 : Nat) "WeirStreamModel$State" "begun" "I" "WeirStreamModel") ∈ lw_tbl := lw_tb (List.mem_of_getElem? (i := 1468) (by decide +kernel))
theorem wr1470 : (Jvm.Cond.fieldLinkNest "WeirStreamModel" (208 : Nat) "WeirStreamModel$State" "complete" "I" "WeirStreamModel") ∈ lw_tbl := lw_tb (List.mem_of_getElem? (i := 1470) (by decide +kernel))
theorem wr1473 : (Jvm.Cond.fieldLinkNest "WeirStreamModel" (211 : Nat) "WeirStreamModel$State" "crashes" "I" "WeirStreamModel") ∈ lw_tbl := lw_tb (List.mem_of_getElem? (i := 1473) (by decide +kernel))
theorem wr1475 : (Jvm.Cond.fieldLinkNest "WeirStreamModel" (214 : Nat) "WeirStreamModel$State" "worked" "I" "WeirStreamModel") ∈ lw_tbl := lw_tb (List.mem_of_getElem? (i := 1475) (by decide +kernel))
theorem wr1527 : (Jvm.Cond.fieldLinkNest "WeirStreamModel$State" (80 : Nat) "WeirStreamModel" "stages" "I" "WeirStreamModel") ∈ lw_tbl := lw_tb (List.mem_of_getElem? (i := 1527) (by decide +kernel))
theorem wr2047 : (Jvm.Cond.castable "WeirStream$Stage" "java/lang/Object") ∈ lw_tbl := lw_tb (List.mem_of_getElem? (i := 2047) (by decide +kernel))
theorem ws2 : Cond.selects "WeirStream" ⟨"WeirStream", "stageOf", "(I)LWeirStream$Stage;"⟩ ⟨"WeirStream", "stageOf", "(I)LWeirStream$Stage;"⟩ ∈ lw_all := lw_in (lw_ps (List.mem_of_getElem? (i := 2) (by decide +kernel))) rfl
theorem ws4 : Cond.selects "WeirStream" ⟨"WeirStream", "spanStageOf", "(I)LWeirStream$Stage;"⟩ ⟨"WeirStream", "spanStageOf", "(I)LWeirStream$Stage;"⟩ ∈ lw_all := lw_in (lw_ps (List.mem_of_getElem? (i := 4) (by decide +kernel))) rfl
theorem ws6 : Cond.selects "WeirStream" ⟨"WeirStream", "sinkOf", "(I)LWeirStream$Stage;"⟩ ⟨"WeirStream", "sinkOf", "(I)LWeirStream$Stage;"⟩ ∈ lw_all := lw_in (lw_ps (List.mem_of_getElem? (i := 6) (by decide +kernel))) rfl
theorem ws7 : Cond.selects "WeirStream" ⟨"WeirStream", "outputAt", "(II)J"⟩ ⟨"WeirStream", "outputAt", "(II)J"⟩ ∈ lw_all := lw_in (lw_ps (List.mem_of_getElem? (i := 7) (by decide +kernel))) rfl
theorem ws8 : Cond.selects "WeirStream" ⟨"WeirStream", "refuseMoreStages", "()V"⟩ ⟨"WeirStream", "refuseMoreStages", "()V"⟩ ∈ lw_all := lw_in (lw_ps (List.mem_of_getElem? (i := 8) (by decide +kernel))) rfl
theorem ws9 : Cond.selects "WeirStream" ⟨"WeirStream", "wire", "(LWeirStream$Plan;)I"⟩ ⟨"WeirStream", "wire", "(LWeirStream$Plan;)I"⟩ ∈ lw_all := lw_in (lw_ps (List.mem_of_getElem? (i := 9) (by decide +kernel))) rfl
theorem ws10 : Cond.selects "WeirStream" ⟨"WeirStream", "planOf", "(I)LWeirStream$Plan;"⟩ ⟨"WeirStream", "planOf", "(I)LWeirStream$Plan;"⟩ ∈ lw_all := lw_in (lw_ps (List.mem_of_getElem? (i := 10) (by decide +kernel))) rfl
theorem ws11 : Cond.selects "WeirStream$Flow" ⟨"WeirStream$Flow", "channelFrom", "(I)LWeirStream$Channel;"⟩ ⟨"WeirStream$Flow", "channelFrom", "(I)LWeirStream$Channel;"⟩ ∈ lw_all := lw_in (lw_ps (List.mem_of_getElem? (i := 11) (by decide +kernel))) rfl
theorem ws12 : Cond.selects "java/util/ArrayList" ⟨"java/util/ArrayList", "add", "(Ljava/lang/Object;[Ljava/lang/Object;I)V"⟩ ⟨"java/util/ArrayList", "add", "(Ljava/lang/Object;[Ljava/lang/Object;I)V"⟩ ∈ lw_all := lw_in (lw_ps (List.mem_of_getElem? (i := 12) (by decide +kernel))) rfl
theorem ws13 : Cond.selects "java/util/ArrayList" ⟨"java/util/ArrayList", "grow", "()[Ljava/lang/Object;"⟩ ⟨"java/util/ArrayList", "grow", "()[Ljava/lang/Object;"⟩ ∈ lw_all := lw_in (lw_ps (List.mem_of_getElem? (i := 13) (by decide +kernel))) rfl
theorem ws14 : Cond.selects "java/util/ArrayList" ⟨"java/util/ArrayList", "grow", "(I)[Ljava/lang/Object;"⟩ ⟨"java/util/ArrayList", "grow", "(I)[Ljava/lang/Object;"⟩ ∈ lw_all := lw_in (lw_ps (List.mem_of_getElem? (i := 14) (by decide +kernel))) rfl
theorem ws15 : Cond.selects "WeirStream" ⟨"WeirStream", "sourceOf", "(I)LWeirStream$Stage;"⟩ ⟨"WeirStream", "sourceOf", "(I)LWeirStream$Stage;"⟩ ∈ lw_all := lw_in (lw_ps (List.mem_of_getElem? (i := 15) (by decide +kernel))) rfl
theorem ws17 : Cond.selects "WeirStream" ⟨"WeirStream", "refuseUnlessStarted", "()V"⟩ ⟨"WeirStream", "refuseUnlessStarted", "()V"⟩ ∈ lw_all := lw_in (lw_ps (List.mem_of_getElem? (i := 17) (by decide +kernel))) rfl
theorem ws32 : Cond.selects "WeirStreamModel" ⟨"WeirStreamModel", "add", "(IIII[I)I"⟩ ⟨"WeirStreamModel", "add", "(IIII[I)I"⟩ ∈ lw_all := lw_in (lw_ps (List.mem_of_getElem? (i := 32) (by decide +kernel))) rfl
theorem ws33 : Cond.selects "WeirStreamModel" ⟨"WeirStreamModel", "refuse", "(I)I"⟩ ⟨"WeirStreamModel", "refuse", "(I)I"⟩ ∈ lw_all := lw_in (lw_ps (List.mem_of_getElem? (i := 33) (by decide +kernel))) rfl
theorem ws34 : Cond.selects "WeirStreamModel" ⟨"WeirStreamModel", "canBegin", "(II)Z"⟩ ⟨"WeirStreamModel", "canBegin", "(II)Z"⟩ ∈ lw_all := lw_in (lw_ps (List.mem_of_getElem? (i := 34) (by decide +kernel))) rfl
theorem ws35 : Cond.selects "WeirStreamModel" ⟨"WeirStreamModel", "isStage", "(I)Z"⟩ ⟨"WeirStreamModel", "isStage", "(I)Z"⟩ ∈ lw_all := lw_in (lw_ps (List.mem_of_getElem? (i := 35) (by decide +kernel))) rfl
theorem ws63 : Cond.selects "WeirStreamModel" ⟨"WeirStreamModel", "has", "(I)Z"⟩ ⟨"WeirStreamModel", "has", "(I)Z"⟩ ∈ lw_all := lw_in (lw_ps (List.mem_of_getElem? (i := 63) (by decide +kernel))) rfl
theorem ws69 : Cond.selects "WeirStreamModel" ⟨"WeirStreamModel", "hasSpans", "(I)Z"⟩ ⟨"WeirStreamModel", "hasSpans", "(I)Z"⟩ ∈ lw_all := lw_in (lw_ps (List.mem_of_getElem? (i := 69) (by decide +kernel))) rfl
theorem ws71 : Cond.selects "WeirStreamModel" ⟨"WeirStreamModel", "hasSink", "(I)Z"⟩ ⟨"WeirStreamModel", "hasSink", "(I)Z"⟩ ∈ lw_all := lw_in (lw_ps (List.mem_of_getElem? (i := 71) (by decide +kernel))) rfl
theorem ws72 : Cond.selects "WeirStreamModel" ⟨"WeirStreamModel", "ofOutput", "(III)I"⟩ ⟨"WeirStreamModel", "ofOutput", "(III)I"⟩ ∈ lw_all := lw_in (lw_ps (List.mem_of_getElem? (i := 72) (by decide +kernel))) rfl
theorem ws73 : Cond.selects "WeirStreamModel" ⟨"WeirStreamModel", "flying", "()I"⟩ ⟨"WeirStreamModel", "flying", "()I"⟩ ∈ lw_all := lw_in (lw_ps (List.mem_of_getElem? (i := 73) (by decide +kernel))) rfl
theorem ws74 : Cond.selects "WeirStreamModel" ⟨"WeirStreamModel", "channels", "()I"⟩ ⟨"WeirStreamModel", "channels", "()I"⟩ ∈ lw_all := lw_in (lw_ps (List.mem_of_getElem? (i := 74) (by decide +kernel))) rfl
theorem ws75 : Cond.selects "WeirStreamModel" ⟨"WeirStreamModel", "add", "(I)V"⟩ ⟨"WeirStreamModel", "add", "(I)V"⟩ ∈ lw_all := lw_in (lw_ps (List.mem_of_getElem? (i := 75) (by decide +kernel))) rfl
theorem dL_law_0 : decode cL_law 0 = .ok (.new 8, 3) := by decide +kernel
theorem dL_law_3 : decode cL_law 3 = .ok (.dup, 1) := by decide +kernel
theorem dL_law_4 : decode cL_law 4 = .ok (.invokespecial 142, 3) := by decide +kernel
theorem dL_law_7 : decode cL_law 7 = .ok (.astore_n 1, 1) := by decide +kernel
theorem dL_law_8 : decode cL_law 8 = .ok (.new 143, 3) := by decide +kernel
theorem dL_law_11 : decode cL_law 11 = .ok (.dup, 1) := by decide +kernel
theorem dL_law_12 : decode cL_law 12 = .ok (.invokespecial 145, 3) := by decide +kernel
theorem dL_law_15 : decode cL_law 15 = .ok (.astore_n 2, 1) := by decide +kernel
theorem dL_law_16 : decode cL_law 16 = .ok (.iconst 1, 1) := by decide +kernel
theorem dL_law_17 : decode cL_law 17 = .ok (.newarray .long, 2) := by decide +kernel
theorem dL_law_19 : decode cL_law 19 = .ok (.astore_n 3, 1) := by decide +kernel
theorem dL_law_20 : decode cL_law 20 = .ok (.iconst 0, 1) := by decide +kernel
theorem dL_law_21 : decode cL_law 21 = .ok (.istore 4, 2) := by decide +kernel
theorem dL_law_252 : decode cL_law 252 = .ok (.aload_n 1, 1) := by decide +kernel
theorem dL_law_253 : decode cL_law 253 = .ok (.aload_n 0, 1) := by decide +kernel
theorem dL_law_254 : decode cL_law 254 = .ok (.iload 4, 2) := by decide +kernel
theorem dL_law_256 : decode cL_law 256 = .ok (.iconst 1, 1) := by decide +kernel
theorem dL_law_257 : decode cL_law 257 = .ok (.iadd, 1) := by decide +kernel
theorem dL_law_258 : decode cL_law 258 = .ok (.iaload, 1) := by decide +kernel
theorem dL_law_259 : decode cL_law 259 = .ok (.aload_n 3, 1) := by decide +kernel
theorem dL_law_260 : decode cL_law 260 = .ok (.invokestatic 146, 3) := by decide +kernel
theorem dL_addSource_0 : decode cL_addSource 0 = .ok (.aload_n 2, 1) := by decide +kernel
theorem dL_addSource_1 : decode cL_addSource 1 = .ok (.iconst 0, 1) := by decide +kernel
theorem dL_addSource_2 : decode cL_addSource 2 = .ok (.aload_n 0, 1) := by decide +kernel
theorem dL_addSource_3 : decode cL_addSource 3 = .ok (.iload_n 1, 1) := by decide +kernel
theorem dL_addSource_4 : decode cL_addSource 4 = .ok (.invokevirtual 7, 3) := by decide +kernel
theorem dX10_addSource_0 : decode cX10_addSource 0 = .ok (.iload_n 1, 1) := by decide +kernel
theorem dX10_addSource_1 : decode cX10_addSource 1 = .ok (.iconst 0, 1) := by decide +kernel
theorem dX10_addSource_2 : decode cX10_addSource 2 = .ok (.sipush 1000, 3) := by decide +kernel
theorem dX10_addSource_5 : decode cX10_addSource 5 = .ok (.invokestatic 21, 3) := by decide +kernel
theorem dX10_isWithin_0 : decode cX10_isWithin 0 = .ok (.iload_n 0, 1) := by decide +kernel
theorem dX10_isWithin_1 : decode cX10_isWithin 1 = .ok (.iload_n 1, 1) := by decide +kernel
theorem dX10_isWithin_2 : decode cX10_isWithin 2 = .ok (.if_icmp .lt 12, 3) := by decide +kernel
theorem dX10_isWithin_14 : decode cX10_isWithin 14 = .ok (.iconst 0, 1) := by decide +kernel
theorem dX10_isWithin_15 : decode cX10_isWithin 15 = .ok (.ireturn, 1) := by decide +kernel
theorem dX10_addSource_8 : decode cX10_addSource 8 = .ok (.invokestatic 25, 3) := by decide +kernel
theorem dX10_refuseUnless_0 : decode cX10_refuseUnless 0 = .ok (.iload_n 0, 1) := by decide +kernel
theorem dX10_refuseUnless_1 : decode cX10_refuseUnless 1 = .ok (.ifCond .ne 11, 3) := by decide +kernel
theorem dX10_refuseUnless_4 : decode cX10_refuseUnless 4 = .ok (.new 354, 3) := by decide +kernel
theorem dX10_refuseUnless_7 : decode cX10_refuseUnless 7 = .ok (.dup, 1) := by decide +kernel
theorem dX10_refuseUnless_8 : decode cX10_refuseUnless 8 = .ok (.invokespecial 356, 3) := by decide +kernel
theorem dX10_refuseUnless_11 : decode cX10_refuseUnless 11 = .ok (.athrow, 1) := by decide +kernel
theorem dL_addSource_12 : decode cL_addSource 12 = .ok (.astore_n 3, 1) := by decide +kernel
theorem dL_addSource_13 : decode cL_addSource 13 = .ok (.iconst 1, 1) := by decide +kernel
theorem dL_addSource_14 : decode cL_addSource 14 = .ok (.ireturn, 1) := by decide +kernel
theorem dL_law_263 : decode cL_law 263 = .ok (.istore 5, 2) := by decide +kernel
theorem dL_law_265 : decode cL_law 265 = .ok (.aload_n 2, 1) := by decide +kernel
theorem dL_law_266 : decode cL_law 266 = .ok (.aload_n 0, 1) := by decide +kernel
theorem dL_law_267 : decode cL_law 267 = .ok (.iload 4, 2) := by decide +kernel
theorem dL_law_269 : decode cL_law 269 = .ok (.iconst 1, 1) := by decide +kernel
theorem dL_law_270 : decode cL_law 270 = .ok (.iadd, 1) := by decide +kernel
theorem dL_law_271 : decode cL_law 271 = .ok (.iaload, 1) := by decide +kernel
theorem dL_law_272 : decode cL_law 272 = .ok (.invokevirtual 151, 3) := by decide +kernel
theorem dX14_addSource_0 : decode cX14_addSource 0 = .ok (.aload_n 0, 1) := by decide +kernel
theorem dX14_addSource_1 : decode cX14_addSource 1 = .ok (.iconst 0, 1) := by decide +kernel
theorem dX14_addSource_2 : decode cX14_addSource 2 = .ok (.putfield 43, 3) := by decide +kernel
theorem dX14_addSource_5 : decode cX14_addSource 5 = .ok (.iload_n 1, 1) := by decide +kernel
theorem dX14_addSource_6 : decode cX14_addSource 6 = .ok (.iconst 0, 1) := by decide +kernel
theorem dX14_addSource_7 : decode cX14_addSource 7 = .ok (.sipush 1000, 3) := by decide +kernel
theorem dX14_addSource_10 : decode cX14_addSource 10 = .ok (.invokestatic 50, 3) := by decide +kernel
theorem dX14_is_0 : decode cX14_is 0 = .ok (.iload_n 0, 1) := by decide +kernel
theorem dX14_is_1 : decode cX14_is 1 = .ok (.iload_n 1, 1) := by decide +kernel
theorem dX14_is_2 : decode cX14_is 2 = .ok (.if_icmp .lt 12, 3) := by decide +kernel
theorem dX14_is_14 : decode cX14_is 14 = .ok (.iconst 0, 1) := by decide +kernel
theorem dX14_is_15 : decode cX14_is 15 = .ok (.ireturn, 1) := by decide +kernel
theorem dX14_addSource_13 : decode cX14_addSource 13 = .ok (.ifCond .eq 21, 3) := by decide +kernel
theorem dX14_addSource_34 : decode cX14_addSource 34 = .ok (.aload_n 0, 1) := by decide +kernel
theorem dX14_addSource_35 : decode cX14_addSource 35 = .ok (.iconst 1, 1) := by decide +kernel
theorem dX14_addSource_36 : decode cX14_addSource 36 = .ok (.invokevirtual 62, 3) := by decide +kernel
theorem dX14_refuse_0 : decode cX14_refuse 0 = .ok (.aload_n 0, 1) := by decide +kernel
theorem dX14_refuse_1 : decode cX14_refuse 1 = .ok (.iload_n 1, 1) := by decide +kernel
theorem dX14_refuse_2 : decode cX14_refuse 2 = .ok (.putfield 43, 3) := by decide +kernel
theorem dX14_refuse_5 : decode cX14_refuse 5 = .ok (.iconst 0, 1) := by decide +kernel
theorem dX14_refuse_6 : decode cX14_refuse 6 = .ok (.ireturn, 1) := by decide +kernel
theorem dX14_addSource_39 : decode cX14_addSource 39 = .ok (.ireturn, 1) := by decide +kernel
theorem dL_law_275 : decode cL_law 275 = .ok (.istore 6, 2) := by decide +kernel
theorem dL_law_277 : decode cL_law 277 = .ok (.aload_n 2, 1) := by decide +kernel
theorem dL_law_278 : decode cL_law 278 = .ok (.invokevirtual 152, 3) := by decide +kernel
theorem dX14_thrown_0 : decode cX14_thrown 0 = .ok (.aload_n 0, 1) := by decide +kernel
theorem dX14_thrown_1 : decode cX14_thrown 1 = .ok (.getfield 43, 3) := by decide +kernel
theorem dX14_thrown_4 : decode cX14_thrown 4 = .ok (.ireturn, 1) := by decide +kernel
theorem dL_law_281 : decode cL_law 281 = .ok (.iload 5, 2) := by decide +kernel
theorem dL_law_283 : decode cL_law 283 = .ok (.if_icmp .eq 5, 3) := by decide +kernel
theorem dL_law_288 : decode cL_law 288 = .ok (.iload 5, 2) := by decide +kernel
theorem dL_law_290 : decode cL_law 290 = .ok (.ifCond .ne 15, 3) := by decide +kernel
theorem dL_law_305 : decode cL_law 305 = .ok (.goto 2645, 3) := by decide +kernel
theorem dX10_isWithin_5 : decode cX10_isWithin 5 = .ok (.iload_n 0, 1) := by decide +kernel
theorem dX10_isWithin_6 : decode cX10_isWithin 6 = .ok (.iload_n 2, 1) := by decide +kernel
theorem dX10_isWithin_7 : decode cX10_isWithin 7 = .ok (.if_icmp .gt 7, 3) := by decide +kernel
theorem dX14_is_5 : decode cX14_is 5 = .ok (.iload_n 0, 1) := by decide +kernel
theorem dX14_is_6 : decode cX14_is 6 = .ok (.iload_n 2, 1) := by decide +kernel
theorem dX14_is_7 : decode cX14_is 7 = .ok (.if_icmp .gt 7, 3) := by decide +kernel
theorem dX10_isWithin_10 : decode cX10_isWithin 10 = .ok (.iconst 1, 1) := by decide +kernel
theorem dX10_isWithin_11 : decode cX10_isWithin 11 = .ok (.goto 4, 3) := by decide +kernel
theorem dX10_refuseUnless_12 : decode cX10_refuseUnless 12 = .ok (.return_, 1) := by decide +kernel
theorem dX10_addSource_11 : decode cX10_addSource 11 = .ok (.aload_n 0, 1) := by decide +kernel
theorem dX10_addSource_12 : decode cX10_addSource 12 = .ok (.invokevirtual 28, 3) := by decide +kernel
theorem dX10_refuseMoreStages_0 : decode cX10_refuseMoreStages 0 = .ok (.aload_n 0, 1) := by decide +kernel
theorem dX10_refuseMoreStages_1 : decode cX10_refuseMoreStages 1 = .ok (.getfield 84, 3) := by decide +kernel
theorem dX10_refuseMoreStages_4 : decode cX10_refuseMoreStages 4 = .ok (.ifCond .ne 15, 3) := by decide +kernel
theorem dX10_refuseMoreStages_7 : decode cX10_refuseMoreStages 7 = .ok (.aload_n 0, 1) := by decide +kernel
theorem dX10_refuseMoreStages_8 : decode cX10_refuseMoreStages 8 = .ok (.getfield 12, 3) := by decide +kernel
theorem dX10_refuseMoreStages_11 : decode cX10_refuseMoreStages 11 = .ok (.invokevirtual 88, 3) := by decide +kernel
theorem dX2_size_0 : decode cX2_size 0 = .ok (.aload_n 0, 1) := by decide +kernel
theorem dX2_size_1 : decode cX2_size 1 = .ok (.getfield 12, 3) := by decide +kernel
theorem dX2_size_4 : decode cX2_size 4 = .ok (.invokevirtual 29, 3) := by decide +kernel
theorem dJx4a65c_size_8abf5_0 : decode cJx4a65c_size_8abf5 0 = .ok (.aload_n 0, 1) := by decide +kernel
theorem dJx4a65c_size_8abf5_1 : decode cJx4a65c_size_8abf5 1 = .ok (.getfield 48, 3) := by decide +kernel
theorem dJx4a65c_size_8abf5_4 : decode cJx4a65c_size_8abf5 4 = .ok (.ireturn, 1) := by decide +kernel
theorem dX2_size_7 : decode cX2_size 7 = .ok (.ireturn, 1) := by decide +kernel
theorem dX10_refuseMoreStages_14 : decode cX10_refuseMoreStages 14 = .ok (.bipush 12, 2) := by decide +kernel
theorem dX10_refuseMoreStages_16 : decode cX10_refuseMoreStages 16 = .ok (.if_icmp .lt 11, 3) := by decide +kernel
theorem dX10_refuseMoreStages_27 : decode cX10_refuseMoreStages 27 = .ok (.return_, 1) := by decide +kernel
theorem dX10_addSource_15 : decode cX10_addSource 15 = .ok (.new 31, 3) := by decide +kernel
theorem dX10_addSource_18 : decode cX10_addSource 18 = .ok (.dup, 1) := by decide +kernel
theorem dX10_addSource_19 : decode cX10_addSource 19 = .ok (.iconst 0, 1) := by decide +kernel
theorem dX10_addSource_20 : decode cX10_addSource 20 = .ok (.iconst (-1), 1) := by decide +kernel
theorem dX10_addSource_21 : decode cX10_addSource 21 = .ok (.iconst (-1), 1) := by decide +kernel
theorem dX10_addSource_22 : decode cX10_addSource 22 = .ok (.invokespecial 33, 3) := by decide +kernel
theorem dX5_init_0 : decode cX5_init 0 = .ok (.aload_n 0, 1) := by decide +kernel
theorem dX5_init_1 : decode cX5_init 1 = .ok (.invokespecial 1, 3) := by decide +kernel
theorem dX5_init_4 : decode cX5_init 4 = .ok (.aload_n 0, 1) := by decide +kernel
theorem dX5_init_5 : decode cX5_init 5 = .ok (.iload_n 1, 1) := by decide +kernel
theorem dX5_init_6 : decode cX5_init 6 = .ok (.putfield 7, 3) := by decide +kernel
theorem dX5_init_9 : decode cX5_init 9 = .ok (.aload_n 0, 1) := by decide +kernel
theorem dX5_init_10 : decode cX5_init 10 = .ok (.iload_n 2, 1) := by decide +kernel
theorem dX5_init_11 : decode cX5_init 11 = .ok (.putfield 13, 3) := by decide +kernel
theorem dX5_init_14 : decode cX5_init 14 = .ok (.aload_n 0, 1) := by decide +kernel
theorem dX5_init_15 : decode cX5_init 15 = .ok (.iload_n 3, 1) := by decide +kernel
theorem dX5_init_16 : decode cX5_init 16 = .ok (.putfield 16, 3) := by decide +kernel
theorem dX5_init_19 : decode cX5_init 19 = .ok (.return_, 1) := by decide +kernel
theorem dX10_addSource_25 : decode cX10_addSource 25 = .ok (.astore_n 2, 1) := by decide +kernel
theorem dX10_addSource_26 : decode cX10_addSource 26 = .ok (.aload_n 2, 1) := by decide +kernel
theorem dX10_addSource_27 : decode cX10_addSource 27 = .ok (.iload_n 1, 1) := by decide +kernel
theorem dX10_addSource_28 : decode cX10_addSource 28 = .ok (.putfield 36, 3) := by decide +kernel
theorem dX10_addSource_31 : decode cX10_addSource 31 = .ok (.aload_n 0, 1) := by decide +kernel
theorem dX10_addSource_32 : decode cX10_addSource 32 = .ok (.aload_n 2, 1) := by decide +kernel
theorem dX10_addSource_33 : decode cX10_addSource 33 = .ok (.invokevirtual 40, 3) := by decide +kernel
theorem dX10_wire_0 : decode cX10_wire 0 = .ok (.aload_n 0, 1) := by decide +kernel
theorem dX10_wire_1 : decode cX10_wire 1 = .ok (.getfield 12, 3) := by decide +kernel
theorem dX10_wire_4 : decode cX10_wire 4 = .ok (.invokevirtual 88, 3) := by decide +kernel
theorem dX10_wire_7 : decode cX10_wire 7 = .ok (.istore_n 2, 1) := by decide +kernel
theorem dX10_wire_8 : decode cX10_wire 8 = .ok (.aload_n 1, 1) := by decide +kernel
theorem dX10_wire_9 : decode cX10_wire 9 = .ok (.aload_n 0, 1) := by decide +kernel
theorem dX10_wire_10 : decode cX10_wire 10 = .ok (.aload_n 1, 1) := by decide +kernel
theorem dX10_wire_11 : decode cX10_wire 11 = .ok (.getfield 365, 3) := by decide +kernel
theorem dX10_wire_14 : decode cX10_wire 14 = .ok (.invokevirtual 368, 3) := by decide +kernel
theorem dX10_planOf_0 : decode cX10_planOf 0 = .ok (.aload_n 0, 1) := by decide +kernel
theorem dX10_planOf_1 : decode cX10_planOf 1 = .ok (.getfield 12, 3) := by decide +kernel
theorem dX10_planOf_4 : decode cX10_planOf 4 = .ok (.iload_n 1, 1) := by decide +kernel
theorem dX10_planOf_5 : decode cX10_planOf 5 = .ok (.invokevirtual 270, 3) := by decide +kernel
theorem dX2_at_0 : decode cX2_at 0 = .ok (.iload_n 1, 1) := by decide +kernel
theorem dX2_at_1 : decode cX2_at 1 = .ok (.ifCond .lt 28, 3) := by decide +kernel
theorem dX2_at_29 : decode cX2_at 29 = .ok (.aconst_null, 1) := by decide +kernel
theorem dX2_at_30 : decode cX2_at 30 = .ok (.areturn, 1) := by decide +kernel
theorem dX10_planOf_8 : decode cX10_planOf 8 = .ok (.astore_n 2, 1) := by decide +kernel
theorem dX10_planOf_9 : decode cX10_planOf 9 = .ok (.aload_n 2, 1) := by decide +kernel
theorem dX10_planOf_10 : decode cX10_planOf 10 = .ok (.ifnonnull 7, 3) := by decide +kernel
theorem dX10_planOf_13 : decode cX10_planOf 13 = .ok (.aconst_null, 1) := by decide +kernel
theorem dX10_planOf_14 : decode cX10_planOf 14 = .ok (.goto 7, 3) := by decide +kernel
theorem dX10_planOf_21 : decode cX10_planOf 21 = .ok (.areturn, 1) := by decide +kernel
theorem dX10_wire_17 : decode cX10_wire 17 = .ok (.aload_n 1, 1) := by decide +kernel
theorem dX10_wire_18 : decode cX10_wire 18 = .ok (.getfield 365, 3) := by decide +kernel
theorem dX10_wire_21 : decode cX10_wire 21 = .ok (.invokevirtual 372, 3) := by decide +kernel
theorem dX5_standBehind_0 : decode cX5_standBehind 0 = .ok (.aload_n 1, 1) := by decide +kernel
theorem dX5_standBehind_1 : decode cX5_standBehind 1 = .ok (.ifnull 37, 3) := by decide +kernel
theorem dX5_standBehind_38 : decode cX5_standBehind 38 = .ok (.return_, 1) := by decide +kernel
theorem dX10_wire_24 : decode cX10_wire 24 = .ok (.aload_n 1, 1) := by decide +kernel
theorem dX10_wire_25 : decode cX10_wire 25 = .ok (.aload_n 0, 1) := by decide +kernel
theorem dX10_wire_26 : decode cX10_wire 26 = .ok (.aload_n 1, 1) := by decide +kernel
theorem dX10_wire_27 : decode cX10_wire 27 = .ok (.getfield 376, 3) := by decide +kernel
theorem dX10_wire_30 : decode cX10_wire 30 = .ok (.invokevirtual 368, 3) := by decide +kernel
theorem dX10_wire_33 : decode cX10_wire 33 = .ok (.aload_n 1, 1) := by decide +kernel
theorem dX10_wire_34 : decode cX10_wire 34 = .ok (.getfield 376, 3) := by decide +kernel
theorem dX10_wire_37 : decode cX10_wire 37 = .ok (.invokevirtual 372, 3) := by decide +kernel
theorem dX10_wire_40 : decode cX10_wire 40 = .ok (.new 110, 3) := by decide +kernel
theorem dX10_wire_43 : decode cX10_wire 43 = .ok (.dup, 1) := by decide +kernel
theorem dX10_wire_44 : decode cX10_wire 44 = .ok (.invokespecial 379, 3) := by decide +kernel
theorem dX6_init_0 : decode cX6_init 0 = .ok (.aload_n 0, 1) := by decide +kernel
theorem dX6_init_1 : decode cX6_init 1 = .ok (.invokespecial 1, 3) := by decide +kernel
theorem dX6_init_4 : decode cX6_init 4 = .ok (.aload_n 0, 1) := by decide +kernel
theorem dX6_init_5 : decode cX6_init 5 = .ok (.bipush 8, 2) := by decide +kernel
theorem dX6_init_7 : decode cX6_init 7 = .ok (.newarray .long, 2) := by decide +kernel
theorem dX6_init_9 : decode cX6_init 9 = .ok (.putfield 9, 3) := by decide +kernel
theorem dX6_init_12 : decode cX6_init 12 = .ok (.return_, 1) := by decide +kernel
theorem dX10_wire_47 : decode cX10_wire 47 = .ok (.astore_n 3, 1) := by decide +kernel
theorem dX10_wire_48 : decode cX10_wire 48 = .ok (.aload_n 0, 1) := by decide +kernel
theorem dX10_wire_49 : decode cX10_wire 49 = .ok (.getfield 12, 3) := by decide +kernel
theorem dX10_wire_52 : decode cX10_wire 52 = .ok (.aload_n 1, 1) := by decide +kernel
theorem dX10_wire_53 : decode cX10_wire 53 = .ok (.aload_n 3, 1) := by decide +kernel
theorem dX10_wire_54 : decode cX10_wire 54 = .ok (.invokevirtual 380, 3) := by decide +kernel
theorem dX2_add_0 : decode cX2_add 0 = .ok (.aload_n 0, 1) := by decide +kernel
theorem dX2_add_1 : decode cX2_add 1 = .ok (.getfield 12, 3) := by decide +kernel
theorem dX2_add_4 : decode cX2_add 4 = .ok (.new 37, 3) := by decide +kernel
theorem dX2_add_7 : decode cX2_add 7 = .ok (.dup, 1) := by decide +kernel
theorem dX2_add_8 : decode cX2_add 8 = .ok (.aload_n 1, 1) := by decide +kernel
theorem dX2_add_9 : decode cX2_add 9 = .ok (.aload_n 2, 1) := by decide +kernel
theorem dX2_add_10 : decode cX2_add 10 = .ok (.aload_n 0, 1) := by decide +kernel
theorem dX2_add_11 : decode cX2_add 11 = .ok (.aload_n 1, 1) := by decide +kernel
theorem dX2_add_12 : decode cX2_add 12 = .ok (.getfield 39, 3) := by decide +kernel
theorem dX2_add_15 : decode cX2_add 15 = .ok (.invokevirtual 44, 3) := by decide +kernel
theorem dX2_channelFrom_0 : decode cX2_channelFrom 0 = .ok (.aload_n 0, 1) := by decide +kernel
theorem dX2_channelFrom_1 : decode cX2_channelFrom 1 = .ok (.iload_n 1, 1) := by decide +kernel
theorem dX2_channelFrom_2 : decode cX2_channelFrom 2 = .ok (.invokevirtual 58, 3) := by decide +kernel
theorem dX2_channelFrom_5 : decode cX2_channelFrom 5 = .ok (.astore_n 2, 1) := by decide +kernel
theorem dX2_channelFrom_6 : decode cX2_channelFrom 6 = .ok (.aload_n 2, 1) := by decide +kernel
theorem dX2_channelFrom_7 : decode cX2_channelFrom 7 = .ok (.ifnonnull 7, 3) := by decide +kernel
theorem dX2_channelFrom_10 : decode cX2_channelFrom 10 = .ok (.aconst_null, 1) := by decide +kernel
theorem dX2_channelFrom_11 : decode cX2_channelFrom 11 = .ok (.goto 10, 3) := by decide +kernel
theorem dX2_channelFrom_21 : decode cX2_channelFrom 21 = .ok (.areturn, 1) := by decide +kernel
theorem dX2_add_18 : decode cX2_add 18 = .ok (.aload_n 0, 1) := by decide +kernel
theorem dX2_add_19 : decode cX2_add 19 = .ok (.aload_n 1, 1) := by decide +kernel
theorem dX2_add_20 : decode cX2_add 20 = .ok (.getfield 48, 3) := by decide +kernel
theorem dX2_add_23 : decode cX2_add 23 = .ok (.invokevirtual 44, 3) := by decide +kernel
theorem dX2_add_26 : decode cX2_add 26 = .ok (.aload_n 0, 1) := by decide +kernel
theorem dX2_add_27 : decode cX2_add 27 = .ok (.getfield 25, 3) := by decide +kernel
theorem dX2_add_30 : decode cX2_add 30 = .ok (.invokespecial 51, 3) := by decide +kernel
theorem dX8_init_0 : decode cX8_init 0 = .ok (.aload_n 0, 1) := by decide +kernel
theorem dX8_init_1 : decode cX8_init 1 = .ok (.invokespecial 3, 3) := by decide +kernel
theorem dX8_init_4 : decode cX8_init 4 = .ok (.aload_n 0, 1) := by decide +kernel
theorem dX8_init_5 : decode cX8_init 5 = .ok (.new 9, 3) := by decide +kernel
theorem dX8_init_8 : decode cX8_init 8 = .ok (.dup, 1) := by decide +kernel
theorem dX8_init_9 : decode cX8_init 9 = .ok (.invokespecial 11, 3) := by decide +kernel
theorem dX4_init_0 : decode cX4_init 0 = .ok (.aload_n 0, 1) := by decide +kernel
theorem dX4_init_1 : decode cX4_init 1 = .ok (.invokespecial 1, 3) := by decide +kernel
theorem dX4_init_4 : decode cX4_init 4 = .ok (.aload_n 0, 1) := by decide +kernel
theorem dX4_init_5 : decode cX4_init 5 = .ok (.new 7, 3) := by decide +kernel
theorem dX4_init_8 : decode cX4_init 8 = .ok (.dup, 1) := by decide +kernel
theorem dX4_init_9 : decode cX4_init 9 = .ok (.invokespecial 9, 3) := by decide +kernel
theorem dX4_init_12 : decode cX4_init 12 = .ok (.putfield 10, 3) := by decide +kernel
theorem dX4_init_15 : decode cX4_init 15 = .ok (.aload_n 0, 1) := by decide +kernel
theorem dX4_init_16 : decode cX4_init 16 = .ok (.new 16, 3) := by decide +kernel
theorem dX4_init_19 : decode cX4_init 19 = .ok (.dup, 1) := by decide +kernel
theorem dX4_init_20 : decode cX4_init 20 = .ok (.invokespecial 18, 3) := by decide +kernel
theorem dX4_init_23 : decode cX4_init 23 = .ok (.putfield 19, 3) := by decide +kernel
theorem dX4_init_26 : decode cX4_init 26 = .ok (.return_, 1) := by decide +kernel
theorem dX8_init_12 : decode cX8_init 12 = .ok (.putfield 12, 3) := by decide +kernel
theorem dX8_init_15 : decode cX8_init 15 = .ok (.aload_n 0, 1) := by decide +kernel
theorem dX8_init_16 : decode cX8_init 16 = .ok (.new 18, 3) := by decide +kernel
theorem dX8_init_19 : decode cX8_init 19 = .ok (.dup, 1) := by decide +kernel
theorem dX8_init_20 : decode cX8_init 20 = .ok (.invokespecial 20, 3) := by decide +kernel
theorem dX8_init_23 : decode cX8_init 23 = .ok (.putfield 21, 3) := by decide +kernel
theorem dX8_init_26 : decode cX8_init 26 = .ok (.aload_n 0, 1) := by decide +kernel
theorem dX8_init_27 : decode cX8_init 27 = .ok (.new 25, 3) := by decide +kernel
theorem dX8_init_30 : decode cX8_init 30 = .ok (.dup, 1) := by decide +kernel
theorem dX8_init_31 : decode cX8_init 31 = .ok (.invokespecial 27, 3) := by decide +kernel
theorem dX9_init_0 : decode cX9_init 0 = .ok (.aload_n 0, 1) := by decide +kernel
theorem dX9_init_1 : decode cX9_init 1 = .ok (.invokespecial 1, 3) := by decide +kernel
theorem dX9_init_4 : decode cX9_init 4 = .ok (.aload_n 0, 1) := by decide +kernel
theorem dX9_init_5 : decode cX9_init 5 = .ok (.iconst (-1), 1) := by decide +kernel
theorem dX9_init_6 : decode cX9_init 6 = .ok (.putfield 7, 3) := by decide +kernel
theorem dX9_init_9 : decode cX9_init 9 = .ok (.aload_n 0, 1) := by decide +kernel
theorem dX9_init_10 : decode cX9_init 10 = .ok (.iconst (-1), 1) := by decide +kernel
theorem dX9_init_11 : decode cX9_init 11 = .ok (.putfield 13, 3) := by decide +kernel
theorem dX9_init_14 : decode cX9_init 14 = .ok (.aload_n 0, 1) := by decide +kernel
theorem dX9_init_15 : decode cX9_init 15 = .ok (.iconst (-1), 1) := by decide +kernel
theorem dX9_init_16 : decode cX9_init 16 = .ok (.putfield 16, 3) := by decide +kernel
theorem dX9_init_19 : decode cX9_init 19 = .ok (.aload_n 0, 1) := by decide +kernel
theorem dX9_init_20 : decode cX9_init 20 = .ok (.iconst 1, 1) := by decide +kernel
theorem dX9_init_21 : decode cX9_init 21 = .ok (.putfield 19, 3) := by decide +kernel
theorem dX9_init_24 : decode cX9_init 24 = .ok (.aload_n 0, 1) := by decide +kernel
theorem dX9_init_25 : decode cX9_init 25 = .ok (.new 23, 3) := by decide +kernel
theorem dX9_init_28 : decode cX9_init 28 = .ok (.dup, 1) := by decide +kernel
theorem dX9_init_29 : decode cX9_init 29 = .ok (.invokespecial 25, 3) := by decide +kernel
theorem dX7_init_0 : decode cX7_init 0 = .ok (.aload_n 0, 1) := by decide +kernel
theorem dX7_init_1 : decode cX7_init 1 = .ok (.invokespecial 3, 3) := by decide +kernel
theorem dX7_init_4 : decode cX7_init 4 = .ok (.aload_n 0, 1) := by decide +kernel
theorem dX7_init_5 : decode cX7_init 5 = .ok (.new 9, 3) := by decide +kernel
theorem dX7_init_8 : decode cX7_init 8 = .ok (.dup, 1) := by decide +kernel
theorem dX7_init_9 : decode cX7_init 9 = .ok (.invokespecial 11, 3) := by decide +kernel
theorem dX7_init_12 : decode cX7_init 12 = .ok (.putfield 12, 3) := by decide +kernel
theorem dX7_init_15 : decode cX7_init 15 = .ok (.aload_n 0, 1) := by decide +kernel
theorem dX7_init_16 : decode cX7_init 16 = .ok (.new 9, 3) := by decide +kernel
theorem dX7_init_19 : decode cX7_init 19 = .ok (.dup, 1) := by decide +kernel
theorem dX7_init_20 : decode cX7_init 20 = .ok (.invokespecial 11, 3) := by decide +kernel
theorem dX7_init_23 : decode cX7_init 23 = .ok (.putfield 18, 3) := by decide +kernel
theorem dX7_init_26 : decode cX7_init 26 = .ok (.return_, 1) := by decide +kernel
theorem dX9_init_32 : decode cX9_init 32 = .ok (.putfield 26, 3) := by decide +kernel
theorem dX9_init_35 : decode cX9_init 35 = .ok (.aload_n 0, 1) := by decide +kernel
theorem dX9_init_36 : decode cX9_init 36 = .ok (.new 30, 3) := by decide +kernel
theorem dX9_init_39 : decode cX9_init 39 = .ok (.dup, 1) := by decide +kernel
theorem dX9_init_40 : decode cX9_init 40 = .ok (.invokespecial 32, 3) := by decide +kernel
theorem dX9_init_43 : decode cX9_init 43 = .ok (.putfield 33, 3) := by decide +kernel
theorem dX9_init_46 : decode cX9_init 46 = .ok (.aload_n 0, 1) := by decide +kernel
theorem dX9_init_47 : decode cX9_init 47 = .ok (.new 30, 3) := by decide +kernel
theorem dX9_init_50 : decode cX9_init 50 = .ok (.dup, 1) := by decide +kernel
theorem dX9_init_51 : decode cX9_init 51 = .ok (.invokespecial 32, 3) := by decide +kernel
theorem dX9_init_54 : decode cX9_init 54 = .ok (.putfield 37, 3) := by decide +kernel
theorem dX9_init_57 : decode cX9_init 57 = .ok (.return_, 1) := by decide +kernel
theorem dX8_init_34 : decode cX8_init 34 = .ok (.putfield 28, 3) := by decide +kernel
theorem dX8_init_37 : decode cX8_init 37 = .ok (.aload_n 0, 1) := by decide +kernel
theorem dX8_init_38 : decode cX8_init 38 = .ok (.new 25, 3) := by decide +kernel
theorem dX8_init_41 : decode cX8_init 41 = .ok (.dup, 1) := by decide +kernel
theorem dX8_init_42 : decode cX8_init 42 = .ok (.invokespecial 27, 3) := by decide +kernel
theorem dX8_init_45 : decode cX8_init 45 = .ok (.putfield 32, 3) := by decide +kernel
theorem dX8_init_48 : decode cX8_init 48 = .ok (.aload_n 0, 1) := by decide +kernel
theorem dX8_init_49 : decode cX8_init 49 = .ok (.new 25, 3) := by decide +kernel
theorem dX8_init_52 : decode cX8_init 52 = .ok (.dup, 1) := by decide +kernel
theorem dX8_init_53 : decode cX8_init 53 = .ok (.invokespecial 27, 3) := by decide +kernel
theorem dX8_init_56 : decode cX8_init 56 = .ok (.putfield 35, 3) := by decide +kernel
theorem dX8_init_59 : decode cX8_init 59 = .ok (.aload_n 0, 1) := by decide +kernel
theorem dX8_init_60 : decode cX8_init 60 = .ok (.aload_n 1, 1) := by decide +kernel
theorem dX8_init_61 : decode cX8_init 61 = .ok (.putfield 38, 3) := by decide +kernel
theorem dX8_init_64 : decode cX8_init 64 = .ok (.aload_n 0, 1) := by decide +kernel
theorem dX8_init_65 : decode cX8_init 65 = .ok (.aload_n 2, 1) := by decide +kernel
theorem dX8_init_66 : decode cX8_init 66 = .ok (.putfield 42, 3) := by decide +kernel
theorem dX8_init_69 : decode cX8_init 69 = .ok (.aload_n 0, 1) := by decide +kernel
theorem dX8_init_70 : decode cX8_init 70 = .ok (.aload_n 3, 1) := by decide +kernel
theorem dX8_init_71 : decode cX8_init 71 = .ok (.putfield 45, 3) := by decide +kernel
theorem dX8_init_74 : decode cX8_init 74 = .ok (.aload_n 0, 1) := by decide +kernel
theorem dX8_init_75 : decode cX8_init 75 = .ok (.aload 4, 2) := by decide +kernel
theorem dX8_init_77 : decode cX8_init 77 = .ok (.putfield 49, 3) := by decide +kernel
theorem dX8_init_80 : decode cX8_init 80 = .ok (.aload_n 0, 1) := by decide +kernel
theorem dX8_init_81 : decode cX8_init 81 = .ok (.iload 5, 2) := by decide +kernel
theorem dX8_init_83 : decode cX8_init 83 = .ok (.putfield 52, 3) := by decide +kernel
theorem dX8_init_86 : decode cX8_init 86 = .ok (.return_, 1) := by decide +kernel
theorem dX2_add_33 : decode cX2_add 33 = .ok (.invokevirtual 54, 3) := by decide +kernel
theorem dJx4a65c_add_9ea2d_0 : decode cJx4a65c_add_9ea2d 0 = .ok (.aload_n 0, 1) := by decide +kernel
theorem dJx4a65c_add_9ea2d_1 : decode cJx4a65c_add_9ea2d 1 = .ok (.dup, 1) := by decide +kernel
theorem dJx4a65c_add_9ea2d_2 : decode cJx4a65c_add_9ea2d 2 = .ok (.getfield 63, 3) := by decide +kernel
theorem dJx4a65c_add_9ea2d_5 : decode cJx4a65c_add_9ea2d 5 = .ok (.iconst 1, 1) := by decide +kernel
theorem dJx4a65c_add_9ea2d_6 : decode cJx4a65c_add_9ea2d 6 = .ok (.iadd, 1) := by decide +kernel
theorem dJx4a65c_add_9ea2d_7 : decode cJx4a65c_add_9ea2d 7 = .ok (.putfield 63, 3) := by decide +kernel
theorem dJx4a65c_add_9ea2d_10 : decode cJx4a65c_add_9ea2d 10 = .ok (.aload_n 0, 1) := by decide +kernel
theorem dJx4a65c_add_9ea2d_11 : decode cJx4a65c_add_9ea2d 11 = .ok (.aload_n 1, 1) := by decide +kernel
theorem dJx4a65c_add_9ea2d_12 : decode cJx4a65c_add_9ea2d 12 = .ok (.aload_n 0, 1) := by decide +kernel
theorem dJx4a65c_add_9ea2d_13 : decode cJx4a65c_add_9ea2d 13 = .ok (.getfield 9, 3) := by decide +kernel
theorem dJx4a65c_add_9ea2d_16 : decode cJx4a65c_add_9ea2d 16 = .ok (.aload_n 0, 1) := by decide +kernel
theorem dJx4a65c_add_9ea2d_17 : decode cJx4a65c_add_9ea2d 17 = .ok (.getfield 48, 3) := by decide +kernel
theorem dJx4a65c_add_9ea2d_20 : decode cJx4a65c_add_9ea2d 20 = .ok (.invokevirtual 131, 3) := by decide +kernel
theorem dJx4a65c_add_72be8_0 : decode cJx4a65c_add_72be8 0 = .ok (.iload_n 3, 1) := by decide +kernel
theorem dJx4a65c_add_72be8_1 : decode cJx4a65c_add_72be8 1 = .ok (.aload_n 2, 1) := by decide +kernel
theorem dJx4a65c_add_72be8_2 : decode cJx4a65c_add_72be8 2 = .ok (.arraylength, 1) := by decide +kernel
theorem dJx4a65c_add_72be8_3 : decode cJx4a65c_add_72be8 3 = .ok (.if_icmp .ne 8, 3) := by decide +kernel
theorem dJx4a65c_add_72be8_6 : decode cJx4a65c_add_72be8 6 = .ok (.aload_n 0, 1) := by decide +kernel
theorem dJx4a65c_add_72be8_7 : decode cJx4a65c_add_72be8 7 = .ok (.invokevirtual 129, 3) := by decide +kernel
theorem dJx4a65c_grow_d5877_0 : decode cJx4a65c_grow_d5877 0 = .ok (.aload_n 0, 1) := by decide +kernel
theorem dJx4a65c_grow_d5877_1 : decode cJx4a65c_grow_d5877 1 = .ok (.aload_n 0, 1) := by decide +kernel
theorem dJx4a65c_grow_d5877_2 : decode cJx4a65c_grow_d5877 2 = .ok (.getfield 48, 3) := by decide +kernel
theorem dJx4a65c_grow_d5877_5 : decode cJx4a65c_grow_d5877 5 = .ok (.iconst 1, 1) := by decide +kernel
theorem dJx4a65c_grow_d5877_6 : decode cJx4a65c_grow_d5877 6 = .ok (.iadd, 1) := by decide +kernel
theorem dJx4a65c_grow_d5877_7 : decode cJx4a65c_grow_d5877 7 = .ok (.invokevirtual 69, 3) := by decide +kernel
theorem dJx4a65c_grow_92f84_0 : decode cJx4a65c_grow_92f84 0 = .ok (.aload_n 0, 1) := by decide +kernel
theorem dJx4a65c_grow_92f84_1 : decode cJx4a65c_grow_92f84 1 = .ok (.getfield 9, 3) := by decide +kernel
theorem dJx4a65c_grow_92f84_4 : decode cJx4a65c_grow_92f84 4 = .ok (.arraylength, 1) := by decide +kernel
theorem dJx4a65c_grow_92f84_5 : decode cJx4a65c_grow_92f84 5 = .ok (.istore_n 2, 1) := by decide +kernel
theorem dJx4a65c_grow_92f84_6 : decode cJx4a65c_grow_92f84 6 = .ok (.iload_n 2, 1) := by decide +kernel
theorem dJx4a65c_grow_92f84_7 : decode cJx4a65c_grow_92f84 7 = .ok (.ifCond .gt 13, 3) := by decide +kernel
theorem dJx4a65c_grow_92f84_10 : decode cJx4a65c_grow_92f84 10 = .ok (.aload_n 0, 1) := by decide +kernel
theorem dJx4a65c_grow_92f84_11 : decode cJx4a65c_grow_92f84 11 = .ok (.getfield 9, 3) := by decide +kernel
theorem dJx4a65c_grow_92f84_14 : decode cJx4a65c_grow_92f84 14 = .ok (.getstatic 39, 3) := by decide +kernel
theorem dJx4a65c_grow_92f84_17 : decode cJx4a65c_grow_92f84 17 = .ok (.if_acmp .eq 28, 3) := by decide +kernel
theorem dJx4a65c_grow_92f84_45 : decode cJx4a65c_grow_92f84 45 = .ok (.aload_n 0, 1) := by decide +kernel
theorem dJx4a65c_grow_92f84_46 : decode cJx4a65c_grow_92f84 46 = .ok (.bipush 10, 2) := by decide +kernel
theorem dJx4a65c_grow_92f84_48 : decode cJx4a65c_grow_92f84 48 = .ok (.iload_n 1, 1) := by decide +kernel
theorem dJx4a65c_grow_92f84_49 : decode cJx4a65c_grow_92f84 49 = .ok (.invokestatic 79, 3) := by decide +kernel
theorem dJx4a65c_grow_92f84_52 : decode cJx4a65c_grow_92f84 52 = .ok (.anewarray 7, 3) := by decide +kernel
theorem dJx4a65c_grow_92f84_55 : decode cJx4a65c_grow_92f84 55 = .ok (.dup_x1, 1) := by decide +kernel
theorem dJx4a65c_grow_92f84_56 : decode cJx4a65c_grow_92f84 56 = .ok (.putfield 9, 3) := by decide +kernel
theorem dJx4a65c_grow_92f84_59 : decode cJx4a65c_grow_92f84 59 = .ok (.areturn, 1) := by decide +kernel
theorem dJx4a65c_grow_d5877_10 : decode cJx4a65c_grow_d5877 10 = .ok (.areturn, 1) := by decide +kernel
theorem dJx4a65c_add_72be8_10 : decode cJx4a65c_add_72be8 10 = .ok (.astore_n 2, 1) := by decide +kernel
theorem dJx4a65c_add_72be8_11 : decode cJx4a65c_add_72be8 11 = .ok (.aload_n 2, 1) := by decide +kernel
theorem dJx4a65c_add_72be8_12 : decode cJx4a65c_add_72be8 12 = .ok (.iload_n 3, 1) := by decide +kernel
theorem dJx4a65c_add_72be8_13 : decode cJx4a65c_add_72be8 13 = .ok (.aload_n 1, 1) := by decide +kernel
theorem dJx4a65c_add_72be8_14 : decode cJx4a65c_add_72be8 14 = .ok (.aastore, 1) := by decide +kernel
theorem dJx4a65c_add_72be8_15 : decode cJx4a65c_add_72be8 15 = .ok (.aload_n 0, 1) := by decide +kernel
theorem dJx4a65c_add_72be8_16 : decode cJx4a65c_add_72be8 16 = .ok (.iload_n 3, 1) := by decide +kernel
theorem dJx4a65c_add_72be8_17 : decode cJx4a65c_add_72be8 17 = .ok (.iconst 1, 1) := by decide +kernel
theorem dJx4a65c_add_72be8_18 : decode cJx4a65c_add_72be8 18 = .ok (.iadd, 1) := by decide +kernel
theorem dJx4a65c_add_72be8_19 : decode cJx4a65c_add_72be8 19 = .ok (.putfield 48, 3) := by decide +kernel
theorem dJx4a65c_add_72be8_22 : decode cJx4a65c_add_72be8 22 = .ok (.return_, 1) := by decide +kernel
theorem dJx4a65c_add_9ea2d_23 : decode cJx4a65c_add_9ea2d 23 = .ok (.iconst 1, 1) := by decide +kernel
theorem dJx4a65c_add_9ea2d_24 : decode cJx4a65c_add_9ea2d 24 = .ok (.ireturn, 1) := by decide +kernel
theorem dX2_add_36 : decode cX2_add 36 = .ok (.pop, 1) := by decide +kernel
theorem dX2_add_37 : decode cX2_add 37 = .ok (.return_, 1) := by decide +kernel
theorem dX10_wire_57 : decode cX10_wire 57 = .ok (.aload_n 0, 1) := by decide +kernel
theorem dX10_wire_58 : decode cX10_wire 58 = .ok (.getfield 18, 3) := by decide +kernel
theorem dX10_wire_61 : decode cX10_wire 61 = .ok (.aload_n 1, 1) := by decide +kernel
theorem dX10_wire_62 : decode cX10_wire 62 = .ok (.aload_n 3, 1) := by decide +kernel
theorem dX10_wire_63 : decode cX10_wire 63 = .ok (.invokevirtual 380, 3) := by decide +kernel
theorem dX10_wire_66 : decode cX10_wire 66 = .ok (.iload_n 2, 1) := by decide +kernel
theorem dX10_wire_67 : decode cX10_wire 67 = .ok (.ireturn, 1) := by decide +kernel
theorem dX10_addSource_36 : decode cX10_addSource 36 = .ok (.ireturn, 1) := by decide +kernel
theorem dL_addSource_7 : decode cL_addSource 7 = .ok (.i2l, 1) := by decide +kernel
theorem dL_addSource_8 : decode cL_addSource 8 = .ok (.lastore, 1) := by decide +kernel
theorem dL_addSource_9 : decode cL_addSource 9 = .ok (.goto 9, 3) := by decide +kernel
theorem dL_addSource_18 : decode cL_addSource 18 = .ok (.iconst 0, 1) := by decide +kernel
theorem dL_addSource_19 : decode cL_addSource 19 = .ok (.ireturn, 1) := by decide +kernel
theorem dX14_is_10 : decode cX14_is 10 = .ok (.iconst 1, 1) := by decide +kernel
theorem dX14_is_11 : decode cX14_is 11 = .ok (.goto 4, 3) := by decide +kernel
theorem dX14_addSource_16 : decode cX14_addSource 16 = .ok (.aload_n 0, 1) := by decide +kernel
theorem dX14_addSource_17 : decode cX14_addSource 17 = .ok (.iconst 2, 1) := by decide +kernel
theorem dX14_addSource_18 : decode cX14_addSource 18 = .ok (.iconst 0, 1) := by decide +kernel
theorem dX14_addSource_19 : decode cX14_addSource 19 = .ok (.iconst (-1), 1) := by decide +kernel
theorem dX14_addSource_20 : decode cX14_addSource 20 = .ok (.iconst (-1), 1) := by decide +kernel
theorem dX14_addSource_21 : decode cX14_addSource 21 = .ok (.iconst 1, 1) := by decide +kernel
theorem dX14_addSource_22 : decode cX14_addSource 22 = .ok (.newarray .int, 2) := by decide +kernel
theorem dX14_addSource_24 : decode cX14_addSource 24 = .ok (.dup, 1) := by decide +kernel
theorem dX14_addSource_25 : decode cX14_addSource 25 = .ok (.iconst 0, 1) := by decide +kernel
theorem dX14_addSource_26 : decode cX14_addSource 26 = .ok (.iload_n 1, 1) := by decide +kernel
theorem dX14_addSource_27 : decode cX14_addSource 27 = .ok (.iastore, 1) := by decide +kernel
theorem dX14_addSource_28 : decode cX14_addSource 28 = .ok (.invokevirtual 75, 3) := by decide +kernel
theorem dX14_add_0 : decode cX14_add 0 = .ok (.aload_n 0, 1) := by decide +kernel
theorem dX14_add_1 : decode cX14_add 1 = .ok (.getfield 58, 3) := by decide +kernel
theorem dX14_add_4 : decode cX14_add 4 = .ok (.ifCond .ne 12, 3) := by decide +kernel
theorem dX14_add_7 : decode cX14_add 7 = .ok (.aload_n 0, 1) := by decide +kernel
theorem dX14_add_8 : decode cX14_add 8 = .ok (.getfield 47, 3) := by decide +kernel
theorem dX14_add_11 : decode cX14_add 11 = .ok (.bipush 12, 2) := by decide +kernel
theorem dX14_add_13 : decode cX14_add 13 = .ok (.if_icmp .ne 9, 3) := by decide +kernel
theorem dX14_add_22 : decode cX14_add 22 = .ok (.aload_n 0, 1) := by decide +kernel
theorem dX14_add_23 : decode cX14_add 23 = .ok (.getfield 47, 3) := by decide +kernel
theorem dX14_add_26 : decode cX14_add 26 = .ok (.istore 6, 2) := by decide +kernel
theorem dX14_add_28 : decode cX14_add 28 = .ok (.aload_n 0, 1) := by decide +kernel
theorem dX14_add_29 : decode cX14_add 29 = .ok (.getfield 9, 3) := by decide +kernel
theorem dX14_add_32 : decode cX14_add 32 = .ok (.iload 6, 2) := by decide +kernel
theorem dX14_add_34 : decode cX14_add 34 = .ok (.iload_n 2, 1) := by decide +kernel
theorem dX14_add_35 : decode cX14_add 35 = .ok (.iastore, 1) := by decide +kernel
theorem dX14_add_36 : decode cX14_add 36 = .ok (.aload_n 0, 1) := by decide +kernel
theorem dX14_add_37 : decode cX14_add 37 = .ok (.getfield 15, 3) := by decide +kernel
theorem dX14_add_40 : decode cX14_add 40 = .ok (.iload 6, 2) := by decide +kernel
theorem dX14_add_42 : decode cX14_add 42 = .ok (.aaload, 1) := by decide +kernel
theorem dX14_add_43 : decode cX14_add 43 = .ok (.iconst 0, 1) := by decide +kernel
theorem dX14_add_44 : decode cX14_add 44 = .ok (.iload_n 3, 1) := by decide +kernel
theorem dX14_add_45 : decode cX14_add 45 = .ok (.iastore, 1) := by decide +kernel
theorem dX14_add_46 : decode cX14_add 46 = .ok (.aload_n 0, 1) := by decide +kernel
theorem dX14_add_47 : decode cX14_add 47 = .ok (.getfield 15, 3) := by decide +kernel
theorem dX14_add_50 : decode cX14_add 50 = .ok (.iload 6, 2) := by decide +kernel
theorem dX14_add_52 : decode cX14_add 52 = .ok (.aaload, 1) := by decide +kernel
theorem dX14_add_53 : decode cX14_add 53 = .ok (.iconst 1, 1) := by decide +kernel
theorem dX14_add_54 : decode cX14_add 54 = .ok (.iload 4, 2) := by decide +kernel
theorem dX14_add_56 : decode cX14_add 56 = .ok (.iastore, 1) := by decide +kernel
theorem dX14_add_57 : decode cX14_add 57 = .ok (.aload 5, 2) := by decide +kernel
theorem dX14_add_59 : decode cX14_add 59 = .ok (.iconst 0, 1) := by decide +kernel
theorem dX14_add_60 : decode cX14_add 60 = .ok (.aload_n 0, 1) := by decide +kernel
theorem dX14_add_61 : decode cX14_add 61 = .ok (.getfield 18, 3) := by decide +kernel
theorem dX14_add_64 : decode cX14_add 64 = .ok (.iload 6, 2) := by decide +kernel
theorem dX14_add_66 : decode cX14_add 66 = .ok (.aaload, 1) := by decide +kernel
theorem dX14_add_67 : decode cX14_add 67 = .ok (.iconst 0, 1) := by decide +kernel
theorem dX14_add_68 : decode cX14_add 68 = .ok (.aload 5, 2) := by decide +kernel
theorem dX14_add_70 : decode cX14_add 70 = .ok (.arraylength, 1) := by decide +kernel
theorem dX14_add_71 : decode cX14_add 71 = .ok (.invokestatic 66, 3) := by decide +kernel
theorem dX14_add_74 : decode cX14_add 74 = .ok (.iload_n 2, 1) := by decide +kernel
theorem dX14_add_75 : decode cX14_add 75 = .ok (.ifCond .ne 18, 3) := by decide +kernel
theorem dX14_add_78 : decode cX14_add 78 = .ok (.aload_n 0, 1) := by decide +kernel
theorem dX14_add_79 : decode cX14_add 79 = .ok (.getfield 23, 3) := by decide +kernel
theorem dX14_add_82 : decode cX14_add 82 = .ok (.iload 6, 2) := by decide +kernel
theorem dX14_add_84 : decode cX14_add 84 = .ok (.new 21, 3) := by decide +kernel
theorem dX14_add_87 : decode cX14_add 87 = .ok (.dup, 1) := by decide +kernel
theorem dX14_add_88 : decode cX14_add 88 = .ok (.iconst 3, 1) := by decide +kernel
theorem dX14_add_89 : decode cX14_add 89 = .ok (.invokespecial 72, 3) := by decide +kernel
theorem dX14_add_92 : decode cX14_add 92 = .ok (.aastore, 1) := by decide +kernel
theorem dX14_add_93 : decode cX14_add 93 = .ok (.aload_n 0, 1) := by decide +kernel
theorem dX14_add_94 : decode cX14_add 94 = .ok (.dup, 1) := by decide +kernel
theorem dX14_add_95 : decode cX14_add 95 = .ok (.getfield 47, 3) := by decide +kernel
theorem dX14_add_98 : decode cX14_add 98 = .ok (.iconst 1, 1) := by decide +kernel
theorem dX14_add_99 : decode cX14_add 99 = .ok (.iadd, 1) := by decide +kernel
theorem dX14_add_100 : decode cX14_add 100 = .ok (.putfield 47, 3) := by decide +kernel
theorem dX14_add_103 : decode cX14_add 103 = .ok (.iload 6, 2) := by decide +kernel
theorem dX14_add_105 : decode cX14_add 105 = .ok (.ireturn, 1) := by decide +kernel
theorem dX14_addSource_31 : decode cX14_addSource 31 = .ok (.goto 8, 3) := by decide +kernel
theorem dL_law_293 : decode cL_law 293 = .ok (.aload_n 3, 1) := by decide +kernel
theorem dL_law_294 : decode cL_law 294 = .ok (.iconst 0, 1) := by decide +kernel
theorem dL_law_295 : decode cL_law 295 = .ok (.laload, 1) := by decide +kernel
theorem dL_law_296 : decode cL_law 296 = .ok (.iload 6, 2) := by decide +kernel
theorem dL_law_298 : decode cL_law 298 = .ok (.i2l, 1) := by decide +kernel
theorem dL_law_299 : decode cL_law 299 = .ok (.lcmp, 1) := by decide +kernel
theorem dL_law_300 : decode cL_law 300 = .ok (.ifCond .eq 5, 3) := by decide +kernel
theorem dL_law_308 : decode cL_law 308 = .ok (.aload_n 1, 1) := by decide +kernel
theorem dL_law_309 : decode cL_law 309 = .ok (.aload_n 0, 1) := by decide +kernel
theorem dL_law_310 : decode cL_law 310 = .ok (.iload 4, 2) := by decide +kernel
theorem dL_law_312 : decode cL_law 312 = .ok (.iconst 1, 1) := by decide +kernel
theorem dL_law_313 : decode cL_law 313 = .ok (.iadd, 1) := by decide +kernel
theorem dL_law_314 : decode cL_law 314 = .ok (.iaload, 1) := by decide +kernel
theorem dL_law_315 : decode cL_law 315 = .ok (.aload_n 0, 1) := by decide +kernel
theorem dL_law_316 : decode cL_law 316 = .ok (.iload 4, 2) := by decide +kernel
theorem dL_law_318 : decode cL_law 318 = .ok (.iconst 2, 1) := by decide +kernel
theorem dL_law_319 : decode cL_law 319 = .ok (.iadd, 1) := by decide +kernel
theorem dL_law_320 : decode cL_law 320 = .ok (.iaload, 1) := by decide +kernel
theorem dL_law_321 : decode cL_law 321 = .ok (.aload_n 0, 1) := by decide +kernel
theorem dL_law_322 : decode cL_law 322 = .ok (.iload 4, 2) := by decide +kernel
theorem dL_law_324 : decode cL_law 324 = .ok (.iconst 3, 1) := by decide +kernel
theorem dL_law_325 : decode cL_law 325 = .ok (.iadd, 1) := by decide +kernel
theorem dL_law_326 : decode cL_law 326 = .ok (.iaload, 1) := by decide +kernel
theorem dL_law_327 : decode cL_law 327 = .ok (.aload_n 3, 1) := by decide +kernel
theorem dL_law_328 : decode cL_law 328 = .ok (.invokestatic 155, 3) := by decide +kernel
theorem dL_addFilter_0 : decode cL_addFilter 0 = .ok (.aload 4, 2) := by decide +kernel
theorem dL_addFilter_2 : decode cL_addFilter 2 = .ok (.iconst 0, 1) := by decide +kernel
theorem dL_addFilter_3 : decode cL_addFilter 3 = .ok (.aload_n 0, 1) := by decide +kernel
theorem dL_addFilter_4 : decode cL_addFilter 4 = .ok (.iload_n 1, 1) := by decide +kernel
theorem dL_addFilter_5 : decode cL_addFilter 5 = .ok (.iload_n 2, 1) := by decide +kernel
theorem dL_addFilter_6 : decode cL_addFilter 6 = .ok (.iload_n 3, 1) := by decide +kernel
theorem dL_addFilter_7 : decode cL_addFilter 7 = .ok (.invokevirtual 17, 3) := by decide +kernel
theorem dX10_addFilter_0 : decode cX10_addFilter 0 = .ok (.aload_n 0, 1) := by decide +kernel
theorem dX10_addFilter_1 : decode cX10_addFilter 1 = .ok (.iload_n 1, 1) := by decide +kernel
theorem dX10_addFilter_2 : decode cX10_addFilter 2 = .ok (.invokevirtual 44, 3) := by decide +kernel
theorem dX10_stageOf_0 : decode cX10_stageOf 0 = .ok (.aload_n 0, 1) := by decide +kernel
theorem dX10_stageOf_1 : decode cX10_stageOf 1 = .ok (.getfield 12, 3) := by decide +kernel
theorem dX10_stageOf_4 : decode cX10_stageOf 4 = .ok (.iload_n 1, 1) := by decide +kernel
theorem dX10_stageOf_5 : decode cX10_stageOf 5 = .ok (.invokevirtual 270, 3) := by decide +kernel
theorem dX2_at_4 : decode cX2_at 4 = .ok (.iload_n 1, 1) := by decide +kernel
theorem dX2_at_5 : decode cX2_at 5 = .ok (.aload_n 0, 1) := by decide +kernel
theorem dX2_at_6 : decode cX2_at 6 = .ok (.getfield 12, 3) := by decide +kernel
theorem dX2_at_9 : decode cX2_at 9 = .ok (.invokevirtual 29, 3) := by decide +kernel
theorem dX2_at_12 : decode cX2_at 12 = .ok (.if_icmp .ge 17, 3) := by decide +kernel
theorem dX10_stageOf_8 : decode cX10_stageOf 8 = .ok (.astore_n 2, 1) := by decide +kernel
theorem dX10_stageOf_9 : decode cX10_stageOf 9 = .ok (.aload_n 2, 1) := by decide +kernel
theorem dX10_stageOf_10 : decode cX10_stageOf 10 = .ok (.ifnonnull 11, 3) := by decide +kernel
theorem dX10_stageOf_13 : decode cX10_stageOf 13 = .ok (.new 357, 3) := by decide +kernel
theorem dX10_stageOf_16 : decode cX10_stageOf 16 = .ok (.dup, 1) := by decide +kernel
theorem dX10_stageOf_17 : decode cX10_stageOf 17 = .ok (.invokespecial 359, 3) := by decide +kernel
theorem dX10_stageOf_20 : decode cX10_stageOf 20 = .ok (.athrow, 1) := by decide +kernel
theorem dL_addFilter_15 : decode cL_addFilter 15 = .ok (.astore 5, 2) := by decide +kernel
theorem dL_addFilter_17 : decode cL_addFilter 17 = .ok (.iconst 1, 1) := by decide +kernel
theorem dL_addFilter_18 : decode cL_addFilter 18 = .ok (.ireturn, 1) := by decide +kernel
theorem dL_law_331 : decode cL_law 331 = .ok (.istore 5, 2) := by decide +kernel
theorem dL_law_333 : decode cL_law 333 = .ok (.aload_n 2, 1) := by decide +kernel
theorem dL_law_334 : decode cL_law 334 = .ok (.aload_n 0, 1) := by decide +kernel
theorem dL_law_335 : decode cL_law 335 = .ok (.iload 4, 2) := by decide +kernel
theorem dL_law_337 : decode cL_law 337 = .ok (.iconst 1, 1) := by decide +kernel
theorem dL_law_338 : decode cL_law 338 = .ok (.iadd, 1) := by decide +kernel
theorem dL_law_339 : decode cL_law 339 = .ok (.iaload, 1) := by decide +kernel
theorem dL_law_340 : decode cL_law 340 = .ok (.aload_n 0, 1) := by decide +kernel
theorem dL_law_341 : decode cL_law 341 = .ok (.iload 4, 2) := by decide +kernel
theorem dL_law_343 : decode cL_law 343 = .ok (.iconst 2, 1) := by decide +kernel
theorem dL_law_344 : decode cL_law 344 = .ok (.iadd, 1) := by decide +kernel
theorem dL_law_345 : decode cL_law 345 = .ok (.iaload, 1) := by decide +kernel
theorem dL_law_346 : decode cL_law 346 = .ok (.aload_n 0, 1) := by decide +kernel
theorem dL_law_347 : decode cL_law 347 = .ok (.iload 4, 2) := by decide +kernel
theorem dL_law_349 : decode cL_law 349 = .ok (.iconst 3, 1) := by decide +kernel
theorem dL_law_350 : decode cL_law 350 = .ok (.iadd, 1) := by decide +kernel
theorem dL_law_351 : decode cL_law 351 = .ok (.iaload, 1) := by decide +kernel
theorem dL_law_352 : decode cL_law 352 = .ok (.invokevirtual 158, 3) := by decide +kernel
theorem dX14_addFilter_0 : decode cX14_addFilter 0 = .ok (.aload_n 0, 1) := by decide +kernel
theorem dX14_addFilter_1 : decode cX14_addFilter 1 = .ok (.iload_n 1, 1) := by decide +kernel
theorem dX14_addFilter_2 : decode cX14_addFilter 2 = .ok (.iload_n 1, 1) := by decide +kernel
theorem dX14_addFilter_3 : decode cX14_addFilter 3 = .ok (.invokevirtual 82, 3) := by decide +kernel
theorem dX14_canBegin_0 : decode cX14_canBegin 0 = .ok (.aload_n 0, 1) := by decide +kernel
theorem dX14_canBegin_1 : decode cX14_canBegin 1 = .ok (.aload_n 0, 1) := by decide +kernel
theorem dX14_canBegin_2 : decode cX14_canBegin 2 = .ok (.iload_n 1, 1) := by decide +kernel
theorem dX14_canBegin_3 : decode cX14_canBegin 3 = .ok (.invokevirtual 54, 3) := by decide +kernel
theorem dX14_isStage_0 : decode cX14_isStage 0 = .ok (.iload_n 1, 1) := by decide +kernel
theorem dX14_isStage_1 : decode cX14_isStage 1 = .ok (.iconst 0, 1) := by decide +kernel
theorem dX14_isStage_2 : decode cX14_isStage 2 = .ok (.aload_n 0, 1) := by decide +kernel
theorem dX14_isStage_3 : decode cX14_isStage 3 = .ok (.getfield 47, 3) := by decide +kernel
theorem dX14_isStage_6 : decode cX14_isStage 6 = .ok (.iconst 1, 1) := by decide +kernel
theorem dX14_isStage_7 : decode cX14_isStage 7 = .ok (.isub, 1) := by decide +kernel
theorem dX14_isStage_8 : decode cX14_isStage 8 = .ok (.invokestatic 50, 3) := by decide +kernel
theorem dX14_isStage_11 : decode cX14_isStage 11 = .ok (.ireturn, 1) := by decide +kernel
theorem dX14_canBegin_6 : decode cX14_canBegin 6 = .ok (.ifCond .eq 11, 3) := by decide +kernel
theorem dX14_canBegin_17 : decode cX14_canBegin 17 = .ok (.iconst 1, 1) := by decide +kernel
theorem dX14_canBegin_18 : decode cX14_canBegin 18 = .ok (.goto 24, 3) := by decide +kernel
theorem dX14_canBegin_42 : decode cX14_canBegin 42 = .ok (.putfield 43, 3) := by decide +kernel
theorem dX14_canBegin_45 : decode cX14_canBegin 45 = .ok (.aload_n 0, 1) := by decide +kernel
theorem dX14_canBegin_46 : decode cX14_canBegin 46 = .ok (.getfield 43, 3) := by decide +kernel
theorem dX14_canBegin_49 : decode cX14_canBegin 49 = .ok (.ifCond .ne 7, 3) := by decide +kernel
theorem dX14_canBegin_56 : decode cX14_canBegin 56 = .ok (.iconst 0, 1) := by decide +kernel
theorem dX14_canBegin_57 : decode cX14_canBegin 57 = .ok (.ireturn, 1) := by decide +kernel
theorem dX14_addFilter_6 : decode cX14_addFilter 6 = .ok (.ifCond .ne 5, 3) := by decide +kernel
theorem dX14_addFilter_9 : decode cX14_addFilter 9 = .ok (.iconst 0, 1) := by decide +kernel
theorem dX14_addFilter_10 : decode cX14_addFilter 10 = .ok (.ireturn, 1) := by decide +kernel
theorem dL_law_355 : decode cL_law 355 = .ok (.istore 6, 2) := by decide +kernel
theorem dL_law_357 : decode cL_law 357 = .ok (.aload_n 2, 1) := by decide +kernel
theorem dL_law_358 : decode cL_law 358 = .ok (.invokevirtual 152, 3) := by decide +kernel
theorem dL_law_361 : decode cL_law 361 = .ok (.iload 5, 2) := by decide +kernel
theorem dL_law_363 : decode cL_law 363 = .ok (.if_icmp .eq 5, 3) := by decide +kernel
theorem dL_law_368 : decode cL_law 368 = .ok (.iload 5, 2) := by decide +kernel
theorem dL_law_370 : decode cL_law 370 = .ok (.ifCond .ne 15, 3) := by decide +kernel
theorem dL_law_385 : decode cL_law 385 = .ok (.goto 2565, 3) := by decide +kernel
theorem dL_law_388 : decode cL_law 388 = .ok (.aload_n 1, 1) := by decide +kernel
theorem dL_law_389 : decode cL_law 389 = .ok (.aload_n 0, 1) := by decide +kernel
theorem dL_law_390 : decode cL_law 390 = .ok (.iload 4, 2) := by decide +kernel
theorem dL_law_392 : decode cL_law 392 = .ok (.iconst 1, 1) := by decide +kernel
theorem dL_law_393 : decode cL_law 393 = .ok (.iadd, 1) := by decide +kernel
theorem dL_law_394 : decode cL_law 394 = .ok (.iaload, 1) := by decide +kernel
theorem dL_law_395 : decode cL_law 395 = .ok (.aload_n 0, 1) := by decide +kernel
theorem dL_law_396 : decode cL_law 396 = .ok (.iload 4, 2) := by decide +kernel
theorem dL_law_398 : decode cL_law 398 = .ok (.iconst 2, 1) := by decide +kernel
theorem dL_law_399 : decode cL_law 399 = .ok (.iadd, 1) := by decide +kernel
theorem dL_law_400 : decode cL_law 400 = .ok (.iaload, 1) := by decide +kernel
theorem dL_law_401 : decode cL_law 401 = .ok (.aload_n 0, 1) := by decide +kernel
theorem dL_law_402 : decode cL_law 402 = .ok (.iload 4, 2) := by decide +kernel
theorem dL_law_404 : decode cL_law 404 = .ok (.iconst 3, 1) := by decide +kernel
theorem dL_law_405 : decode cL_law 405 = .ok (.iadd, 1) := by decide +kernel
theorem dL_law_406 : decode cL_law 406 = .ok (.iaload, 1) := by decide +kernel
theorem dL_law_407 : decode cL_law 407 = .ok (.aload_n 3, 1) := by decide +kernel
theorem dL_law_408 : decode cL_law 408 = .ok (.invokestatic 159, 3) := by decide +kernel
theorem dL_addMap_0 : decode cL_addMap 0 = .ok (.aload 4, 2) := by decide +kernel
theorem dL_addMap_2 : decode cL_addMap 2 = .ok (.iconst 0, 1) := by decide +kernel
theorem dL_addMap_3 : decode cL_addMap 3 = .ok (.aload_n 0, 1) := by decide +kernel
theorem dL_addMap_4 : decode cL_addMap 4 = .ok (.iload_n 1, 1) := by decide +kernel
theorem dL_addMap_5 : decode cL_addMap 5 = .ok (.iload_n 2, 1) := by decide +kernel
theorem dL_addMap_6 : decode cL_addMap 6 = .ok (.iload_n 3, 1) := by decide +kernel
theorem dL_addMap_7 : decode cL_addMap 7 = .ok (.invokevirtual 23, 3) := by decide +kernel
theorem dX10_addMap_0 : decode cX10_addMap 0 = .ok (.aload_n 0, 1) := by decide +kernel
theorem dX10_addMap_1 : decode cX10_addMap 1 = .ok (.iload_n 1, 1) := by decide +kernel
theorem dX10_addMap_2 : decode cX10_addMap 2 = .ok (.invokevirtual 44, 3) := by decide +kernel
theorem dL_addMap_15 : decode cL_addMap 15 = .ok (.astore 5, 2) := by decide +kernel
theorem dL_addMap_17 : decode cL_addMap 17 = .ok (.iconst 1, 1) := by decide +kernel
theorem dL_addMap_18 : decode cL_addMap 18 = .ok (.ireturn, 1) := by decide +kernel
theorem dL_law_411 : decode cL_law 411 = .ok (.istore 5, 2) := by decide +kernel
theorem dL_law_413 : decode cL_law 413 = .ok (.aload_n 2, 1) := by decide +kernel
theorem dL_law_414 : decode cL_law 414 = .ok (.aload_n 0, 1) := by decide +kernel
theorem dL_law_415 : decode cL_law 415 = .ok (.iload 4, 2) := by decide +kernel
theorem dL_law_417 : decode cL_law 417 = .ok (.iconst 1, 1) := by decide +kernel
theorem dL_law_418 : decode cL_law 418 = .ok (.iadd, 1) := by decide +kernel
theorem dL_law_419 : decode cL_law 419 = .ok (.iaload, 1) := by decide +kernel
theorem dL_law_420 : decode cL_law 420 = .ok (.aload_n 0, 1) := by decide +kernel
theorem dL_law_421 : decode cL_law 421 = .ok (.iload 4, 2) := by decide +kernel
theorem dL_law_423 : decode cL_law 423 = .ok (.iconst 2, 1) := by decide +kernel
theorem dL_law_424 : decode cL_law 424 = .ok (.iadd, 1) := by decide +kernel
theorem dL_law_425 : decode cL_law 425 = .ok (.iaload, 1) := by decide +kernel
theorem dL_law_426 : decode cL_law 426 = .ok (.aload_n 0, 1) := by decide +kernel
theorem dL_law_427 : decode cL_law 427 = .ok (.iload 4, 2) := by decide +kernel
theorem dL_law_429 : decode cL_law 429 = .ok (.iconst 3, 1) := by decide +kernel
theorem dL_law_430 : decode cL_law 430 = .ok (.iadd, 1) := by decide +kernel
theorem dL_law_431 : decode cL_law 431 = .ok (.iaload, 1) := by decide +kernel
theorem dL_law_432 : decode cL_law 432 = .ok (.invokevirtual 161, 3) := by decide +kernel
theorem dX14_addMap_0 : decode cX14_addMap 0 = .ok (.aload_n 0, 1) := by decide +kernel
theorem dX14_addMap_1 : decode cX14_addMap 1 = .ok (.iload_n 1, 1) := by decide +kernel
theorem dX14_addMap_2 : decode cX14_addMap 2 = .ok (.iload_n 1, 1) := by decide +kernel
theorem dX14_addMap_3 : decode cX14_addMap 3 = .ok (.invokevirtual 82, 3) := by decide +kernel
theorem dX14_addMap_6 : decode cX14_addMap 6 = .ok (.ifCond .ne 5, 3) := by decide +kernel
theorem dX14_addMap_9 : decode cX14_addMap 9 = .ok (.iconst 0, 1) := by decide +kernel
theorem dX14_addMap_10 : decode cX14_addMap 10 = .ok (.ireturn, 1) := by decide +kernel
theorem dL_law_435 : decode cL_law 435 = .ok (.istore 6, 2) := by decide +kernel
theorem dL_law_437 : decode cL_law 437 = .ok (.aload_n 2, 1) := by decide +kernel
theorem dL_law_438 : decode cL_law 438 = .ok (.invokevirtual 152, 3) := by decide +kernel
theorem dL_law_441 : decode cL_law 441 = .ok (.iload 5, 2) := by decide +kernel
theorem dL_law_443 : decode cL_law 443 = .ok (.if_icmp .eq 5, 3) := by decide +kernel
theorem dL_law_448 : decode cL_law 448 = .ok (.iload 5, 2) := by decide +kernel
theorem dL_law_450 : decode cL_law 450 = .ok (.ifCond .ne 15, 3) := by decide +kernel
theorem dL_law_465 : decode cL_law 465 = .ok (.goto 2485, 3) := by decide +kernel
theorem dL_law_468 : decode cL_law 468 = .ok (.aload_n 1, 1) := by decide +kernel
theorem dL_law_469 : decode cL_law 469 = .ok (.aload_n 0, 1) := by decide +kernel
theorem dL_law_470 : decode cL_law 470 = .ok (.iload 4, 2) := by decide +kernel
theorem dL_law_472 : decode cL_law 472 = .ok (.iconst 1, 1) := by decide +kernel
theorem dL_law_473 : decode cL_law 473 = .ok (.iadd, 1) := by decide +kernel
theorem dL_law_474 : decode cL_law 474 = .ok (.iaload, 1) := by decide +kernel
theorem dL_law_475 : decode cL_law 475 = .ok (.aload_n 0, 1) := by decide +kernel
theorem dL_law_476 : decode cL_law 476 = .ok (.iload 4, 2) := by decide +kernel
theorem dL_law_478 : decode cL_law 478 = .ok (.iconst 2, 1) := by decide +kernel
theorem dL_law_479 : decode cL_law 479 = .ok (.iadd, 1) := by decide +kernel
theorem dL_law_480 : decode cL_law 480 = .ok (.iaload, 1) := by decide +kernel
theorem dL_law_481 : decode cL_law 481 = .ok (.aload_n 0, 1) := by decide +kernel
theorem dL_law_482 : decode cL_law 482 = .ok (.iload 4, 2) := by decide +kernel
theorem dL_law_484 : decode cL_law 484 = .ok (.iconst 3, 1) := by decide +kernel
theorem dL_law_485 : decode cL_law 485 = .ok (.iadd, 1) := by decide +kernel
theorem dL_law_486 : decode cL_law 486 = .ok (.iaload, 1) := by decide +kernel
theorem dL_law_487 : decode cL_law 487 = .ok (.aload_n 0, 1) := by decide +kernel
theorem dL_law_488 : decode cL_law 488 = .ok (.iload 4, 2) := by decide +kernel
theorem dL_law_490 : decode cL_law 490 = .ok (.iconst 4, 1) := by decide +kernel
theorem dL_law_491 : decode cL_law 491 = .ok (.iadd, 1) := by decide +kernel
theorem dL_law_492 : decode cL_law 492 = .ok (.iaload, 1) := by decide +kernel
theorem dL_law_493 : decode cL_law 493 = .ok (.aload_n 0, 1) := by decide +kernel
theorem dL_law_494 : decode cL_law 494 = .ok (.iload 4, 2) := by decide +kernel
theorem dL_law_496 : decode cL_law 496 = .ok (.iconst 5, 1) := by decide +kernel
theorem dL_law_497 : decode cL_law 497 = .ok (.iadd, 1) := by decide +kernel
theorem dL_law_498 : decode cL_law 498 = .ok (.iaload, 1) := by decide +kernel
theorem dL_law_499 : decode cL_law 499 = .ok (.aload_n 3, 1) := by decide +kernel
theorem dL_law_500 : decode cL_law 500 = .ok (.invokestatic 162, 3) := by decide +kernel
theorem dL_addWindow_0 : decode cL_addWindow 0 = .ok (.aload 6, 2) := by decide +kernel
theorem dL_addWindow_2 : decode cL_addWindow 2 = .ok (.iconst 0, 1) := by decide +kernel
theorem dL_addWindow_3 : decode cL_addWindow 3 = .ok (.aload_n 0, 1) := by decide +kernel
theorem dL_addWindow_4 : decode cL_addWindow 4 = .ok (.iload_n 1, 1) := by decide +kernel
theorem dL_addWindow_5 : decode cL_addWindow 5 = .ok (.iload_n 2, 1) := by decide +kernel
theorem dL_addWindow_6 : decode cL_addWindow 6 = .ok (.iload_n 3, 1) := by decide +kernel
theorem dL_addWindow_7 : decode cL_addWindow 7 = .ok (.iload 4, 2) := by decide +kernel
theorem dL_addWindow_9 : decode cL_addWindow 9 = .ok (.iload 5, 2) := by decide +kernel
theorem dL_addWindow_11 : decode cL_addWindow 11 = .ok (.invokevirtual 26, 3) := by decide +kernel
theorem dX10_addWindow_0 : decode cX10_addWindow 0 = .ok (.aload_n 0, 1) := by decide +kernel
theorem dX10_addWindow_1 : decode cX10_addWindow 1 = .ok (.iload_n 1, 1) := by decide +kernel
theorem dX10_addWindow_2 : decode cX10_addWindow 2 = .ok (.invokevirtual 44, 3) := by decide +kernel
theorem dL_addWindow_19 : decode cL_addWindow 19 = .ok (.astore 7, 2) := by decide +kernel
theorem dL_addWindow_21 : decode cL_addWindow 21 = .ok (.iconst 1, 1) := by decide +kernel
theorem dL_addWindow_22 : decode cL_addWindow 22 = .ok (.ireturn, 1) := by decide +kernel
theorem dL_law_503 : decode cL_law 503 = .ok (.istore 5, 2) := by decide +kernel
theorem dL_law_505 : decode cL_law 505 = .ok (.aload_n 2, 1) := by decide +kernel
theorem dL_law_506 : decode cL_law 506 = .ok (.aload_n 0, 1) := by decide +kernel
theorem dL_law_507 : decode cL_law 507 = .ok (.iload 4, 2) := by decide +kernel
theorem dL_law_509 : decode cL_law 509 = .ok (.iconst 1, 1) := by decide +kernel
theorem dL_law_510 : decode cL_law 510 = .ok (.iadd, 1) := by decide +kernel
theorem dL_law_511 : decode cL_law 511 = .ok (.iaload, 1) := by decide +kernel
theorem dL_law_512 : decode cL_law 512 = .ok (.aload_n 0, 1) := by decide +kernel
theorem dL_law_513 : decode cL_law 513 = .ok (.iload 4, 2) := by decide +kernel
theorem dL_law_515 : decode cL_law 515 = .ok (.iconst 2, 1) := by decide +kernel
theorem dL_law_516 : decode cL_law 516 = .ok (.iadd, 1) := by decide +kernel
theorem dL_law_517 : decode cL_law 517 = .ok (.iaload, 1) := by decide +kernel
theorem dL_law_518 : decode cL_law 518 = .ok (.aload_n 0, 1) := by decide +kernel
theorem dL_law_519 : decode cL_law 519 = .ok (.iload 4, 2) := by decide +kernel
theorem dL_law_521 : decode cL_law 521 = .ok (.iconst 3, 1) := by decide +kernel
theorem dL_law_522 : decode cL_law 522 = .ok (.iadd, 1) := by decide +kernel
theorem dL_law_523 : decode cL_law 523 = .ok (.iaload, 1) := by decide +kernel
theorem dL_law_524 : decode cL_law 524 = .ok (.aload_n 0, 1) := by decide +kernel
theorem dL_law_525 : decode cL_law 525 = .ok (.iload 4, 2) := by decide +kernel
theorem dL_law_527 : decode cL_law 527 = .ok (.iconst 4, 1) := by decide +kernel
theorem dL_law_528 : decode cL_law 528 = .ok (.iadd, 1) := by decide +kernel
theorem dL_law_529 : decode cL_law 529 = .ok (.iaload, 1) := by decide +kernel
theorem dL_law_530 : decode cL_law 530 = .ok (.aload_n 0, 1) := by decide +kernel
theorem dL_law_531 : decode cL_law 531 = .ok (.iload 4, 2) := by decide +kernel
theorem dL_law_533 : decode cL_law 533 = .ok (.iconst 5, 1) := by decide +kernel
theorem dL_law_534 : decode cL_law 534 = .ok (.iadd, 1) := by decide +kernel
theorem dL_law_535 : decode cL_law 535 = .ok (.iaload, 1) := by decide +kernel
theorem dL_law_536 : decode cL_law 536 = .ok (.invokevirtual 165, 3) := by decide +kernel
theorem dX14_addWindow_0 : decode cX14_addWindow 0 = .ok (.aload_n 0, 1) := by decide +kernel
theorem dX14_addWindow_1 : decode cX14_addWindow 1 = .ok (.iload_n 1, 1) := by decide +kernel
theorem dX14_addWindow_2 : decode cX14_addWindow 2 = .ok (.iload_n 1, 1) := by decide +kernel
theorem dX14_addWindow_3 : decode cX14_addWindow 3 = .ok (.invokevirtual 82, 3) := by decide +kernel
theorem dX14_addWindow_6 : decode cX14_addWindow 6 = .ok (.ifCond .ne 5, 3) := by decide +kernel
theorem dX14_addWindow_9 : decode cX14_addWindow 9 = .ok (.iconst 0, 1) := by decide +kernel
theorem dX14_addWindow_10 : decode cX14_addWindow 10 = .ok (.ireturn, 1) := by decide +kernel
theorem dL_law_539 : decode cL_law 539 = .ok (.istore 6, 2) := by decide +kernel
theorem dL_law_541 : decode cL_law 541 = .ok (.aload_n 2, 1) := by decide +kernel
theorem dL_law_542 : decode cL_law 542 = .ok (.invokevirtual 152, 3) := by decide +kernel
theorem dL_law_545 : decode cL_law 545 = .ok (.iload 5, 2) := by decide +kernel
theorem dL_law_547 : decode cL_law 547 = .ok (.if_icmp .eq 5, 3) := by decide +kernel
theorem dL_law_552 : decode cL_law 552 = .ok (.iload 5, 2) := by decide +kernel
theorem dL_law_554 : decode cL_law 554 = .ok (.ifCond .ne 15, 3) := by decide +kernel
theorem dL_law_569 : decode cL_law 569 = .ok (.goto 2381, 3) := by decide +kernel
theorem dL_law_572 : decode cL_law 572 = .ok (.aload_n 1, 1) := by decide +kernel
theorem dL_law_573 : decode cL_law 573 = .ok (.aload_n 0, 1) := by decide +kernel
theorem dL_law_574 : decode cL_law 574 = .ok (.iload 4, 2) := by decide +kernel
theorem dL_law_576 : decode cL_law 576 = .ok (.iconst 1, 1) := by decide +kernel
theorem dL_law_577 : decode cL_law 577 = .ok (.iadd, 1) := by decide +kernel
theorem dL_law_578 : decode cL_law 578 = .ok (.iaload, 1) := by decide +kernel
theorem dL_law_579 : decode cL_law 579 = .ok (.aload_n 0, 1) := by decide +kernel
theorem dL_law_580 : decode cL_law 580 = .ok (.iload 4, 2) := by decide +kernel
theorem dL_law_582 : decode cL_law 582 = .ok (.iconst 2, 1) := by decide +kernel
theorem dL_law_583 : decode cL_law 583 = .ok (.iadd, 1) := by decide +kernel
theorem dL_law_584 : decode cL_law 584 = .ok (.iaload, 1) := by decide +kernel
theorem dL_law_585 : decode cL_law 585 = .ok (.aload_n 0, 1) := by decide +kernel
theorem dL_law_586 : decode cL_law 586 = .ok (.iload 4, 2) := by decide +kernel
theorem dL_law_588 : decode cL_law 588 = .ok (.iconst 3, 1) := by decide +kernel
theorem dL_law_589 : decode cL_law 589 = .ok (.iadd, 1) := by decide +kernel
theorem dL_law_590 : decode cL_law 590 = .ok (.iaload, 1) := by decide +kernel
theorem dL_law_591 : decode cL_law 591 = .ok (.aload_n 3, 1) := by decide +kernel
theorem dL_law_592 : decode cL_law 592 = .ok (.invokestatic 166, 3) := by decide +kernel
theorem dL_addSession_0 : decode cL_addSession 0 = .ok (.aload 4, 2) := by decide +kernel
theorem dL_addSession_2 : decode cL_addSession 2 = .ok (.iconst 0, 1) := by decide +kernel
theorem dL_addSession_3 : decode cL_addSession 3 = .ok (.aload_n 0, 1) := by decide +kernel
theorem dL_addSession_4 : decode cL_addSession 4 = .ok (.iload_n 1, 1) := by decide +kernel
theorem dL_addSession_5 : decode cL_addSession 5 = .ok (.iload_n 2, 1) := by decide +kernel
theorem dL_addSession_6 : decode cL_addSession 6 = .ok (.iload_n 3, 1) := by decide +kernel
theorem dL_addSession_7 : decode cL_addSession 7 = .ok (.invokevirtual 30, 3) := by decide +kernel
theorem dX10_addSession_0 : decode cX10_addSession 0 = .ok (.aload_n 0, 1) := by decide +kernel
theorem dX10_addSession_1 : decode cX10_addSession 1 = .ok (.iload_n 1, 1) := by decide +kernel
theorem dX10_addSession_2 : decode cX10_addSession 2 = .ok (.invokevirtual 44, 3) := by decide +kernel
theorem dL_addSession_15 : decode cL_addSession 15 = .ok (.astore 5, 2) := by decide +kernel
theorem dL_addSession_17 : decode cL_addSession 17 = .ok (.iconst 1, 1) := by decide +kernel
theorem dL_addSession_18 : decode cL_addSession 18 = .ok (.ireturn, 1) := by decide +kernel
theorem dL_law_595 : decode cL_law 595 = .ok (.istore 5, 2) := by decide +kernel
theorem dL_law_597 : decode cL_law 597 = .ok (.aload_n 2, 1) := by decide +kernel
theorem dL_law_598 : decode cL_law 598 = .ok (.aload_n 0, 1) := by decide +kernel
theorem dL_law_599 : decode cL_law 599 = .ok (.iload 4, 2) := by decide +kernel
theorem dL_law_601 : decode cL_law 601 = .ok (.iconst 1, 1) := by decide +kernel
theorem dL_law_602 : decode cL_law 602 = .ok (.iadd, 1) := by decide +kernel
theorem dL_law_603 : decode cL_law 603 = .ok (.iaload, 1) := by decide +kernel
theorem dL_law_604 : decode cL_law 604 = .ok (.aload_n 0, 1) := by decide +kernel
theorem dL_law_605 : decode cL_law 605 = .ok (.iload 4, 2) := by decide +kernel
theorem dL_law_607 : decode cL_law 607 = .ok (.iconst 2, 1) := by decide +kernel
theorem dL_law_608 : decode cL_law 608 = .ok (.iadd, 1) := by decide +kernel
theorem dL_law_609 : decode cL_law 609 = .ok (.iaload, 1) := by decide +kernel
theorem dL_law_610 : decode cL_law 610 = .ok (.aload_n 0, 1) := by decide +kernel
theorem dL_law_611 : decode cL_law 611 = .ok (.iload 4, 2) := by decide +kernel
theorem dL_law_613 : decode cL_law 613 = .ok (.iconst 3, 1) := by decide +kernel
theorem dL_law_614 : decode cL_law 614 = .ok (.iadd, 1) := by decide +kernel
theorem dL_law_615 : decode cL_law 615 = .ok (.iaload, 1) := by decide +kernel
theorem dL_law_616 : decode cL_law 616 = .ok (.invokevirtual 168, 3) := by decide +kernel
theorem dX14_addSession_0 : decode cX14_addSession 0 = .ok (.aload_n 0, 1) := by decide +kernel
theorem dX14_addSession_1 : decode cX14_addSession 1 = .ok (.iload_n 1, 1) := by decide +kernel
theorem dX14_addSession_2 : decode cX14_addSession 2 = .ok (.iload_n 1, 1) := by decide +kernel
theorem dX14_addSession_3 : decode cX14_addSession 3 = .ok (.invokevirtual 82, 3) := by decide +kernel
theorem dX14_addSession_6 : decode cX14_addSession 6 = .ok (.ifCond .ne 5, 3) := by decide +kernel
theorem dX14_addSession_9 : decode cX14_addSession 9 = .ok (.iconst 0, 1) := by decide +kernel
theorem dX14_addSession_10 : decode cX14_addSession 10 = .ok (.ireturn, 1) := by decide +kernel
theorem dL_law_619 : decode cL_law 619 = .ok (.istore 6, 2) := by decide +kernel
theorem dL_law_621 : decode cL_law 621 = .ok (.aload_n 2, 1) := by decide +kernel
theorem dL_law_622 : decode cL_law 622 = .ok (.invokevirtual 152, 3) := by decide +kernel
theorem dL_law_625 : decode cL_law 625 = .ok (.iload 5, 2) := by decide +kernel
theorem dL_law_627 : decode cL_law 627 = .ok (.if_icmp .eq 5, 3) := by decide +kernel
theorem dL_law_632 : decode cL_law 632 = .ok (.iload 5, 2) := by decide +kernel
theorem dL_law_634 : decode cL_law 634 = .ok (.ifCond .ne 15, 3) := by decide +kernel
theorem dL_law_649 : decode cL_law 649 = .ok (.goto 2301, 3) := by decide +kernel
theorem dL_law_652 : decode cL_law 652 = .ok (.aload_n 1, 1) := by decide +kernel
theorem dL_law_653 : decode cL_law 653 = .ok (.aload_n 0, 1) := by decide +kernel
theorem dL_law_654 : decode cL_law 654 = .ok (.iload 4, 2) := by decide +kernel
theorem dL_law_656 : decode cL_law 656 = .ok (.iconst 1, 1) := by decide +kernel
theorem dL_law_657 : decode cL_law 657 = .ok (.iadd, 1) := by decide +kernel
theorem dL_law_658 : decode cL_law 658 = .ok (.iaload, 1) := by decide +kernel
theorem dL_law_659 : decode cL_law 659 = .ok (.aload_n 0, 1) := by decide +kernel
theorem dL_law_660 : decode cL_law 660 = .ok (.iload 4, 2) := by decide +kernel
theorem dL_law_662 : decode cL_law 662 = .ok (.iconst 2, 1) := by decide +kernel
theorem dL_law_663 : decode cL_law 663 = .ok (.iadd, 1) := by decide +kernel
theorem dL_law_664 : decode cL_law 664 = .ok (.iaload, 1) := by decide +kernel
theorem dL_law_665 : decode cL_law 665 = .ok (.aload_n 0, 1) := by decide +kernel
theorem dL_law_666 : decode cL_law 666 = .ok (.iload 4, 2) := by decide +kernel
theorem dL_law_668 : decode cL_law 668 = .ok (.iconst 3, 1) := by decide +kernel
theorem dL_law_669 : decode cL_law 669 = .ok (.iadd, 1) := by decide +kernel
theorem dL_law_670 : decode cL_law 670 = .ok (.iaload, 1) := by decide +kernel
theorem dL_law_671 : decode cL_law 671 = .ok (.aload_n 0, 1) := by decide +kernel
theorem dL_law_672 : decode cL_law 672 = .ok (.iload 4, 2) := by decide +kernel
theorem dL_law_674 : decode cL_law 674 = .ok (.iconst 4, 1) := by decide +kernel
theorem dL_law_675 : decode cL_law 675 = .ok (.iadd, 1) := by decide +kernel
theorem dL_law_676 : decode cL_law 676 = .ok (.iaload, 1) := by decide +kernel
theorem dL_law_677 : decode cL_law 677 = .ok (.aload_n 0, 1) := by decide +kernel
theorem dL_law_678 : decode cL_law 678 = .ok (.iload 4, 2) := by decide +kernel
theorem dL_law_680 : decode cL_law 680 = .ok (.iconst 5, 1) := by decide +kernel
theorem dL_law_681 : decode cL_law 681 = .ok (.iadd, 1) := by decide +kernel
theorem dL_law_682 : decode cL_law 682 = .ok (.iaload, 1) := by decide +kernel
theorem dL_law_683 : decode cL_law 683 = .ok (.aload_n 3, 1) := by decide +kernel
theorem dL_law_684 : decode cL_law 684 = .ok (.invokestatic 169, 3) := by decide +kernel
theorem dL_addJoin_0 : decode cL_addJoin 0 = .ok (.aload 6, 2) := by decide +kernel
theorem dL_addJoin_2 : decode cL_addJoin 2 = .ok (.iconst 0, 1) := by decide +kernel
theorem dL_addJoin_3 : decode cL_addJoin 3 = .ok (.aload_n 0, 1) := by decide +kernel
theorem dL_addJoin_4 : decode cL_addJoin 4 = .ok (.iload_n 1, 1) := by decide +kernel
theorem dL_addJoin_5 : decode cL_addJoin 5 = .ok (.iload_n 2, 1) := by decide +kernel
theorem dL_addJoin_6 : decode cL_addJoin 6 = .ok (.iload_n 3, 1) := by decide +kernel
theorem dL_addJoin_7 : decode cL_addJoin 7 = .ok (.iload 4, 2) := by decide +kernel
theorem dL_addJoin_9 : decode cL_addJoin 9 = .ok (.iload 5, 2) := by decide +kernel
theorem dL_addJoin_11 : decode cL_addJoin 11 = .ok (.invokevirtual 33, 3) := by decide +kernel
theorem dX10_addJoin_0 : decode cX10_addJoin 0 = .ok (.aload_n 0, 1) := by decide +kernel
theorem dX10_addJoin_1 : decode cX10_addJoin 1 = .ok (.iload_n 1, 1) := by decide +kernel
theorem dX10_addJoin_2 : decode cX10_addJoin 2 = .ok (.invokevirtual 44, 3) := by decide +kernel
theorem dL_addJoin_19 : decode cL_addJoin 19 = .ok (.astore 7, 2) := by decide +kernel
theorem dL_addJoin_21 : decode cL_addJoin 21 = .ok (.iconst 1, 1) := by decide +kernel
theorem dL_addJoin_22 : decode cL_addJoin 22 = .ok (.ireturn, 1) := by decide +kernel
theorem dL_law_687 : decode cL_law 687 = .ok (.istore 5, 2) := by decide +kernel
theorem dL_law_689 : decode cL_law 689 = .ok (.aload_n 2, 1) := by decide +kernel
theorem dL_law_690 : decode cL_law 690 = .ok (.aload_n 0, 1) := by decide +kernel
theorem dL_law_691 : decode cL_law 691 = .ok (.iload 4, 2) := by decide +kernel
theorem dL_law_693 : decode cL_law 693 = .ok (.iconst 1, 1) := by decide +kernel
theorem dL_law_694 : decode cL_law 694 = .ok (.iadd, 1) := by decide +kernel
theorem dL_law_695 : decode cL_law 695 = .ok (.iaload, 1) := by decide +kernel
theorem dL_law_696 : decode cL_law 696 = .ok (.aload_n 0, 1) := by decide +kernel
theorem dL_law_697 : decode cL_law 697 = .ok (.iload 4, 2) := by decide +kernel
theorem dL_law_699 : decode cL_law 699 = .ok (.iconst 2, 1) := by decide +kernel
theorem dL_law_700 : decode cL_law 700 = .ok (.iadd, 1) := by decide +kernel
theorem dL_law_701 : decode cL_law 701 = .ok (.iaload, 1) := by decide +kernel
theorem dL_law_702 : decode cL_law 702 = .ok (.aload_n 0, 1) := by decide +kernel
theorem dL_law_703 : decode cL_law 703 = .ok (.iload 4, 2) := by decide +kernel
theorem dL_law_705 : decode cL_law 705 = .ok (.iconst 3, 1) := by decide +kernel
theorem dL_law_706 : decode cL_law 706 = .ok (.iadd, 1) := by decide +kernel
theorem dL_law_707 : decode cL_law 707 = .ok (.iaload, 1) := by decide +kernel
theorem dL_law_708 : decode cL_law 708 = .ok (.aload_n 0, 1) := by decide +kernel
theorem dL_law_709 : decode cL_law 709 = .ok (.iload 4, 2) := by decide +kernel
theorem dL_law_711 : decode cL_law 711 = .ok (.iconst 4, 1) := by decide +kernel
theorem dL_law_712 : decode cL_law 712 = .ok (.iadd, 1) := by decide +kernel
theorem dL_law_713 : decode cL_law 713 = .ok (.iaload, 1) := by decide +kernel
theorem dL_law_714 : decode cL_law 714 = .ok (.aload_n 0, 1) := by decide +kernel
theorem dL_law_715 : decode cL_law 715 = .ok (.iload 4, 2) := by decide +kernel
theorem dL_law_717 : decode cL_law 717 = .ok (.iconst 5, 1) := by decide +kernel
theorem dL_law_718 : decode cL_law 718 = .ok (.iadd, 1) := by decide +kernel
theorem dL_law_719 : decode cL_law 719 = .ok (.iaload, 1) := by decide +kernel
theorem dL_law_720 : decode cL_law 720 = .ok (.invokevirtual 171, 3) := by decide +kernel
theorem dX14_addJoin_0 : decode cX14_addJoin 0 = .ok (.aload_n 0, 1) := by decide +kernel
theorem dX14_addJoin_1 : decode cX14_addJoin 1 = .ok (.iload_n 1, 1) := by decide +kernel
theorem dX14_addJoin_2 : decode cX14_addJoin 2 = .ok (.iload_n 2, 1) := by decide +kernel
theorem dX14_addJoin_3 : decode cX14_addJoin 3 = .ok (.invokevirtual 82, 3) := by decide +kernel
theorem dX14_addJoin_6 : decode cX14_addJoin 6 = .ok (.ifCond .ne 5, 3) := by decide +kernel
theorem dX14_addJoin_9 : decode cX14_addJoin 9 = .ok (.iconst 0, 1) := by decide +kernel
theorem dX14_addJoin_10 : decode cX14_addJoin 10 = .ok (.ireturn, 1) := by decide +kernel
theorem dL_law_723 : decode cL_law 723 = .ok (.istore 6, 2) := by decide +kernel
theorem dL_law_725 : decode cL_law 725 = .ok (.aload_n 2, 1) := by decide +kernel
theorem dL_law_726 : decode cL_law 726 = .ok (.invokevirtual 152, 3) := by decide +kernel
theorem dL_law_729 : decode cL_law 729 = .ok (.iload 5, 2) := by decide +kernel
theorem dL_law_731 : decode cL_law 731 = .ok (.if_icmp .eq 5, 3) := by decide +kernel
theorem dL_law_736 : decode cL_law 736 = .ok (.iload 5, 2) := by decide +kernel
theorem dL_law_738 : decode cL_law 738 = .ok (.ifCond .ne 15, 3) := by decide +kernel
theorem dL_law_753 : decode cL_law 753 = .ok (.goto 2197, 3) := by decide +kernel
theorem dL_law_756 : decode cL_law 756 = .ok (.aload_n 1, 1) := by decide +kernel
theorem dL_law_757 : decode cL_law 757 = .ok (.aload_n 0, 1) := by decide +kernel
theorem dL_law_758 : decode cL_law 758 = .ok (.iload 4, 2) := by decide +kernel
theorem dL_law_760 : decode cL_law 760 = .ok (.iconst 1, 1) := by decide +kernel
theorem dL_law_761 : decode cL_law 761 = .ok (.iadd, 1) := by decide +kernel
theorem dL_law_762 : decode cL_law 762 = .ok (.iaload, 1) := by decide +kernel
theorem dL_law_763 : decode cL_law 763 = .ok (.aload_n 0, 1) := by decide +kernel
theorem dL_law_764 : decode cL_law 764 = .ok (.iload 4, 2) := by decide +kernel
theorem dL_law_766 : decode cL_law 766 = .ok (.iconst 2, 1) := by decide +kernel
theorem dL_law_767 : decode cL_law 767 = .ok (.iadd, 1) := by decide +kernel
theorem dL_law_768 : decode cL_law 768 = .ok (.iaload, 1) := by decide +kernel
theorem dL_law_769 : decode cL_law 769 = .ok (.aload_n 3, 1) := by decide +kernel
theorem dL_law_770 : decode cL_law 770 = .ok (.invokestatic 172, 3) := by decide +kernel
theorem dL_addMerge_0 : decode cL_addMerge 0 = .ok (.aload_n 3, 1) := by decide +kernel
theorem dL_addMerge_1 : decode cL_addMerge 1 = .ok (.iconst 0, 1) := by decide +kernel
theorem dL_addMerge_2 : decode cL_addMerge 2 = .ok (.aload_n 0, 1) := by decide +kernel
theorem dL_addMerge_3 : decode cL_addMerge 3 = .ok (.iload_n 1, 1) := by decide +kernel
theorem dL_addMerge_4 : decode cL_addMerge 4 = .ok (.iload_n 2, 1) := by decide +kernel
theorem dL_addMerge_5 : decode cL_addMerge 5 = .ok (.invokevirtual 36, 3) := by decide +kernel
theorem dX10_addMerge_0 : decode cX10_addMerge 0 = .ok (.aload_n 0, 1) := by decide +kernel
theorem dX10_addMerge_1 : decode cX10_addMerge 1 = .ok (.iload_n 1, 1) := by decide +kernel
theorem dX10_addMerge_2 : decode cX10_addMerge 2 = .ok (.invokevirtual 44, 3) := by decide +kernel
theorem dL_addMerge_13 : decode cL_addMerge 13 = .ok (.astore 4, 2) := by decide +kernel
theorem dL_addMerge_15 : decode cL_addMerge 15 = .ok (.iconst 1, 1) := by decide +kernel
theorem dL_addMerge_16 : decode cL_addMerge 16 = .ok (.ireturn, 1) := by decide +kernel
theorem dL_law_773 : decode cL_law 773 = .ok (.istore 5, 2) := by decide +kernel
theorem dL_law_775 : decode cL_law 775 = .ok (.aload_n 2, 1) := by decide +kernel
theorem dL_law_776 : decode cL_law 776 = .ok (.aload_n 0, 1) := by decide +kernel
theorem dL_law_777 : decode cL_law 777 = .ok (.iload 4, 2) := by decide +kernel
theorem dL_law_779 : decode cL_law 779 = .ok (.iconst 1, 1) := by decide +kernel
theorem dL_law_780 : decode cL_law 780 = .ok (.iadd, 1) := by decide +kernel
theorem dL_law_781 : decode cL_law 781 = .ok (.iaload, 1) := by decide +kernel
theorem dL_law_782 : decode cL_law 782 = .ok (.aload_n 0, 1) := by decide +kernel
theorem dL_law_783 : decode cL_law 783 = .ok (.iload 4, 2) := by decide +kernel
theorem dL_law_785 : decode cL_law 785 = .ok (.iconst 2, 1) := by decide +kernel
theorem dL_law_786 : decode cL_law 786 = .ok (.iadd, 1) := by decide +kernel
theorem dL_law_787 : decode cL_law 787 = .ok (.iaload, 1) := by decide +kernel
theorem dL_law_788 : decode cL_law 788 = .ok (.invokevirtual 175, 3) := by decide +kernel
theorem dX14_addMerge_0 : decode cX14_addMerge 0 = .ok (.aload_n 0, 1) := by decide +kernel
theorem dX14_addMerge_1 : decode cX14_addMerge 1 = .ok (.iload_n 1, 1) := by decide +kernel
theorem dX14_addMerge_2 : decode cX14_addMerge 2 = .ok (.iload_n 2, 1) := by decide +kernel
theorem dX14_addMerge_3 : decode cX14_addMerge 3 = .ok (.invokevirtual 82, 3) := by decide +kernel
theorem dX14_addMerge_6 : decode cX14_addMerge 6 = .ok (.ifCond .ne 5, 3) := by decide +kernel
theorem dX14_addMerge_9 : decode cX14_addMerge 9 = .ok (.iconst 0, 1) := by decide +kernel
theorem dX14_addMerge_10 : decode cX14_addMerge 10 = .ok (.ireturn, 1) := by decide +kernel
theorem dL_law_791 : decode cL_law 791 = .ok (.istore 6, 2) := by decide +kernel
theorem dL_law_793 : decode cL_law 793 = .ok (.aload_n 2, 1) := by decide +kernel
theorem dL_law_794 : decode cL_law 794 = .ok (.invokevirtual 152, 3) := by decide +kernel
theorem dL_law_797 : decode cL_law 797 = .ok (.iload 5, 2) := by decide +kernel
theorem dL_law_799 : decode cL_law 799 = .ok (.if_icmp .eq 5, 3) := by decide +kernel
theorem dL_law_804 : decode cL_law 804 = .ok (.iload 5, 2) := by decide +kernel
theorem dL_law_806 : decode cL_law 806 = .ok (.ifCond .ne 15, 3) := by decide +kernel
theorem dL_law_821 : decode cL_law 821 = .ok (.goto 2129, 3) := by decide +kernel
theorem dL_law_824 : decode cL_law 824 = .ok (.aload_n 1, 1) := by decide +kernel
theorem dL_law_825 : decode cL_law 825 = .ok (.aload_n 0, 1) := by decide +kernel
theorem dL_law_826 : decode cL_law 826 = .ok (.iload 4, 2) := by decide +kernel
theorem dL_law_828 : decode cL_law 828 = .ok (.iconst 1, 1) := by decide +kernel
theorem dL_law_829 : decode cL_law 829 = .ok (.iadd, 1) := by decide +kernel
theorem dL_law_830 : decode cL_law 830 = .ok (.iaload, 1) := by decide +kernel
theorem dL_law_831 : decode cL_law 831 = .ok (.aload_n 3, 1) := by decide +kernel
theorem dL_law_832 : decode cL_law 832 = .ok (.invokestatic 176, 3) := by decide +kernel
theorem dL_addSink_0 : decode cL_addSink 0 = .ok (.aload_n 2, 1) := by decide +kernel
theorem dL_addSink_1 : decode cL_addSink 1 = .ok (.iconst 0, 1) := by decide +kernel
theorem dL_addSink_2 : decode cL_addSink 2 = .ok (.aload_n 0, 1) := by decide +kernel
theorem dL_addSink_3 : decode cL_addSink 3 = .ok (.iload_n 1, 1) := by decide +kernel
theorem dL_addSink_4 : decode cL_addSink 4 = .ok (.invokevirtual 40, 3) := by decide +kernel
theorem dX10_addSink_0 : decode cX10_addSink 0 = .ok (.aload_n 0, 1) := by decide +kernel
theorem dX10_addSink_1 : decode cX10_addSink 1 = .ok (.iload_n 1, 1) := by decide +kernel
theorem dX10_addSink_2 : decode cX10_addSink 2 = .ok (.invokevirtual 44, 3) := by decide +kernel
theorem dL_addSink_12 : decode cL_addSink 12 = .ok (.astore_n 3, 1) := by decide +kernel
theorem dL_addSink_13 : decode cL_addSink 13 = .ok (.iconst 1, 1) := by decide +kernel
theorem dL_addSink_14 : decode cL_addSink 14 = .ok (.ireturn, 1) := by decide +kernel
theorem dL_law_835 : decode cL_law 835 = .ok (.istore 5, 2) := by decide +kernel
theorem dL_law_837 : decode cL_law 837 = .ok (.aload_n 2, 1) := by decide +kernel
theorem dL_law_838 : decode cL_law 838 = .ok (.aload_n 0, 1) := by decide +kernel
theorem dL_law_839 : decode cL_law 839 = .ok (.iload 4, 2) := by decide +kernel
theorem dL_law_841 : decode cL_law 841 = .ok (.iconst 1, 1) := by decide +kernel
theorem dL_law_842 : decode cL_law 842 = .ok (.iadd, 1) := by decide +kernel
theorem dL_law_843 : decode cL_law 843 = .ok (.iaload, 1) := by decide +kernel
theorem dL_law_844 : decode cL_law 844 = .ok (.invokevirtual 178, 3) := by decide +kernel
theorem dX14_addSink_0 : decode cX14_addSink 0 = .ok (.aload_n 0, 1) := by decide +kernel
theorem dX14_addSink_1 : decode cX14_addSink 1 = .ok (.iload_n 1, 1) := by decide +kernel
theorem dX14_addSink_2 : decode cX14_addSink 2 = .ok (.iload_n 1, 1) := by decide +kernel
theorem dX14_addSink_3 : decode cX14_addSink 3 = .ok (.invokevirtual 82, 3) := by decide +kernel
theorem dX14_addSink_6 : decode cX14_addSink 6 = .ok (.ifCond .eq 18, 3) := by decide +kernel
theorem dX14_addSink_24 : decode cX14_addSink 24 = .ok (.iconst 0, 1) := by decide +kernel
theorem dX14_addSink_25 : decode cX14_addSink 25 = .ok (.ireturn, 1) := by decide +kernel
theorem dL_law_847 : decode cL_law 847 = .ok (.istore 6, 2) := by decide +kernel
theorem dL_law_849 : decode cL_law 849 = .ok (.aload_n 2, 1) := by decide +kernel
theorem dL_law_850 : decode cL_law 850 = .ok (.invokevirtual 152, 3) := by decide +kernel
theorem dL_law_853 : decode cL_law 853 = .ok (.iload 5, 2) := by decide +kernel
theorem dL_law_855 : decode cL_law 855 = .ok (.if_icmp .eq 5, 3) := by decide +kernel
theorem dL_law_860 : decode cL_law 860 = .ok (.iload 5, 2) := by decide +kernel
theorem dL_law_862 : decode cL_law 862 = .ok (.ifCond .ne 15, 3) := by decide +kernel
theorem dL_law_877 : decode cL_law 877 = .ok (.goto 2073, 3) := by decide +kernel
theorem dL_law_880 : decode cL_law 880 = .ok (.aload_n 1, 1) := by decide +kernel
theorem dL_law_881 : decode cL_law 881 = .ok (.aload_n 3, 1) := by decide +kernel
theorem dL_law_882 : decode cL_law 882 = .ok (.invokestatic 179, 3) := by decide +kernel
theorem dL_start_0 : decode cL_start 0 = .ok (.aload_n 1, 1) := by decide +kernel
theorem dL_start_1 : decode cL_start 1 = .ok (.iconst 0, 1) := by decide +kernel
theorem dL_start_2 : decode cL_start 2 = .ok (.aload_n 0, 1) := by decide +kernel
theorem dL_start_3 : decode cL_start 3 = .ok (.invokevirtual 43, 3) := by decide +kernel
theorem dX10_start_0 : decode cX10_start 0 = .ok (.aload_n 0, 1) := by decide +kernel
theorem dX10_start_1 : decode cX10_start 1 = .ok (.getfield 84, 3) := by decide +kernel
theorem dX10_start_4 : decode cX10_start 4 = .ok (.ifCond .ne 13, 3) := by decide +kernel
theorem dX10_start_7 : decode cX10_start 7 = .ok (.aload_n 0, 1) := by decide +kernel
theorem dX10_start_8 : decode cX10_start 8 = .ok (.getfield 12, 3) := by decide +kernel
theorem dX10_start_11 : decode cX10_start 11 = .ok (.invokevirtual 88, 3) := by decide +kernel
theorem dX10_start_14 : decode cX10_start 14 = .ok (.ifCond .ne 11, 3) := by decide +kernel
theorem dX10_start_17 : decode cX10_start 17 = .ok (.new 91, 3) := by decide +kernel
theorem dX10_start_20 : decode cX10_start 20 = .ok (.dup, 1) := by decide +kernel
theorem dX10_start_21 : decode cX10_start 21 = .ok (.invokespecial 93, 3) := by decide +kernel
theorem dX10_start_24 : decode cX10_start 24 = .ok (.athrow, 1) := by decide +kernel
theorem dL_start_11 : decode cL_start 11 = .ok (.astore_n 2, 1) := by decide +kernel
theorem dL_start_12 : decode cL_start 12 = .ok (.iconst 1, 1) := by decide +kernel
theorem dL_start_13 : decode cL_start 13 = .ok (.ireturn, 1) := by decide +kernel
theorem dL_law_885 : decode cL_law 885 = .ok (.istore 5, 2) := by decide +kernel
theorem dL_law_887 : decode cL_law 887 = .ok (.aload_n 2, 1) := by decide +kernel
theorem dL_law_888 : decode cL_law 888 = .ok (.invokevirtual 182, 3) := by decide +kernel
theorem dX14_start_0 : decode cX14_start 0 = .ok (.aload_n 0, 1) := by decide +kernel
theorem dX14_start_1 : decode cX14_start 1 = .ok (.iconst 0, 1) := by decide +kernel
theorem dX14_start_2 : decode cX14_start 2 = .ok (.putfield 43, 3) := by decide +kernel
theorem dX14_start_5 : decode cX14_start 5 = .ok (.iconst 0, 1) := by decide +kernel
theorem dX14_start_6 : decode cX14_start 6 = .ok (.istore_n 1, 1) := by decide +kernel
theorem dX14_start_7 : decode cX14_start 7 = .ok (.iconst 0, 1) := by decide +kernel
theorem dX14_start_8 : decode cX14_start 8 = .ok (.istore_n 2, 1) := by decide +kernel
theorem dX14_start_9 : decode cX14_start 9 = .ok (.iload_n 2, 1) := by decide +kernel
theorem dX14_start_10 : decode cX14_start 10 = .ok (.aload_n 0, 1) := by decide +kernel
theorem dX14_start_11 : decode cX14_start 11 = .ok (.getfield 47, 3) := by decide +kernel
theorem dX14_start_14 : decode cX14_start 14 = .ok (.if_icmp .ge 26, 3) := by decide +kernel
theorem dX14_start_40 : decode cX14_start 40 = .ok (.aload_n 0, 1) := by decide +kernel
theorem dX14_start_41 : decode cX14_start 41 = .ok (.getfield 58, 3) := by decide +kernel
theorem dX14_start_44 : decode cX14_start 44 = .ok (.ifCond .ne 7, 3) := by decide +kernel
theorem dX14_start_47 : decode cX14_start 47 = .ok (.iload_n 1, 1) := by decide +kernel
theorem dX14_start_48 : decode cX14_start 48 = .ok (.ifCond .ne 9, 3) := by decide +kernel
theorem dX14_start_51 : decode cX14_start 51 = .ok (.aload_n 0, 1) := by decide +kernel
theorem dX14_start_52 : decode cX14_start 52 = .ok (.iconst 1, 1) := by decide +kernel
theorem dX14_start_53 : decode cX14_start 53 = .ok (.invokevirtual 62, 3) := by decide +kernel
theorem dX14_start_56 : decode cX14_start 56 = .ok (.ireturn, 1) := by decide +kernel
theorem dL_law_891 : decode cL_law 891 = .ok (.istore 6, 2) := by decide +kernel
theorem dL_law_893 : decode cL_law 893 = .ok (.aload_n 2, 1) := by decide +kernel
theorem dL_law_894 : decode cL_law 894 = .ok (.invokevirtual 152, 3) := by decide +kernel
theorem dL_law_897 : decode cL_law 897 = .ok (.iload 5, 2) := by decide +kernel
theorem dL_law_899 : decode cL_law 899 = .ok (.if_icmp .eq 5, 3) := by decide +kernel
theorem dL_law_904 : decode cL_law 904 = .ok (.iload 5, 2) := by decide +kernel
theorem dL_law_906 : decode cL_law 906 = .ok (.ifCond .ne 15, 3) := by decide +kernel
theorem dL_law_921 : decode cL_law 921 = .ok (.goto 2029, 3) := by decide +kernel
theorem dL_law_924 : decode cL_law 924 = .ok (.aload_n 1, 1) := by decide +kernel
theorem dL_law_925 : decode cL_law 925 = .ok (.aload_n 0, 1) := by decide +kernel
theorem dL_law_926 : decode cL_law 926 = .ok (.iload 4, 2) := by decide +kernel
theorem dL_law_928 : decode cL_law 928 = .ok (.iconst 1, 1) := by decide +kernel
theorem dL_law_929 : decode cL_law 929 = .ok (.iadd, 1) := by decide +kernel
theorem dL_law_930 : decode cL_law 930 = .ok (.iaload, 1) := by decide +kernel
theorem dL_law_931 : decode cL_law 931 = .ok (.aload_n 3, 1) := by decide +kernel
theorem dL_law_932 : decode cL_law 932 = .ok (.invokestatic 183, 3) := by decide +kernel
theorem dL_setCapacity_0 : decode cL_setCapacity 0 = .ok (.aload_n 2, 1) := by decide +kernel
theorem dL_setCapacity_1 : decode cL_setCapacity 1 = .ok (.iconst 0, 1) := by decide +kernel
theorem dL_setCapacity_2 : decode cL_setCapacity 2 = .ok (.aload_n 0, 1) := by decide +kernel
theorem dL_setCapacity_3 : decode cL_setCapacity 3 = .ok (.iload_n 1, 1) := by decide +kernel
theorem dL_setCapacity_4 : decode cL_setCapacity 4 = .ok (.invokevirtual 47, 3) := by decide +kernel
theorem dX10_setCapacity_0 : decode cX10_setCapacity 0 = .ok (.iload_n 1, 1) := by decide +kernel
theorem dX10_setCapacity_1 : decode cX10_setCapacity 1 = .ok (.iconst 1, 1) := by decide +kernel
theorem dX10_setCapacity_2 : decode cX10_setCapacity 2 = .ok (.bipush 20, 2) := by decide +kernel
theorem dX10_setCapacity_4 : decode cX10_setCapacity 4 = .ok (.invokestatic 21, 3) := by decide +kernel
theorem dX10_setCapacity_7 : decode cX10_setCapacity 7 = .ok (.invokestatic 25, 3) := by decide +kernel
theorem dL_setCapacity_12 : decode cL_setCapacity 12 = .ok (.astore_n 3, 1) := by decide +kernel
theorem dL_setCapacity_13 : decode cL_setCapacity 13 = .ok (.iconst 1, 1) := by decide +kernel
theorem dL_setCapacity_14 : decode cL_setCapacity 14 = .ok (.ireturn, 1) := by decide +kernel
theorem dL_law_935 : decode cL_law 935 = .ok (.istore 5, 2) := by decide +kernel
theorem dL_law_937 : decode cL_law 937 = .ok (.aload_n 2, 1) := by decide +kernel
theorem dL_law_938 : decode cL_law 938 = .ok (.aload_n 0, 1) := by decide +kernel
theorem dL_law_939 : decode cL_law 939 = .ok (.iload 4, 2) := by decide +kernel
theorem dL_law_941 : decode cL_law 941 = .ok (.iconst 1, 1) := by decide +kernel
theorem dL_law_942 : decode cL_law 942 = .ok (.iadd, 1) := by decide +kernel
theorem dL_law_943 : decode cL_law 943 = .ok (.iaload, 1) := by decide +kernel
theorem dL_law_944 : decode cL_law 944 = .ok (.invokevirtual 185, 3) := by decide +kernel
theorem dX14_setCapacity_0 : decode cX14_setCapacity 0 = .ok (.aload_n 0, 1) := by decide +kernel
theorem dX14_setCapacity_1 : decode cX14_setCapacity 1 = .ok (.iconst 0, 1) := by decide +kernel
theorem dX14_setCapacity_2 : decode cX14_setCapacity 2 = .ok (.putfield 43, 3) := by decide +kernel
theorem dX14_setCapacity_5 : decode cX14_setCapacity 5 = .ok (.iload_n 1, 1) := by decide +kernel
theorem dX14_setCapacity_6 : decode cX14_setCapacity 6 = .ok (.iconst 1, 1) := by decide +kernel
theorem dX14_setCapacity_7 : decode cX14_setCapacity 7 = .ok (.bipush 20, 2) := by decide +kernel
theorem dX14_setCapacity_9 : decode cX14_setCapacity 9 = .ok (.invokestatic 50, 3) := by decide +kernel
theorem dX14_setCapacity_12 : decode cX14_setCapacity 12 = .ok (.ifCond .ne 9, 3) := by decide +kernel
theorem dX14_setCapacity_15 : decode cX14_setCapacity 15 = .ok (.aload_n 0, 1) := by decide +kernel
theorem dX14_setCapacity_16 : decode cX14_setCapacity 16 = .ok (.iconst 1, 1) := by decide +kernel
theorem dX14_setCapacity_17 : decode cX14_setCapacity 17 = .ok (.invokevirtual 62, 3) := by decide +kernel
theorem dX14_setCapacity_20 : decode cX14_setCapacity 20 = .ok (.ireturn, 1) := by decide +kernel
theorem dL_law_947 : decode cL_law 947 = .ok (.istore 6, 2) := by decide +kernel
theorem dL_law_949 : decode cL_law 949 = .ok (.aload_n 2, 1) := by decide +kernel
theorem dL_law_950 : decode cL_law 950 = .ok (.invokevirtual 152, 3) := by decide +kernel
theorem dL_law_953 : decode cL_law 953 = .ok (.iload 5, 2) := by decide +kernel
theorem dL_law_955 : decode cL_law 955 = .ok (.if_icmp .eq 5, 3) := by decide +kernel
theorem dL_law_960 : decode cL_law 960 = .ok (.iload 5, 2) := by decide +kernel
theorem dL_law_962 : decode cL_law 962 = .ok (.ifCond .ne 15, 3) := by decide +kernel
theorem dL_law_977 : decode cL_law 977 = .ok (.goto 1973, 3) := by decide +kernel
theorem dX10_setCapacity_10 : decode cX10_setCapacity 10 = .ok (.aload_n 0, 1) := by decide +kernel
theorem dX10_setCapacity_11 : decode cX10_setCapacity 11 = .ok (.getfield 12, 3) := by decide +kernel
theorem dX10_setCapacity_14 : decode cX10_setCapacity 14 = .ok (.getfield 94, 3) := by decide +kernel
theorem dX10_setCapacity_17 : decode cX10_setCapacity 17 = .ok (.istore_n 2, 1) := by decide +kernel
theorem dX10_setCapacity_18 : decode cX10_setCapacity 18 = .ok (.aload_n 0, 1) := by decide +kernel
theorem dX10_setCapacity_19 : decode cX10_setCapacity 19 = .ok (.getfield 12, 3) := by decide +kernel
theorem dX10_setCapacity_22 : decode cX10_setCapacity 22 = .ok (.iload_n 1, 1) := by decide +kernel
theorem dX10_setCapacity_23 : decode cX10_setCapacity 23 = .ok (.putfield 94, 3) := by decide +kernel
theorem dX10_setCapacity_26 : decode cX10_setCapacity 26 = .ok (.iload_n 2, 1) := by decide +kernel
theorem dX10_setCapacity_27 : decode cX10_setCapacity 27 = .ok (.ireturn, 1) := by decide +kernel
theorem dL_setCapacity_7 : decode cL_setCapacity 7 = .ok (.i2l, 1) := by decide +kernel
theorem dL_setCapacity_8 : decode cL_setCapacity 8 = .ok (.lastore, 1) := by decide +kernel
theorem dL_setCapacity_9 : decode cL_setCapacity 9 = .ok (.goto 6, 3) := by decide +kernel
theorem dL_setCapacity_15 : decode cL_setCapacity 15 = .ok (.iconst 0, 1) := by decide +kernel
theorem dL_setCapacity_16 : decode cL_setCapacity 16 = .ok (.ireturn, 1) := by decide +kernel
theorem dX14_setCapacity_21 : decode cX14_setCapacity 21 = .ok (.aload_n 0, 1) := by decide +kernel
theorem dX14_setCapacity_22 : decode cX14_setCapacity 22 = .ok (.getfield 36, 3) := by decide +kernel
theorem dX14_setCapacity_25 : decode cX14_setCapacity 25 = .ok (.getfield 86, 3) := by decide +kernel
theorem dX14_setCapacity_28 : decode cX14_setCapacity 28 = .ok (.istore_n 2, 1) := by decide +kernel
theorem dX14_setCapacity_29 : decode cX14_setCapacity 29 = .ok (.aload_n 0, 1) := by decide +kernel
theorem dX14_setCapacity_30 : decode cX14_setCapacity 30 = .ok (.getfield 36, 3) := by decide +kernel
theorem dX14_setCapacity_33 : decode cX14_setCapacity 33 = .ok (.iload_n 1, 1) := by decide +kernel
theorem dX14_setCapacity_34 : decode cX14_setCapacity 34 = .ok (.putfield 86, 3) := by decide +kernel
theorem dX14_setCapacity_37 : decode cX14_setCapacity 37 = .ok (.iload_n 2, 1) := by decide +kernel
theorem dX14_setCapacity_38 : decode cX14_setCapacity 38 = .ok (.ireturn, 1) := by decide +kernel
theorem dL_law_965 : decode cL_law 965 = .ok (.aload_n 3, 1) := by decide +kernel
theorem dL_law_966 : decode cL_law 966 = .ok (.iconst 0, 1) := by decide +kernel
theorem dL_law_967 : decode cL_law 967 = .ok (.laload, 1) := by decide +kernel
theorem dL_law_968 : decode cL_law 968 = .ok (.iload 6, 2) := by decide +kernel
theorem dL_law_970 : decode cL_law 970 = .ok (.i2l, 1) := by decide +kernel
theorem dL_law_971 : decode cL_law 971 = .ok (.lcmp, 1) := by decide +kernel
theorem dL_law_972 : decode cL_law 972 = .ok (.ifCond .eq 5, 3) := by decide +kernel
theorem dL_law_980 : decode cL_law 980 = .ok (.aload_n 1, 1) := by decide +kernel
theorem dL_law_981 : decode cL_law 981 = .ok (.aload_n 0, 1) := by decide +kernel
theorem dL_law_982 : decode cL_law 982 = .ok (.iload 4, 2) := by decide +kernel
theorem dL_law_984 : decode cL_law 984 = .ok (.iconst 1, 1) := by decide +kernel
theorem dL_law_985 : decode cL_law 985 = .ok (.iadd, 1) := by decide +kernel
theorem dL_law_986 : decode cL_law 986 = .ok (.iaload, 1) := by decide +kernel
theorem dL_law_987 : decode cL_law 987 = .ok (.aload_n 0, 1) := by decide +kernel
theorem dL_law_988 : decode cL_law 988 = .ok (.iload 4, 2) := by decide +kernel
theorem dL_law_990 : decode cL_law 990 = .ok (.iconst 2, 1) := by decide +kernel
theorem dL_law_991 : decode cL_law 991 = .ok (.iadd, 1) := by decide +kernel
theorem dL_law_992 : decode cL_law 992 = .ok (.iaload, 1) := by decide +kernel
theorem dL_law_993 : decode cL_law 993 = .ok (.aload_n 0, 1) := by decide +kernel
theorem dL_law_994 : decode cL_law 994 = .ok (.iload 4, 2) := by decide +kernel
theorem dL_law_996 : decode cL_law 996 = .ok (.iconst 3, 1) := by decide +kernel
theorem dL_law_997 : decode cL_law 997 = .ok (.iadd, 1) := by decide +kernel
theorem dL_law_998 : decode cL_law 998 = .ok (.iaload, 1) := by decide +kernel
theorem dL_law_999 : decode cL_law 999 = .ok (.aload_n 0, 1) := by decide +kernel
theorem dL_law_1000 : decode cL_law 1000 = .ok (.iload 4, 2) := by decide +kernel
theorem dL_law_1002 : decode cL_law 1002 = .ok (.iconst 4, 1) := by decide +kernel
theorem dL_law_1003 : decode cL_law 1003 = .ok (.iadd, 1) := by decide +kernel
theorem dL_law_1004 : decode cL_law 1004 = .ok (.iaload, 1) := by decide +kernel
theorem dL_law_1005 : decode cL_law 1005 = .ok (.aload_n 3, 1) := by decide +kernel
theorem dL_law_1006 : decode cL_law 1006 = .ok (.invokestatic 186, 3) := by decide +kernel
theorem dL_offer_0 : decode cL_offer 0 = .ok (.aload 5, 2) := by decide +kernel
theorem dL_offer_2 : decode cL_offer 2 = .ok (.iconst 0, 1) := by decide +kernel
theorem dL_offer_3 : decode cL_offer 3 = .ok (.aload_n 0, 1) := by decide +kernel
theorem dL_offer_4 : decode cL_offer 4 = .ok (.iload_n 1, 1) := by decide +kernel
theorem dL_offer_5 : decode cL_offer 5 = .ok (.iload_n 2, 1) := by decide +kernel
theorem dL_offer_6 : decode cL_offer 6 = .ok (.iload_n 3, 1) := by decide +kernel
theorem dL_offer_7 : decode cL_offer 7 = .ok (.iload 4, 2) := by decide +kernel
theorem dL_offer_9 : decode cL_offer 9 = .ok (.invokevirtual 50, 3) := by decide +kernel
theorem dX10_offer_0 : decode cX10_offer 0 = .ok (.aload_n 0, 1) := by decide +kernel
theorem dX10_offer_1 : decode cX10_offer 1 = .ok (.iload_n 1, 1) := by decide +kernel
theorem dX10_offer_2 : decode cX10_offer 2 = .ok (.invokevirtual 97, 3) := by decide +kernel
theorem dX10_sourceOf_0 : decode cX10_sourceOf 0 = .ok (.aload_n 0, 1) := by decide +kernel
theorem dX10_sourceOf_1 : decode cX10_sourceOf 1 = .ok (.iload_n 1, 1) := by decide +kernel
theorem dX10_sourceOf_2 : decode cX10_sourceOf 2 = .ok (.invokevirtual 44, 3) := by decide +kernel
theorem dL_offer_17 : decode cL_offer 17 = .ok (.astore 6, 2) := by decide +kernel
theorem dL_offer_19 : decode cL_offer 19 = .ok (.iconst 1, 1) := by decide +kernel
theorem dL_offer_20 : decode cL_offer 20 = .ok (.ireturn, 1) := by decide +kernel
theorem dL_law_1009 : decode cL_law 1009 = .ok (.istore 5, 2) := by decide +kernel
theorem dL_law_1011 : decode cL_law 1011 = .ok (.aload_n 2, 1) := by decide +kernel
theorem dL_law_1012 : decode cL_law 1012 = .ok (.aload_n 0, 1) := by decide +kernel
theorem dL_law_1013 : decode cL_law 1013 = .ok (.iload 4, 2) := by decide +kernel
theorem dL_law_1015 : decode cL_law 1015 = .ok (.iconst 1, 1) := by decide +kernel
theorem dL_law_1016 : decode cL_law 1016 = .ok (.iadd, 1) := by decide +kernel
theorem dL_law_1017 : decode cL_law 1017 = .ok (.iaload, 1) := by decide +kernel
theorem dL_law_1018 : decode cL_law 1018 = .ok (.aload_n 0, 1) := by decide +kernel
theorem dL_law_1019 : decode cL_law 1019 = .ok (.iload 4, 2) := by decide +kernel
theorem dL_law_1021 : decode cL_law 1021 = .ok (.iconst 2, 1) := by decide +kernel
theorem dL_law_1022 : decode cL_law 1022 = .ok (.iadd, 1) := by decide +kernel
theorem dL_law_1023 : decode cL_law 1023 = .ok (.iaload, 1) := by decide +kernel
theorem dL_law_1024 : decode cL_law 1024 = .ok (.aload_n 0, 1) := by decide +kernel
theorem dL_law_1025 : decode cL_law 1025 = .ok (.iload 4, 2) := by decide +kernel
theorem dL_law_1027 : decode cL_law 1027 = .ok (.iconst 3, 1) := by decide +kernel
theorem dL_law_1028 : decode cL_law 1028 = .ok (.iadd, 1) := by decide +kernel
theorem dL_law_1029 : decode cL_law 1029 = .ok (.iaload, 1) := by decide +kernel
theorem dL_law_1030 : decode cL_law 1030 = .ok (.aload_n 0, 1) := by decide +kernel
theorem dL_law_1031 : decode cL_law 1031 = .ok (.iload 4, 2) := by decide +kernel
theorem dL_law_1033 : decode cL_law 1033 = .ok (.iconst 4, 1) := by decide +kernel
theorem dL_law_1034 : decode cL_law 1034 = .ok (.iadd, 1) := by decide +kernel
theorem dL_law_1035 : decode cL_law 1035 = .ok (.iaload, 1) := by decide +kernel
theorem dL_law_1036 : decode cL_law 1036 = .ok (.invokevirtual 189, 3) := by decide +kernel
theorem dX14_offer_0 : decode cX14_offer 0 = .ok (.aload_n 0, 1) := by decide +kernel
theorem dX14_offer_1 : decode cX14_offer 1 = .ok (.iconst 0, 1) := by decide +kernel
theorem dX14_offer_2 : decode cX14_offer 2 = .ok (.putfield 43, 3) := by decide +kernel
theorem dX14_offer_5 : decode cX14_offer 5 = .ok (.aload_n 0, 1) := by decide +kernel
theorem dX14_offer_6 : decode cX14_offer 6 = .ok (.iload_n 1, 1) := by decide +kernel
theorem dX14_offer_7 : decode cX14_offer 7 = .ok (.invokevirtual 54, 3) := by decide +kernel
theorem dX14_offer_10 : decode cX14_offer 10 = .ok (.ifCond .ne 9, 3) := by decide +kernel
theorem dX14_offer_13 : decode cX14_offer 13 = .ok (.aload_n 0, 1) := by decide +kernel
theorem dX14_offer_14 : decode cX14_offer 14 = .ok (.iconst 1, 1) := by decide +kernel
theorem dX14_offer_15 : decode cX14_offer 15 = .ok (.invokevirtual 62, 3) := by decide +kernel
theorem dX14_offer_18 : decode cX14_offer 18 = .ok (.ireturn, 1) := by decide +kernel
theorem dL_law_1039 : decode cL_law 1039 = .ok (.istore 6, 2) := by decide +kernel
theorem dL_law_1041 : decode cL_law 1041 = .ok (.aload_n 2, 1) := by decide +kernel
theorem dL_law_1042 : decode cL_law 1042 = .ok (.invokevirtual 152, 3) := by decide +kernel
theorem dL_law_1045 : decode cL_law 1045 = .ok (.iload 5, 2) := by decide +kernel
theorem dL_law_1047 : decode cL_law 1047 = .ok (.if_icmp .eq 5, 3) := by decide +kernel
theorem dL_law_1052 : decode cL_law 1052 = .ok (.iload 5, 2) := by decide +kernel
theorem dL_law_1054 : decode cL_law 1054 = .ok (.ifCond .ne 15, 3) := by decide +kernel
theorem dL_law_1069 : decode cL_law 1069 = .ok (.goto 1881, 3) := by decide +kernel
theorem dL_law_1072 : decode cL_law 1072 = .ok (.aload_n 1, 1) := by decide +kernel
theorem dL_law_1073 : decode cL_law 1073 = .ok (.aload_n 0, 1) := by decide +kernel
theorem dL_law_1074 : decode cL_law 1074 = .ok (.iload 4, 2) := by decide +kernel
theorem dL_law_1076 : decode cL_law 1076 = .ok (.iconst 1, 1) := by decide +kernel
theorem dL_law_1077 : decode cL_law 1077 = .ok (.iadd, 1) := by decide +kernel
theorem dL_law_1078 : decode cL_law 1078 = .ok (.iaload, 1) := by decide +kernel
theorem dL_law_1079 : decode cL_law 1079 = .ok (.aload_n 3, 1) := by decide +kernel
theorem dL_law_1080 : decode cL_law 1080 = .ok (.invokestatic 190, 3) := by decide +kernel
theorem dL_close_0 : decode cL_close 0 = .ok (.aload_n 2, 1) := by decide +kernel
theorem dL_close_1 : decode cL_close 1 = .ok (.iconst 0, 1) := by decide +kernel
theorem dL_close_2 : decode cL_close 2 = .ok (.aload_n 0, 1) := by decide +kernel
theorem dL_close_3 : decode cL_close 3 = .ok (.iload_n 1, 1) := by decide +kernel
theorem dL_close_4 : decode cL_close 4 = .ok (.invokevirtual 54, 3) := by decide +kernel
theorem dX10_close_0 : decode cX10_close 0 = .ok (.aload_n 0, 1) := by decide +kernel
theorem dX10_close_1 : decode cX10_close 1 = .ok (.iload_n 1, 1) := by decide +kernel
theorem dX10_close_2 : decode cX10_close 2 = .ok (.invokevirtual 97, 3) := by decide +kernel
theorem dL_close_12 : decode cL_close 12 = .ok (.astore_n 3, 1) := by decide +kernel
theorem dL_close_13 : decode cL_close 13 = .ok (.iconst 1, 1) := by decide +kernel
theorem dL_close_14 : decode cL_close 14 = .ok (.ireturn, 1) := by decide +kernel
theorem dL_law_1083 : decode cL_law 1083 = .ok (.istore 5, 2) := by decide +kernel
theorem dL_law_1085 : decode cL_law 1085 = .ok (.aload_n 2, 1) := by decide +kernel
theorem dL_law_1086 : decode cL_law 1086 = .ok (.aload_n 0, 1) := by decide +kernel
theorem dL_law_1087 : decode cL_law 1087 = .ok (.iload 4, 2) := by decide +kernel
theorem dL_law_1089 : decode cL_law 1089 = .ok (.iconst 1, 1) := by decide +kernel
theorem dL_law_1090 : decode cL_law 1090 = .ok (.iadd, 1) := by decide +kernel
theorem dL_law_1091 : decode cL_law 1091 = .ok (.iaload, 1) := by decide +kernel
theorem dL_law_1092 : decode cL_law 1092 = .ok (.invokevirtual 192, 3) := by decide +kernel
theorem dX14_close_0 : decode cX14_close 0 = .ok (.aload_n 0, 1) := by decide +kernel
theorem dX14_close_1 : decode cX14_close 1 = .ok (.iconst 0, 1) := by decide +kernel
theorem dX14_close_2 : decode cX14_close 2 = .ok (.putfield 43, 3) := by decide +kernel
theorem dX14_close_5 : decode cX14_close 5 = .ok (.aload_n 0, 1) := by decide +kernel
theorem dX14_close_6 : decode cX14_close 6 = .ok (.iload_n 1, 1) := by decide +kernel
theorem dX14_close_7 : decode cX14_close 7 = .ok (.invokevirtual 54, 3) := by decide +kernel
theorem dX14_close_10 : decode cX14_close 10 = .ok (.ifCond .ne 9, 3) := by decide +kernel
theorem dX14_close_13 : decode cX14_close 13 = .ok (.aload_n 0, 1) := by decide +kernel
theorem dX14_close_14 : decode cX14_close 14 = .ok (.iconst 1, 1) := by decide +kernel
theorem dX14_close_15 : decode cX14_close 15 = .ok (.invokevirtual 62, 3) := by decide +kernel
theorem dX14_close_18 : decode cX14_close 18 = .ok (.ireturn, 1) := by decide +kernel
theorem dL_law_1095 : decode cL_law 1095 = .ok (.istore 6, 2) := by decide +kernel
theorem dL_law_1097 : decode cL_law 1097 = .ok (.aload_n 2, 1) := by decide +kernel
theorem dL_law_1098 : decode cL_law 1098 = .ok (.invokevirtual 152, 3) := by decide +kernel
theorem dL_law_1101 : decode cL_law 1101 = .ok (.iload 5, 2) := by decide +kernel
theorem dL_law_1103 : decode cL_law 1103 = .ok (.if_icmp .eq 5, 3) := by decide +kernel
theorem dL_law_1108 : decode cL_law 1108 = .ok (.iload 5, 2) := by decide +kernel
theorem dL_law_1110 : decode cL_law 1110 = .ok (.ifCond .ne 15, 3) := by decide +kernel
theorem dL_law_1125 : decode cL_law 1125 = .ok (.goto 1825, 3) := by decide +kernel
theorem dL_law_1128 : decode cL_law 1128 = .ok (.aload_n 1, 1) := by decide +kernel
theorem dL_law_1129 : decode cL_law 1129 = .ok (.aload_n 0, 1) := by decide +kernel
theorem dL_law_1130 : decode cL_law 1130 = .ok (.iload 4, 2) := by decide +kernel
theorem dL_law_1132 : decode cL_law 1132 = .ok (.iconst 1, 1) := by decide +kernel
theorem dL_law_1133 : decode cL_law 1133 = .ok (.iadd, 1) := by decide +kernel
theorem dL_law_1134 : decode cL_law 1134 = .ok (.iaload, 1) := by decide +kernel
theorem dL_law_1135 : decode cL_law 1135 = .ok (.aload_n 3, 1) := by decide +kernel
theorem dL_law_1136 : decode cL_law 1136 = .ok (.invokestatic 193, 3) := by decide +kernel
theorem dL_work_0 : decode cL_work 0 = .ok (.aload_n 2, 1) := by decide +kernel
theorem dL_work_1 : decode cL_work 1 = .ok (.iconst 0, 1) := by decide +kernel
theorem dL_work_2 : decode cL_work 2 = .ok (.aload_n 0, 1) := by decide +kernel
theorem dL_work_3 : decode cL_work 3 = .ok (.iload_n 1, 1) := by decide +kernel
theorem dL_work_4 : decode cL_work 4 = .ok (.invokevirtual 57, 3) := by decide +kernel
theorem dX10_work_0 : decode cX10_work 0 = .ok (.iload_n 1, 1) := by decide +kernel
theorem dX10_work_1 : decode cX10_work 1 = .ok (.iconst 1, 1) := by decide +kernel
theorem dX10_work_2 : decode cX10_work 2 = .ok (.sipush 200, 3) := by decide +kernel
theorem dX10_work_5 : decode cX10_work 5 = .ok (.invokestatic 21, 3) := by decide +kernel
theorem dX10_work_8 : decode cX10_work 8 = .ok (.invokestatic 25, 3) := by decide +kernel
theorem dL_work_12 : decode cL_work 12 = .ok (.astore_n 3, 1) := by decide +kernel
theorem dL_work_13 : decode cL_work 13 = .ok (.iconst 1, 1) := by decide +kernel
theorem dL_work_14 : decode cL_work 14 = .ok (.ireturn, 1) := by decide +kernel
theorem dL_law_1139 : decode cL_law 1139 = .ok (.istore 5, 2) := by decide +kernel
theorem dL_law_1141 : decode cL_law 1141 = .ok (.aload_n 2, 1) := by decide +kernel
theorem dL_law_1142 : decode cL_law 1142 = .ok (.aload_n 0, 1) := by decide +kernel
theorem dL_law_1143 : decode cL_law 1143 = .ok (.iload 4, 2) := by decide +kernel
theorem dL_law_1145 : decode cL_law 1145 = .ok (.iconst 1, 1) := by decide +kernel
theorem dL_law_1146 : decode cL_law 1146 = .ok (.iadd, 1) := by decide +kernel
theorem dL_law_1147 : decode cL_law 1147 = .ok (.iaload, 1) := by decide +kernel
theorem dL_law_1148 : decode cL_law 1148 = .ok (.invokevirtual 195, 3) := by decide +kernel
theorem dX14_work_0 : decode cX14_work 0 = .ok (.aload_n 0, 1) := by decide +kernel
theorem dX14_work_1 : decode cX14_work 1 = .ok (.iconst 0, 1) := by decide +kernel
theorem dX14_work_2 : decode cX14_work 2 = .ok (.putfield 43, 3) := by decide +kernel
theorem dX14_work_5 : decode cX14_work 5 = .ok (.iload_n 1, 1) := by decide +kernel
theorem dX14_work_6 : decode cX14_work 6 = .ok (.iconst 1, 1) := by decide +kernel
theorem dX14_work_7 : decode cX14_work 7 = .ok (.sipush 200, 3) := by decide +kernel
theorem dX14_work_10 : decode cX14_work 10 = .ok (.invokestatic 50, 3) := by decide +kernel
theorem dX14_work_13 : decode cX14_work 13 = .ok (.ifCond .ne 9, 3) := by decide +kernel
theorem dX14_work_16 : decode cX14_work 16 = .ok (.aload_n 0, 1) := by decide +kernel
theorem dX14_work_17 : decode cX14_work 17 = .ok (.iconst 1, 1) := by decide +kernel
theorem dX14_work_18 : decode cX14_work 18 = .ok (.invokevirtual 62, 3) := by decide +kernel
theorem dX14_work_21 : decode cX14_work 21 = .ok (.ireturn, 1) := by decide +kernel
theorem dL_law_1151 : decode cL_law 1151 = .ok (.istore 6, 2) := by decide +kernel
theorem dL_law_1153 : decode cL_law 1153 = .ok (.aload_n 2, 1) := by decide +kernel
theorem dL_law_1154 : decode cL_law 1154 = .ok (.invokevirtual 152, 3) := by decide +kernel
theorem dL_law_1157 : decode cL_law 1157 = .ok (.iload 5, 2) := by decide +kernel
theorem dL_law_1159 : decode cL_law 1159 = .ok (.if_icmp .eq 5, 3) := by decide +kernel
theorem dL_law_1164 : decode cL_law 1164 = .ok (.iload 5, 2) := by decide +kernel
theorem dL_law_1166 : decode cL_law 1166 = .ok (.ifCond .ne 15, 3) := by decide +kernel
theorem dL_law_1181 : decode cL_law 1181 = .ok (.goto 1769, 3) := by decide +kernel
theorem dX10_work_11 : decode cX10_work 11 = .ok (.aload_n 0, 1) := by decide +kernel
theorem dX10_work_12 : decode cX10_work 12 = .ok (.invokevirtual 130, 3) := by decide +kernel
theorem dX10_refuseUnlessStarted_0 : decode cX10_refuseUnlessStarted 0 = .ok (.aload_n 0, 1) := by decide +kernel
theorem dX10_refuseUnlessStarted_1 : decode cX10_refuseUnlessStarted 1 = .ok (.getfield 84, 3) := by decide +kernel
theorem dX10_refuseUnlessStarted_4 : decode cX10_refuseUnlessStarted 4 = .ok (.ifCond .ne 11, 3) := by decide +kernel
theorem dX10_refuseUnlessStarted_7 : decode cX10_refuseUnlessStarted 7 = .ok (.new 91, 3) := by decide +kernel
theorem dX10_refuseUnlessStarted_10 : decode cX10_refuseUnlessStarted 10 = .ok (.dup, 1) := by decide +kernel
theorem dX10_refuseUnlessStarted_11 : decode cX10_refuseUnlessStarted 11 = .ok (.invokespecial 93, 3) := by decide +kernel
theorem dX10_refuseUnlessStarted_14 : decode cX10_refuseUnlessStarted 14 = .ok (.athrow, 1) := by decide +kernel
theorem dL_work_15 : decode cL_work 15 = .ok (.astore_n 3, 1) := by decide +kernel
theorem dL_work_16 : decode cL_work 16 = .ok (.iconst 2, 1) := by decide +kernel
theorem dL_work_17 : decode cL_work 17 = .ok (.ireturn, 1) := by decide +kernel
theorem dX14_work_22 : decode cX14_work 22 = .ok (.aload_n 0, 1) := by decide +kernel
theorem dX14_work_23 : decode cX14_work 23 = .ok (.getfield 58, 3) := by decide +kernel
theorem dX14_work_26 : decode cX14_work 26 = .ok (.ifCond .eq 14, 3) := by decide +kernel
theorem dX14_work_40 : decode cX14_work 40 = .ok (.aload_n 0, 1) := by decide +kernel
theorem dX14_work_41 : decode cX14_work 41 = .ok (.iconst 2, 1) := by decide +kernel
theorem dX14_work_42 : decode cX14_work 42 = .ok (.invokevirtual 62, 3) := by decide +kernel
theorem dX14_work_45 : decode cX14_work 45 = .ok (.ireturn, 1) := by decide +kernel
theorem dL_law_1184 : decode cL_law 1184 = .ok (.aload_n 1, 1) := by decide +kernel
theorem dL_law_1185 : decode cL_law 1185 = .ok (.aload_n 0, 1) := by decide +kernel
theorem dL_law_1186 : decode cL_law 1186 = .ok (.iload 4, 2) := by decide +kernel
theorem dL_law_1188 : decode cL_law 1188 = .ok (.iconst 1, 1) := by decide +kernel
theorem dL_law_1189 : decode cL_law 1189 = .ok (.iadd, 1) := by decide +kernel
theorem dL_law_1190 : decode cL_law 1190 = .ok (.iaload, 1) := by decide +kernel
theorem dL_law_1191 : decode cL_law 1191 = .ok (.aload_n 3, 1) := by decide +kernel
theorem dL_law_1192 : decode cL_law 1192 = .ok (.invokestatic 196, 3) := by decide +kernel
theorem dL_workAt_0 : decode cL_workAt 0 = .ok (.aload_n 2, 1) := by decide +kernel
theorem dL_workAt_1 : decode cL_workAt 1 = .ok (.iconst 0, 1) := by decide +kernel
theorem dL_workAt_2 : decode cL_workAt 2 = .ok (.aload_n 0, 1) := by decide +kernel
theorem dL_workAt_3 : decode cL_workAt 3 = .ok (.iload_n 1, 1) := by decide +kernel
theorem dL_workAt_4 : decode cL_workAt 4 = .ok (.invokevirtual 60, 3) := by decide +kernel
theorem dX10_workAt_0 : decode cX10_workAt 0 = .ok (.aload_n 0, 1) := by decide +kernel
theorem dX10_workAt_1 : decode cX10_workAt 1 = .ok (.iload_n 1, 1) := by decide +kernel
theorem dX10_workAt_2 : decode cX10_workAt 2 = .ok (.invokevirtual 44, 3) := by decide +kernel
theorem dL_workAt_19 : decode cL_workAt 19 = .ok (.astore_n 3, 1) := by decide +kernel
theorem dL_workAt_20 : decode cL_workAt 20 = .ok (.iconst 1, 1) := by decide +kernel
theorem dL_workAt_21 : decode cL_workAt 21 = .ok (.ireturn, 1) := by decide +kernel
theorem dL_law_1195 : decode cL_law 1195 = .ok (.istore 5, 2) := by decide +kernel
theorem dL_law_1197 : decode cL_law 1197 = .ok (.aload_n 2, 1) := by decide +kernel
theorem dL_law_1198 : decode cL_law 1198 = .ok (.aload_n 0, 1) := by decide +kernel
theorem dL_law_1199 : decode cL_law 1199 = .ok (.iload 4, 2) := by decide +kernel
theorem dL_law_1201 : decode cL_law 1201 = .ok (.iconst 1, 1) := by decide +kernel
theorem dL_law_1202 : decode cL_law 1202 = .ok (.iadd, 1) := by decide +kernel
theorem dL_law_1203 : decode cL_law 1203 = .ok (.iaload, 1) := by decide +kernel
theorem dL_law_1204 : decode cL_law 1204 = .ok (.invokevirtual 198, 3) := by decide +kernel
theorem dX14_workAt_0 : decode cX14_workAt 0 = .ok (.aload_n 0, 1) := by decide +kernel
theorem dX14_workAt_1 : decode cX14_workAt 1 = .ok (.aload_n 0, 1) := by decide +kernel
theorem dX14_workAt_2 : decode cX14_workAt 2 = .ok (.iload_n 1, 1) := by decide +kernel
theorem dX14_workAt_3 : decode cX14_workAt 3 = .ok (.invokevirtual 54, 3) := by decide +kernel
theorem dX14_workAt_6 : decode cX14_workAt 6 = .ok (.ifCond .ne 7, 3) := by decide +kernel
theorem dX14_workAt_9 : decode cX14_workAt 9 = .ok (.iconst 1, 1) := by decide +kernel
theorem dX14_workAt_10 : decode cX14_workAt 10 = .ok (.goto 15, 3) := by decide +kernel
theorem dX14_workAt_25 : decode cX14_workAt 25 = .ok (.putfield 43, 3) := by decide +kernel
theorem dX14_workAt_28 : decode cX14_workAt 28 = .ok (.aload_n 0, 1) := by decide +kernel
theorem dX14_workAt_29 : decode cX14_workAt 29 = .ok (.getfield 43, 3) := by decide +kernel
theorem dX14_workAt_32 : decode cX14_workAt 32 = .ok (.ifCond .gt 14, 3) := by decide +kernel
theorem dX14_workAt_46 : decode cX14_workAt 46 = .ok (.iconst 0, 1) := by decide +kernel
theorem dX14_workAt_47 : decode cX14_workAt 47 = .ok (.ireturn, 1) := by decide +kernel
theorem dL_law_1207 : decode cL_law 1207 = .ok (.istore 6, 2) := by decide +kernel
theorem dL_law_1209 : decode cL_law 1209 = .ok (.aload_n 2, 1) := by decide +kernel
theorem dL_law_1210 : decode cL_law 1210 = .ok (.invokevirtual 152, 3) := by decide +kernel
theorem dL_law_1213 : decode cL_law 1213 = .ok (.iload 5, 2) := by decide +kernel
theorem dL_law_1215 : decode cL_law 1215 = .ok (.if_icmp .eq 5, 3) := by decide +kernel
theorem dL_law_1220 : decode cL_law 1220 = .ok (.iload 5, 2) := by decide +kernel
theorem dL_law_1222 : decode cL_law 1222 = .ok (.ifCond .ne 22, 3) := by decide +kernel
theorem dL_law_1244 : decode cL_law 1244 = .ok (.goto 1706, 3) := by decide +kernel
theorem dL_law_1247 : decode cL_law 1247 = .ok (.aload_n 1, 1) := by decide +kernel
theorem dL_law_1248 : decode cL_law 1248 = .ok (.aload_n 3, 1) := by decide +kernel
theorem dL_law_1249 : decode cL_law 1249 = .ok (.invokestatic 199, 3) := by decide +kernel
theorem dL_checkpoint_0 : decode cL_checkpoint 0 = .ok (.aload_n 1, 1) := by decide +kernel
theorem dL_checkpoint_1 : decode cL_checkpoint 1 = .ok (.iconst 0, 1) := by decide +kernel
theorem dL_checkpoint_2 : decode cL_checkpoint 2 = .ok (.aload_n 0, 1) := by decide +kernel
theorem dL_checkpoint_3 : decode cL_checkpoint 3 = .ok (.invokevirtual 64, 3) := by decide +kernel
theorem dX10_checkpoint_0 : decode cX10_checkpoint 0 = .ok (.aload_n 0, 1) := by decide +kernel
theorem dX10_checkpoint_1 : decode cX10_checkpoint 1 = .ok (.invokevirtual 130, 3) := by decide +kernel
theorem dL_checkpoint_11 : decode cL_checkpoint 11 = .ok (.astore_n 2, 1) := by decide +kernel
theorem dL_checkpoint_12 : decode cL_checkpoint 12 = .ok (.iconst 1, 1) := by decide +kernel
theorem dL_checkpoint_13 : decode cL_checkpoint 13 = .ok (.ireturn, 1) := by decide +kernel
theorem dL_law_1252 : decode cL_law 1252 = .ok (.istore 5, 2) := by decide +kernel
theorem dL_law_1254 : decode cL_law 1254 = .ok (.aload_n 2, 1) := by decide +kernel
theorem dL_law_1255 : decode cL_law 1255 = .ok (.invokevirtual 201, 3) := by decide +kernel
theorem dX14_checkpoint_0 : decode cX14_checkpoint 0 = .ok (.aload_n 0, 1) := by decide +kernel
theorem dX14_checkpoint_1 : decode cX14_checkpoint 1 = .ok (.iconst 0, 1) := by decide +kernel
theorem dX14_checkpoint_2 : decode cX14_checkpoint 2 = .ok (.putfield 43, 3) := by decide +kernel
theorem dX14_checkpoint_5 : decode cX14_checkpoint 5 = .ok (.aload_n 0, 1) := by decide +kernel
theorem dX14_checkpoint_6 : decode cX14_checkpoint 6 = .ok (.getfield 58, 3) := by decide +kernel
theorem dX14_checkpoint_9 : decode cX14_checkpoint 9 = .ok (.ifCond .eq 23, 3) := by decide +kernel
theorem dX14_checkpoint_32 : decode cX14_checkpoint 32 = .ok (.aload_n 0, 1) := by decide +kernel
theorem dX14_checkpoint_33 : decode cX14_checkpoint 33 = .ok (.iconst 1, 1) := by decide +kernel
theorem dX14_checkpoint_34 : decode cX14_checkpoint 34 = .ok (.invokevirtual 62, 3) := by decide +kernel
theorem dX14_checkpoint_37 : decode cX14_checkpoint 37 = .ok (.ireturn, 1) := by decide +kernel
theorem dL_law_1258 : decode cL_law 1258 = .ok (.istore 6, 2) := by decide +kernel
theorem dL_law_1260 : decode cL_law 1260 = .ok (.aload_n 2, 1) := by decide +kernel
theorem dL_law_1261 : decode cL_law 1261 = .ok (.invokevirtual 152, 3) := by decide +kernel
theorem dL_law_1264 : decode cL_law 1264 = .ok (.iload 5, 2) := by decide +kernel
theorem dL_law_1266 : decode cL_law 1266 = .ok (.if_icmp .eq 5, 3) := by decide +kernel
theorem dL_law_1271 : decode cL_law 1271 = .ok (.iload 5, 2) := by decide +kernel
theorem dL_law_1273 : decode cL_law 1273 = .ok (.ifCond .ne 15, 3) := by decide +kernel
theorem dL_law_1288 : decode cL_law 1288 = .ok (.goto 1662, 3) := by decide +kernel
theorem dL_law_1291 : decode cL_law 1291 = .ok (.aload_n 1, 1) := by decide +kernel
theorem dL_law_1292 : decode cL_law 1292 = .ok (.aload_n 3, 1) := by decide +kernel
theorem dL_law_1293 : decode cL_law 1293 = .ok (.invokestatic 202, 3) := by decide +kernel
theorem dL_crash_0 : decode cL_crash 0 = .ok (.aload_n 1, 1) := by decide +kernel
theorem dL_crash_1 : decode cL_crash 1 = .ok (.iconst 0, 1) := by decide +kernel
theorem dL_crash_2 : decode cL_crash 2 = .ok (.aload_n 0, 1) := by decide +kernel
theorem dL_crash_3 : decode cL_crash 3 = .ok (.invokevirtual 67, 3) := by decide +kernel
theorem dX10_crash_0 : decode cX10_crash 0 = .ok (.aload_n 0, 1) := by decide +kernel
theorem dX10_crash_1 : decode cX10_crash 1 = .ok (.invokevirtual 130, 3) := by decide +kernel
theorem dL_crash_11 : decode cL_crash 11 = .ok (.astore_n 2, 1) := by decide +kernel
theorem dL_crash_12 : decode cL_crash 12 = .ok (.iconst 1, 1) := by decide +kernel
theorem dL_crash_13 : decode cL_crash 13 = .ok (.ireturn, 1) := by decide +kernel
theorem dL_law_1296 : decode cL_law 1296 = .ok (.istore 5, 2) := by decide +kernel
theorem dL_law_1298 : decode cL_law 1298 = .ok (.aload_n 2, 1) := by decide +kernel
theorem dL_law_1299 : decode cL_law 1299 = .ok (.invokevirtual 204, 3) := by decide +kernel
theorem dX14_crash_0 : decode cX14_crash 0 = .ok (.aload_n 0, 1) := by decide +kernel
theorem dX14_crash_1 : decode cX14_crash 1 = .ok (.iconst 0, 1) := by decide +kernel
theorem dX14_crash_2 : decode cX14_crash 2 = .ok (.putfield 43, 3) := by decide +kernel
theorem dX14_crash_5 : decode cX14_crash 5 = .ok (.aload_n 0, 1) := by decide +kernel
theorem dX14_crash_6 : decode cX14_crash 6 = .ok (.getfield 58, 3) := by decide +kernel
theorem dX14_crash_9 : decode cX14_crash 9 = .ok (.ifCond .eq 13, 3) := by decide +kernel
theorem dX14_crash_22 : decode cX14_crash 22 = .ok (.aload_n 0, 1) := by decide +kernel
theorem dX14_crash_23 : decode cX14_crash 23 = .ok (.iconst 1, 1) := by decide +kernel
theorem dX14_crash_24 : decode cX14_crash 24 = .ok (.invokevirtual 62, 3) := by decide +kernel
theorem dX14_crash_27 : decode cX14_crash 27 = .ok (.ireturn, 1) := by decide +kernel
theorem dL_law_1302 : decode cL_law 1302 = .ok (.istore 6, 2) := by decide +kernel
theorem dL_law_1304 : decode cL_law 1304 = .ok (.aload_n 2, 1) := by decide +kernel
theorem dL_law_1305 : decode cL_law 1305 = .ok (.invokevirtual 152, 3) := by decide +kernel
theorem dL_law_1308 : decode cL_law 1308 = .ok (.iload 5, 2) := by decide +kernel
theorem dL_law_1310 : decode cL_law 1310 = .ok (.if_icmp .eq 5, 3) := by decide +kernel
theorem dL_law_1315 : decode cL_law 1315 = .ok (.iload 5, 2) := by decide +kernel
theorem dL_law_1317 : decode cL_law 1317 = .ok (.ifCond .ne 15, 3) := by decide +kernel
theorem dL_law_1332 : decode cL_law 1332 = .ok (.goto 1618, 3) := by decide +kernel
theorem dL_law_1335 : decode cL_law 1335 = .ok (.aload_n 1, 1) := by decide +kernel
theorem dL_law_1336 : decode cL_law 1336 = .ok (.invokevirtual 205, 3) := by decide +kernel
theorem dX10_stages_0 : decode cX10_stages 0 = .ok (.aload_n 0, 1) := by decide +kernel
theorem dX10_stages_1 : decode cX10_stages 1 = .ok (.getfield 12, 3) := by decide +kernel
theorem dX10_stages_4 : decode cX10_stages 4 = .ok (.invokevirtual 88, 3) := by decide +kernel
theorem dX10_stages_7 : decode cX10_stages 7 = .ok (.ireturn, 1) := by decide +kernel
theorem dL_law_1339 : decode cL_law 1339 = .ok (.aload_n 2, 1) := by decide +kernel
theorem dL_law_1340 : decode cL_law 1340 = .ok (.invokevirtual 208, 3) := by decide +kernel
theorem dX14_stages_0 : decode cX14_stages 0 = .ok (.aload_n 0, 1) := by decide +kernel
theorem dX14_stages_1 : decode cX14_stages 1 = .ok (.iconst 0, 1) := by decide +kernel
theorem dX14_stages_2 : decode cX14_stages 2 = .ok (.putfield 43, 3) := by decide +kernel
theorem dX14_stages_5 : decode cX14_stages 5 = .ok (.aload_n 0, 1) := by decide +kernel
theorem dX14_stages_6 : decode cX14_stages 6 = .ok (.getfield 47, 3) := by decide +kernel
theorem dX14_stages_9 : decode cX14_stages 9 = .ok (.ireturn, 1) := by decide +kernel
theorem dL_law_1343 : decode cL_law 1343 = .ok (.if_icmp .eq 1607, 3) := by decide +kernel
theorem dL_law_1348 : decode cL_law 1348 = .ok (.aload_n 1, 1) := by decide +kernel
theorem dL_law_1349 : decode cL_law 1349 = .ok (.invokevirtual 209, 3) := by decide +kernel
theorem dX10_isStarted_0 : decode cX10_isStarted 0 = .ok (.aload_n 0, 1) := by decide +kernel
theorem dX10_isStarted_1 : decode cX10_isStarted 1 = .ok (.getfield 84, 3) := by decide +kernel
theorem dX10_isStarted_4 : decode cX10_isStarted 4 = .ok (.ireturn, 1) := by decide +kernel
theorem dL_law_1352 : decode cL_law 1352 = .ok (.aload_n 2, 1) := by decide +kernel
theorem dL_law_1353 : decode cL_law 1353 = .ok (.invokevirtual 213, 3) := by decide +kernel
theorem dX14_isStarted_0 : decode cX14_isStarted 0 = .ok (.aload_n 0, 1) := by decide +kernel
theorem dX14_isStarted_1 : decode cX14_isStarted 1 = .ok (.iconst 0, 1) := by decide +kernel
theorem dX14_isStarted_2 : decode cX14_isStarted 2 = .ok (.putfield 43, 3) := by decide +kernel
theorem dX14_isStarted_5 : decode cX14_isStarted 5 = .ok (.aload_n 0, 1) := by decide +kernel
theorem dX14_isStarted_6 : decode cX14_isStarted 6 = .ok (.getfield 58, 3) := by decide +kernel
theorem dX14_isStarted_9 : decode cX14_isStarted 9 = .ok (.ireturn, 1) := by decide +kernel
theorem dL_law_1356 : decode cL_law 1356 = .ok (.if_icmp .eq 1594, 3) := by decide +kernel
theorem dL_law_1361 : decode cL_law 1361 = .ok (.aload_n 1, 1) := by decide +kernel
theorem dL_law_1362 : decode cL_law 1362 = .ok (.aload_n 0, 1) := by decide +kernel
theorem dL_law_1363 : decode cL_law 1363 = .ok (.iload 4, 2) := by decide +kernel
theorem dL_law_1365 : decode cL_law 1365 = .ok (.iconst 1, 1) := by decide +kernel
theorem dL_law_1366 : decode cL_law 1366 = .ok (.iadd, 1) := by decide +kernel
theorem dL_law_1367 : decode cL_law 1367 = .ok (.iaload, 1) := by decide +kernel
theorem dL_law_1368 : decode cL_law 1368 = .ok (.aload_n 3, 1) := by decide +kernel
theorem dL_law_1369 : decode cL_law 1369 = .ok (.invokestatic 214, 3) := by decide +kernel
theorem dL_sortOf_0 : decode cL_sortOf 0 = .ok (.aload_n 2, 1) := by decide +kernel
theorem dL_sortOf_1 : decode cL_sortOf 1 = .ok (.iconst 0, 1) := by decide +kernel
theorem dL_sortOf_2 : decode cL_sortOf 2 = .ok (.aload_n 0, 1) := by decide +kernel
theorem dL_sortOf_3 : decode cL_sortOf 3 = .ok (.iload_n 1, 1) := by decide +kernel
theorem dL_sortOf_4 : decode cL_sortOf 4 = .ok (.invokevirtual 70, 3) := by decide +kernel
theorem dX10_sortOf_0 : decode cX10_sortOf 0 = .ok (.aload_n 0, 1) := by decide +kernel
theorem dX10_sortOf_1 : decode cX10_sortOf 1 = .ok (.iload_n 1, 1) := by decide +kernel
theorem dX10_sortOf_2 : decode cX10_sortOf 2 = .ok (.invokevirtual 44, 3) := by decide +kernel
theorem dL_sortOf_12 : decode cL_sortOf 12 = .ok (.astore_n 3, 1) := by decide +kernel
theorem dL_sortOf_13 : decode cL_sortOf 13 = .ok (.iconst 1, 1) := by decide +kernel
theorem dL_sortOf_14 : decode cL_sortOf 14 = .ok (.ireturn, 1) := by decide +kernel
theorem dL_law_1372 : decode cL_law 1372 = .ok (.istore 5, 2) := by decide +kernel
theorem dL_law_1374 : decode cL_law 1374 = .ok (.aload_n 2, 1) := by decide +kernel
theorem dL_law_1375 : decode cL_law 1375 = .ok (.aload_n 0, 1) := by decide +kernel
theorem dL_law_1376 : decode cL_law 1376 = .ok (.iload 4, 2) := by decide +kernel
theorem dL_law_1378 : decode cL_law 1378 = .ok (.iconst 1, 1) := by decide +kernel
theorem dL_law_1379 : decode cL_law 1379 = .ok (.iadd, 1) := by decide +kernel
theorem dL_law_1380 : decode cL_law 1380 = .ok (.iaload, 1) := by decide +kernel
theorem dL_law_1381 : decode cL_law 1381 = .ok (.invokevirtual 216, 3) := by decide +kernel
theorem dX14_sortOf_0 : decode cX14_sortOf 0 = .ok (.aload_n 0, 1) := by decide +kernel
theorem dX14_sortOf_1 : decode cX14_sortOf 1 = .ok (.iload_n 1, 1) := by decide +kernel
theorem dX14_sortOf_2 : decode cX14_sortOf 2 = .ok (.invokevirtual 126, 3) := by decide +kernel
theorem dX14_has_0 : decode cX14_has 0 = .ok (.aload_n 0, 1) := by decide +kernel
theorem dX14_has_1 : decode cX14_has 1 = .ok (.aload_n 0, 1) := by decide +kernel
theorem dX14_has_2 : decode cX14_has 2 = .ok (.iload_n 1, 1) := by decide +kernel
theorem dX14_has_3 : decode cX14_has 3 = .ok (.invokevirtual 54, 3) := by decide +kernel
theorem dX14_has_6 : decode cX14_has 6 = .ok (.ifCond .eq 7, 3) := by decide +kernel
theorem dX14_has_13 : decode cX14_has 13 = .ok (.iconst 1, 1) := by decide +kernel
theorem dX14_has_14 : decode cX14_has 14 = .ok (.putfield 43, 3) := by decide +kernel
theorem dX14_has_17 : decode cX14_has 17 = .ok (.aload_n 0, 1) := by decide +kernel
theorem dX14_has_18 : decode cX14_has 18 = .ok (.getfield 43, 3) := by decide +kernel
theorem dX14_has_21 : decode cX14_has 21 = .ok (.ifCond .ne 7, 3) := by decide +kernel
theorem dX14_has_28 : decode cX14_has 28 = .ok (.iconst 0, 1) := by decide +kernel
theorem dX14_has_29 : decode cX14_has 29 = .ok (.ireturn, 1) := by decide +kernel
theorem dX14_sortOf_5 : decode cX14_sortOf 5 = .ok (.ifCond .eq 12, 3) := by decide +kernel
theorem dX14_sortOf_17 : decode cX14_sortOf 17 = .ok (.iconst 0, 1) := by decide +kernel
theorem dX14_sortOf_18 : decode cX14_sortOf 18 = .ok (.ireturn, 1) := by decide +kernel
theorem dL_law_1384 : decode cL_law 1384 = .ok (.istore 6, 2) := by decide +kernel
theorem dL_law_1386 : decode cL_law 1386 = .ok (.aload_n 2, 1) := by decide +kernel
theorem dL_law_1387 : decode cL_law 1387 = .ok (.invokevirtual 152, 3) := by decide +kernel
theorem dL_law_1390 : decode cL_law 1390 = .ok (.iload 5, 2) := by decide +kernel
theorem dL_law_1392 : decode cL_law 1392 = .ok (.if_icmp .eq 5, 3) := by decide +kernel
theorem dL_law_1397 : decode cL_law 1397 = .ok (.iload 5, 2) := by decide +kernel
theorem dL_law_1399 : decode cL_law 1399 = .ok (.ifCond .ne 15, 3) := by decide +kernel
theorem dL_law_1414 : decode cL_law 1414 = .ok (.goto 1536, 3) := by decide +kernel
theorem dL_law_1417 : decode cL_law 1417 = .ok (.aload_n 1, 1) := by decide +kernel
theorem dL_law_1418 : decode cL_law 1418 = .ok (.aload_n 0, 1) := by decide +kernel
theorem dL_law_1419 : decode cL_law 1419 = .ok (.iload 4, 2) := by decide +kernel
theorem dL_law_1421 : decode cL_law 1421 = .ok (.iconst 1, 1) := by decide +kernel
theorem dL_law_1422 : decode cL_law 1422 = .ok (.iadd, 1) := by decide +kernel
theorem dL_law_1423 : decode cL_law 1423 = .ok (.iaload, 1) := by decide +kernel
theorem dL_law_1424 : decode cL_law 1424 = .ok (.aload_n 3, 1) := by decide +kernel
theorem dL_law_1425 : decode cL_law 1425 = .ok (.invokestatic 217, 3) := by decide +kernel
theorem dL_markOf_0 : decode cL_markOf 0 = .ok (.aload_n 2, 1) := by decide +kernel
theorem dL_markOf_1 : decode cL_markOf 1 = .ok (.iconst 0, 1) := by decide +kernel
theorem dL_markOf_2 : decode cL_markOf 2 = .ok (.aload_n 0, 1) := by decide +kernel
theorem dL_markOf_3 : decode cL_markOf 3 = .ok (.iload_n 1, 1) := by decide +kernel
theorem dL_markOf_4 : decode cL_markOf 4 = .ok (.invokevirtual 73, 3) := by decide +kernel
theorem dX10_markOf_0 : decode cX10_markOf 0 = .ok (.aload_n 0, 1) := by decide +kernel
theorem dX10_markOf_1 : decode cX10_markOf 1 = .ok (.iload_n 1, 1) := by decide +kernel
theorem dX10_markOf_2 : decode cX10_markOf 2 = .ok (.invokevirtual 44, 3) := by decide +kernel
theorem dL_markOf_12 : decode cL_markOf 12 = .ok (.astore_n 3, 1) := by decide +kernel
theorem dL_markOf_13 : decode cL_markOf 13 = .ok (.iconst 1, 1) := by decide +kernel
theorem dL_markOf_14 : decode cL_markOf 14 = .ok (.ireturn, 1) := by decide +kernel
theorem dL_law_1428 : decode cL_law 1428 = .ok (.istore 5, 2) := by decide +kernel
theorem dL_law_1430 : decode cL_law 1430 = .ok (.aload_n 2, 1) := by decide +kernel
theorem dL_law_1431 : decode cL_law 1431 = .ok (.aload_n 0, 1) := by decide +kernel
theorem dL_law_1432 : decode cL_law 1432 = .ok (.iload 4, 2) := by decide +kernel
theorem dL_law_1434 : decode cL_law 1434 = .ok (.iconst 1, 1) := by decide +kernel
theorem dL_law_1435 : decode cL_law 1435 = .ok (.iadd, 1) := by decide +kernel
theorem dL_law_1436 : decode cL_law 1436 = .ok (.iaload, 1) := by decide +kernel
theorem dL_law_1437 : decode cL_law 1437 = .ok (.invokevirtual 219, 3) := by decide +kernel
theorem dX14_markOf_0 : decode cX14_markOf 0 = .ok (.aload_n 0, 1) := by decide +kernel
theorem dX14_markOf_1 : decode cX14_markOf 1 = .ok (.iload_n 1, 1) := by decide +kernel
theorem dX14_markOf_2 : decode cX14_markOf 2 = .ok (.invokevirtual 126, 3) := by decide +kernel
theorem dX14_markOf_5 : decode cX14_markOf 5 = .ok (.ifCond .eq 18, 3) := by decide +kernel
theorem dX14_markOf_23 : decode cX14_markOf 23 = .ok (.iconst 0, 1) := by decide +kernel
theorem dX14_markOf_24 : decode cX14_markOf 24 = .ok (.ireturn, 1) := by decide +kernel
theorem dL_law_1440 : decode cL_law 1440 = .ok (.istore 6, 2) := by decide +kernel
theorem dL_law_1442 : decode cL_law 1442 = .ok (.aload_n 2, 1) := by decide +kernel
theorem dL_law_1443 : decode cL_law 1443 = .ok (.invokevirtual 152, 3) := by decide +kernel
theorem dL_law_1446 : decode cL_law 1446 = .ok (.iload 5, 2) := by decide +kernel
theorem dL_law_1448 : decode cL_law 1448 = .ok (.if_icmp .eq 5, 3) := by decide +kernel
theorem dL_law_1453 : decode cL_law 1453 = .ok (.iload 5, 2) := by decide +kernel
theorem dL_law_1455 : decode cL_law 1455 = .ok (.ifCond .ne 15, 3) := by decide +kernel
theorem dL_law_1470 : decode cL_law 1470 = .ok (.goto 1480, 3) := by decide +kernel
theorem dL_law_1473 : decode cL_law 1473 = .ok (.aload_n 1, 1) := by decide +kernel
theorem dL_law_1474 : decode cL_law 1474 = .ok (.aload_n 0, 1) := by decide +kernel
theorem dL_law_1475 : decode cL_law 1475 = .ok (.iload 4, 2) := by decide +kernel
theorem dL_law_1477 : decode cL_law 1477 = .ok (.iconst 1, 1) := by decide +kernel
theorem dL_law_1478 : decode cL_law 1478 = .ok (.iadd, 1) := by decide +kernel
theorem dL_law_1479 : decode cL_law 1479 = .ok (.iaload, 1) := by decide +kernel
theorem dL_law_1480 : decode cL_law 1480 = .ok (.aload_n 3, 1) := by decide +kernel
theorem dL_law_1481 : decode cL_law 1481 = .ok (.invokestatic 220, 3) := by decide +kernel
theorem dL_taken_0 : decode cL_taken 0 = .ok (.aload_n 2, 1) := by decide +kernel
theorem dL_taken_1 : decode cL_taken 1 = .ok (.iconst 0, 1) := by decide +kernel
theorem dL_taken_2 : decode cL_taken 2 = .ok (.aload_n 0, 1) := by decide +kernel
theorem dL_taken_3 : decode cL_taken 3 = .ok (.iload_n 1, 1) := by decide +kernel
theorem dL_taken_4 : decode cL_taken 4 = .ok (.invokevirtual 76, 3) := by decide +kernel
theorem dX10_taken_0 : decode cX10_taken 0 = .ok (.aload_n 0, 1) := by decide +kernel
theorem dX10_taken_1 : decode cX10_taken 1 = .ok (.iload_n 1, 1) := by decide +kernel
theorem dX10_taken_2 : decode cX10_taken 2 = .ok (.invokevirtual 44, 3) := by decide +kernel
theorem dL_taken_12 : decode cL_taken 12 = .ok (.astore_n 3, 1) := by decide +kernel
theorem dL_taken_13 : decode cL_taken 13 = .ok (.iconst 1, 1) := by decide +kernel
theorem dL_taken_14 : decode cL_taken 14 = .ok (.ireturn, 1) := by decide +kernel
theorem dL_law_1484 : decode cL_law 1484 = .ok (.istore 5, 2) := by decide +kernel
theorem dL_law_1486 : decode cL_law 1486 = .ok (.aload_n 2, 1) := by decide +kernel
theorem dL_law_1487 : decode cL_law 1487 = .ok (.aload_n 0, 1) := by decide +kernel
theorem dL_law_1488 : decode cL_law 1488 = .ok (.iload 4, 2) := by decide +kernel
theorem dL_law_1490 : decode cL_law 1490 = .ok (.iconst 1, 1) := by decide +kernel
theorem dL_law_1491 : decode cL_law 1491 = .ok (.iadd, 1) := by decide +kernel
theorem dL_law_1492 : decode cL_law 1492 = .ok (.iaload, 1) := by decide +kernel
theorem dL_law_1493 : decode cL_law 1493 = .ok (.invokevirtual 222, 3) := by decide +kernel
theorem dX14_taken_0 : decode cX14_taken 0 = .ok (.aload_n 0, 1) := by decide +kernel
theorem dX14_taken_1 : decode cX14_taken 1 = .ok (.iload_n 1, 1) := by decide +kernel
theorem dX14_taken_2 : decode cX14_taken 2 = .ok (.invokevirtual 126, 3) := by decide +kernel
theorem dX14_taken_5 : decode cX14_taken 5 = .ok (.ifCond .eq 11, 3) := by decide +kernel
theorem dX14_taken_16 : decode cX14_taken 16 = .ok (.iconst 0, 1) := by decide +kernel
theorem dX14_taken_17 : decode cX14_taken 17 = .ok (.ireturn, 1) := by decide +kernel
theorem dL_law_1496 : decode cL_law 1496 = .ok (.istore 6, 2) := by decide +kernel
theorem dL_law_1498 : decode cL_law 1498 = .ok (.aload_n 2, 1) := by decide +kernel
theorem dL_law_1499 : decode cL_law 1499 = .ok (.invokevirtual 152, 3) := by decide +kernel
theorem dL_law_1502 : decode cL_law 1502 = .ok (.iload 5, 2) := by decide +kernel
theorem dL_law_1504 : decode cL_law 1504 = .ok (.if_icmp .eq 5, 3) := by decide +kernel
theorem dL_law_1509 : decode cL_law 1509 = .ok (.iload 5, 2) := by decide +kernel
theorem dL_law_1511 : decode cL_law 1511 = .ok (.ifCond .ne 15, 3) := by decide +kernel
theorem dL_law_1526 : decode cL_law 1526 = .ok (.goto 1424, 3) := by decide +kernel
theorem dL_law_1529 : decode cL_law 1529 = .ok (.aload_n 1, 1) := by decide +kernel
theorem dL_law_1530 : decode cL_law 1530 = .ok (.aload_n 0, 1) := by decide +kernel
theorem dL_law_1531 : decode cL_law 1531 = .ok (.iload 4, 2) := by decide +kernel
theorem dL_law_1533 : decode cL_law 1533 = .ok (.iconst 1, 1) := by decide +kernel
theorem dL_law_1534 : decode cL_law 1534 = .ok (.iadd, 1) := by decide +kernel
theorem dL_law_1535 : decode cL_law 1535 = .ok (.iaload, 1) := by decide +kernel
theorem dL_law_1536 : decode cL_law 1536 = .ok (.aload_n 3, 1) := by decide +kernel
theorem dL_law_1537 : decode cL_law 1537 = .ok (.invokestatic 223, 3) := by decide +kernel
theorem dL_emitted_0 : decode cL_emitted 0 = .ok (.aload_n 2, 1) := by decide +kernel
theorem dL_emitted_1 : decode cL_emitted 1 = .ok (.iconst 0, 1) := by decide +kernel
theorem dL_emitted_2 : decode cL_emitted 2 = .ok (.aload_n 0, 1) := by decide +kernel
theorem dL_emitted_3 : decode cL_emitted 3 = .ok (.iload_n 1, 1) := by decide +kernel
theorem dL_emitted_4 : decode cL_emitted 4 = .ok (.invokevirtual 79, 3) := by decide +kernel
theorem dX10_emitted_0 : decode cX10_emitted 0 = .ok (.aload_n 0, 1) := by decide +kernel
theorem dX10_emitted_1 : decode cX10_emitted 1 = .ok (.iload_n 1, 1) := by decide +kernel
theorem dX10_emitted_2 : decode cX10_emitted 2 = .ok (.invokevirtual 44, 3) := by decide +kernel
theorem dL_emitted_12 : decode cL_emitted 12 = .ok (.astore_n 3, 1) := by decide +kernel
theorem dL_emitted_13 : decode cL_emitted 13 = .ok (.iconst 1, 1) := by decide +kernel
theorem dL_emitted_14 : decode cL_emitted 14 = .ok (.ireturn, 1) := by decide +kernel
theorem dL_law_1540 : decode cL_law 1540 = .ok (.istore 5, 2) := by decide +kernel
theorem dL_law_1542 : decode cL_law 1542 = .ok (.aload_n 2, 1) := by decide +kernel
theorem dL_law_1543 : decode cL_law 1543 = .ok (.aload_n 0, 1) := by decide +kernel
theorem dL_law_1544 : decode cL_law 1544 = .ok (.iload 4, 2) := by decide +kernel
theorem dL_law_1546 : decode cL_law 1546 = .ok (.iconst 1, 1) := by decide +kernel
theorem dL_law_1547 : decode cL_law 1547 = .ok (.iadd, 1) := by decide +kernel
theorem dL_law_1548 : decode cL_law 1548 = .ok (.iaload, 1) := by decide +kernel
theorem dL_law_1549 : decode cL_law 1549 = .ok (.invokevirtual 225, 3) := by decide +kernel
theorem dX14_emitted_0 : decode cX14_emitted 0 = .ok (.aload_n 0, 1) := by decide +kernel
theorem dX14_emitted_1 : decode cX14_emitted 1 = .ok (.iload_n 1, 1) := by decide +kernel
theorem dX14_emitted_2 : decode cX14_emitted 2 = .ok (.invokevirtual 126, 3) := by decide +kernel
theorem dX14_emitted_5 : decode cX14_emitted 5 = .ok (.ifCond .eq 18, 3) := by decide +kernel
theorem dX14_emitted_23 : decode cX14_emitted 23 = .ok (.iconst 0, 1) := by decide +kernel
theorem dX14_emitted_24 : decode cX14_emitted 24 = .ok (.ireturn, 1) := by decide +kernel
theorem dL_law_1552 : decode cL_law 1552 = .ok (.istore 6, 2) := by decide +kernel
theorem dL_law_1554 : decode cL_law 1554 = .ok (.aload_n 2, 1) := by decide +kernel
theorem dL_law_1555 : decode cL_law 1555 = .ok (.invokevirtual 152, 3) := by decide +kernel
theorem dL_law_1558 : decode cL_law 1558 = .ok (.iload 5, 2) := by decide +kernel
theorem dL_law_1560 : decode cL_law 1560 = .ok (.if_icmp .eq 5, 3) := by decide +kernel
theorem dL_law_1565 : decode cL_law 1565 = .ok (.iload 5, 2) := by decide +kernel
theorem dL_law_1567 : decode cL_law 1567 = .ok (.ifCond .ne 15, 3) := by decide +kernel
theorem dL_law_1582 : decode cL_law 1582 = .ok (.goto 1368, 3) := by decide +kernel
theorem dL_law_1585 : decode cL_law 1585 = .ok (.aload_n 1, 1) := by decide +kernel
theorem dL_law_1586 : decode cL_law 1586 = .ok (.aload_n 0, 1) := by decide +kernel
theorem dL_law_1587 : decode cL_law 1587 = .ok (.iload 4, 2) := by decide +kernel
theorem dL_law_1589 : decode cL_law 1589 = .ok (.iconst 1, 1) := by decide +kernel
theorem dL_law_1590 : decode cL_law 1590 = .ok (.iadd, 1) := by decide +kernel
theorem dL_law_1591 : decode cL_law 1591 = .ok (.iaload, 1) := by decide +kernel
theorem dL_law_1592 : decode cL_law 1592 = .ok (.aload_n 3, 1) := by decide +kernel
theorem dL_law_1593 : decode cL_law 1593 = .ok (.invokestatic 226, 3) := by decide +kernel
theorem dL_late_0 : decode cL_late 0 = .ok (.aload_n 2, 1) := by decide +kernel
theorem dL_late_1 : decode cL_late 1 = .ok (.iconst 0, 1) := by decide +kernel
theorem dL_late_2 : decode cL_late 2 = .ok (.aload_n 0, 1) := by decide +kernel
theorem dL_late_3 : decode cL_late 3 = .ok (.iload_n 1, 1) := by decide +kernel
theorem dL_late_4 : decode cL_late 4 = .ok (.invokevirtual 82, 3) := by decide +kernel
theorem dX10_late_0 : decode cX10_late 0 = .ok (.aload_n 0, 1) := by decide +kernel
theorem dX10_late_1 : decode cX10_late 1 = .ok (.iload_n 1, 1) := by decide +kernel
theorem dX10_late_2 : decode cX10_late 2 = .ok (.invokevirtual 44, 3) := by decide +kernel
theorem dL_late_12 : decode cL_late 12 = .ok (.astore_n 3, 1) := by decide +kernel
theorem dL_late_13 : decode cL_late 13 = .ok (.iconst 1, 1) := by decide +kernel
theorem dL_late_14 : decode cL_late 14 = .ok (.ireturn, 1) := by decide +kernel
theorem dL_law_1596 : decode cL_law 1596 = .ok (.istore 5, 2) := by decide +kernel
theorem dL_law_1598 : decode cL_law 1598 = .ok (.aload_n 2, 1) := by decide +kernel
theorem dL_law_1599 : decode cL_law 1599 = .ok (.aload_n 0, 1) := by decide +kernel
theorem dL_law_1600 : decode cL_law 1600 = .ok (.iload 4, 2) := by decide +kernel
theorem dL_law_1602 : decode cL_law 1602 = .ok (.iconst 1, 1) := by decide +kernel
theorem dL_law_1603 : decode cL_law 1603 = .ok (.iadd, 1) := by decide +kernel
theorem dL_law_1604 : decode cL_law 1604 = .ok (.iaload, 1) := by decide +kernel
theorem dL_law_1605 : decode cL_law 1605 = .ok (.invokevirtual 228, 3) := by decide +kernel
theorem dX14_late_0 : decode cX14_late 0 = .ok (.aload_n 0, 1) := by decide +kernel
theorem dX14_late_1 : decode cX14_late 1 = .ok (.iload_n 1, 1) := by decide +kernel
theorem dX14_late_2 : decode cX14_late 2 = .ok (.invokevirtual 126, 3) := by decide +kernel
theorem dX14_late_5 : decode cX14_late 5 = .ok (.ifCond .eq 18, 3) := by decide +kernel
theorem dX14_late_23 : decode cX14_late 23 = .ok (.iconst 0, 1) := by decide +kernel
theorem dX14_late_24 : decode cX14_late 24 = .ok (.ireturn, 1) := by decide +kernel
theorem dL_law_1608 : decode cL_law 1608 = .ok (.istore 6, 2) := by decide +kernel
theorem dL_law_1610 : decode cL_law 1610 = .ok (.aload_n 2, 1) := by decide +kernel
theorem dL_law_1611 : decode cL_law 1611 = .ok (.invokevirtual 152, 3) := by decide +kernel
theorem dL_law_1614 : decode cL_law 1614 = .ok (.iload 5, 2) := by decide +kernel
theorem dL_law_1616 : decode cL_law 1616 = .ok (.if_icmp .eq 5, 3) := by decide +kernel
theorem dL_law_1621 : decode cL_law 1621 = .ok (.iload 5, 2) := by decide +kernel
theorem dL_law_1623 : decode cL_law 1623 = .ok (.ifCond .ne 15, 3) := by decide +kernel
theorem dL_law_1638 : decode cL_law 1638 = .ok (.goto 1312, 3) := by decide +kernel
theorem dL_law_1641 : decode cL_law 1641 = .ok (.aload_n 1, 1) := by decide +kernel
theorem dL_law_1642 : decode cL_law 1642 = .ok (.aload_n 0, 1) := by decide +kernel
theorem dL_law_1643 : decode cL_law 1643 = .ok (.iload 4, 2) := by decide +kernel
theorem dL_law_1645 : decode cL_law 1645 = .ok (.iconst 1, 1) := by decide +kernel
theorem dL_law_1646 : decode cL_law 1646 = .ok (.iadd, 1) := by decide +kernel
theorem dL_law_1647 : decode cL_law 1647 = .ok (.iaload, 1) := by decide +kernel
theorem dL_law_1648 : decode cL_law 1648 = .ok (.aload_n 3, 1) := by decide +kernel
theorem dL_law_1649 : decode cL_law 1649 = .ok (.invokestatic 229, 3) := by decide +kernel
theorem dL_kept_0 : decode cL_kept 0 = .ok (.aload_n 2, 1) := by decide +kernel
theorem dL_kept_1 : decode cL_kept 1 = .ok (.iconst 0, 1) := by decide +kernel
theorem dL_kept_2 : decode cL_kept 2 = .ok (.aload_n 0, 1) := by decide +kernel
theorem dL_kept_3 : decode cL_kept 3 = .ok (.iload_n 1, 1) := by decide +kernel
theorem dL_kept_4 : decode cL_kept 4 = .ok (.invokevirtual 85, 3) := by decide +kernel
theorem dX10_kept_0 : decode cX10_kept 0 = .ok (.aload_n 0, 1) := by decide +kernel
theorem dX10_kept_1 : decode cX10_kept 1 = .ok (.iload_n 1, 1) := by decide +kernel
theorem dX10_kept_2 : decode cX10_kept 2 = .ok (.invokevirtual 44, 3) := by decide +kernel
theorem dL_kept_12 : decode cL_kept 12 = .ok (.astore_n 3, 1) := by decide +kernel
theorem dL_kept_13 : decode cL_kept 13 = .ok (.iconst 1, 1) := by decide +kernel
theorem dL_kept_14 : decode cL_kept 14 = .ok (.ireturn, 1) := by decide +kernel
theorem dL_law_1652 : decode cL_law 1652 = .ok (.istore 5, 2) := by decide +kernel
theorem dL_law_1654 : decode cL_law 1654 = .ok (.aload_n 2, 1) := by decide +kernel
theorem dL_law_1655 : decode cL_law 1655 = .ok (.aload_n 0, 1) := by decide +kernel
theorem dL_law_1656 : decode cL_law 1656 = .ok (.iload 4, 2) := by decide +kernel
theorem dL_law_1658 : decode cL_law 1658 = .ok (.iconst 1, 1) := by decide +kernel
theorem dL_law_1659 : decode cL_law 1659 = .ok (.iadd, 1) := by decide +kernel
theorem dL_law_1660 : decode cL_law 1660 = .ok (.iaload, 1) := by decide +kernel
theorem dL_law_1661 : decode cL_law 1661 = .ok (.invokevirtual 231, 3) := by decide +kernel
theorem dX14_kept_0 : decode cX14_kept 0 = .ok (.aload_n 0, 1) := by decide +kernel
theorem dX14_kept_1 : decode cX14_kept 1 = .ok (.iload_n 1, 1) := by decide +kernel
theorem dX14_kept_2 : decode cX14_kept 2 = .ok (.invokevirtual 126, 3) := by decide +kernel
theorem dX14_kept_5 : decode cX14_kept 5 = .ok (.ifCond .eq 11, 3) := by decide +kernel
theorem dX14_kept_16 : decode cX14_kept 16 = .ok (.iconst 0, 1) := by decide +kernel
theorem dX14_kept_17 : decode cX14_kept 17 = .ok (.ireturn, 1) := by decide +kernel
theorem dL_law_1664 : decode cL_law 1664 = .ok (.istore 6, 2) := by decide +kernel
theorem dL_law_1666 : decode cL_law 1666 = .ok (.aload_n 2, 1) := by decide +kernel
theorem dL_law_1667 : decode cL_law 1667 = .ok (.invokevirtual 152, 3) := by decide +kernel
theorem dL_law_1670 : decode cL_law 1670 = .ok (.iload 5, 2) := by decide +kernel
theorem dL_law_1672 : decode cL_law 1672 = .ok (.if_icmp .eq 5, 3) := by decide +kernel
theorem dL_law_1677 : decode cL_law 1677 = .ok (.iload 5, 2) := by decide +kernel
theorem dL_law_1679 : decode cL_law 1679 = .ok (.ifCond .ne 15, 3) := by decide +kernel
theorem dL_law_1694 : decode cL_law 1694 = .ok (.goto 1256, 3) := by decide +kernel
theorem dL_law_1697 : decode cL_law 1697 = .ok (.aload_n 1, 1) := by decide +kernel
theorem dL_law_1698 : decode cL_law 1698 = .ok (.aload_n 0, 1) := by decide +kernel
theorem dL_law_1699 : decode cL_law 1699 = .ok (.iload 4, 2) := by decide +kernel
theorem dL_law_1701 : decode cL_law 1701 = .ok (.iconst 1, 1) := by decide +kernel
theorem dL_law_1702 : decode cL_law 1702 = .ok (.iadd, 1) := by decide +kernel
theorem dL_law_1703 : decode cL_law 1703 = .ok (.iaload, 1) := by decide +kernel
theorem dL_law_1704 : decode cL_law 1704 = .ok (.aload_n 3, 1) := by decide +kernel
theorem dL_law_1705 : decode cL_law 1705 = .ok (.invokestatic 232, 3) := by decide +kernel
theorem dL_isReady_0 : decode cL_isReady 0 = .ok (.aload_n 2, 1) := by decide +kernel
theorem dL_isReady_1 : decode cL_isReady 1 = .ok (.iconst 0, 1) := by decide +kernel
theorem dL_isReady_2 : decode cL_isReady 2 = .ok (.aload_n 0, 1) := by decide +kernel
theorem dL_isReady_3 : decode cL_isReady 3 = .ok (.iload_n 1, 1) := by decide +kernel
theorem dL_isReady_4 : decode cL_isReady 4 = .ok (.invokevirtual 88, 3) := by decide +kernel
theorem dX10_isReady_0 : decode cX10_isReady 0 = .ok (.aload_n 0, 1) := by decide +kernel
theorem dX10_isReady_1 : decode cX10_isReady 1 = .ok (.iload_n 1, 1) := by decide +kernel
theorem dX10_isReady_2 : decode cX10_isReady 2 = .ok (.invokevirtual 44, 3) := by decide +kernel
theorem dL_isReady_19 : decode cL_isReady 19 = .ok (.astore_n 3, 1) := by decide +kernel
theorem dL_isReady_20 : decode cL_isReady 20 = .ok (.iconst 1, 1) := by decide +kernel
theorem dL_isReady_21 : decode cL_isReady 21 = .ok (.ireturn, 1) := by decide +kernel
theorem dL_law_1708 : decode cL_law 1708 = .ok (.istore 5, 2) := by decide +kernel
theorem dL_law_1710 : decode cL_law 1710 = .ok (.aload_n 2, 1) := by decide +kernel
theorem dL_law_1711 : decode cL_law 1711 = .ok (.aload_n 0, 1) := by decide +kernel
theorem dL_law_1712 : decode cL_law 1712 = .ok (.iload 4, 2) := by decide +kernel
theorem dL_law_1714 : decode cL_law 1714 = .ok (.iconst 1, 1) := by decide +kernel
theorem dL_law_1715 : decode cL_law 1715 = .ok (.iadd, 1) := by decide +kernel
theorem dL_law_1716 : decode cL_law 1716 = .ok (.iaload, 1) := by decide +kernel
theorem dL_law_1717 : decode cL_law 1717 = .ok (.invokevirtual 234, 3) := by decide +kernel
theorem dX14_isReady_0 : decode cX14_isReady 0 = .ok (.aload_n 0, 1) := by decide +kernel
theorem dX14_isReady_1 : decode cX14_isReady 1 = .ok (.iload_n 1, 1) := by decide +kernel
theorem dX14_isReady_2 : decode cX14_isReady 2 = .ok (.invokevirtual 126, 3) := by decide +kernel
theorem dX14_isReady_5 : decode cX14_isReady 5 = .ok (.ifCond .eq 18, 3) := by decide +kernel
theorem dX14_isReady_23 : decode cX14_isReady 23 = .ok (.iconst 0, 1) := by decide +kernel
theorem dX14_isReady_24 : decode cX14_isReady 24 = .ok (.ireturn, 1) := by decide +kernel
theorem dL_law_1720 : decode cL_law 1720 = .ok (.istore 6, 2) := by decide +kernel
theorem dL_law_1722 : decode cL_law 1722 = .ok (.aload_n 2, 1) := by decide +kernel
theorem dL_law_1723 : decode cL_law 1723 = .ok (.invokevirtual 152, 3) := by decide +kernel
theorem dL_law_1726 : decode cL_law 1726 = .ok (.iload 5, 2) := by decide +kernel
theorem dL_law_1728 : decode cL_law 1728 = .ok (.if_icmp .eq 5, 3) := by decide +kernel
theorem dL_law_1733 : decode cL_law 1733 = .ok (.iload 5, 2) := by decide +kernel
theorem dL_law_1735 : decode cL_law 1735 = .ok (.ifCond .ne 22, 3) := by decide +kernel
theorem dL_law_1757 : decode cL_law 1757 = .ok (.goto 1193, 3) := by decide +kernel
theorem dL_law_1760 : decode cL_law 1760 = .ok (.aload_n 1, 1) := by decide +kernel
theorem dL_law_1761 : decode cL_law 1761 = .ok (.aload_n 0, 1) := by decide +kernel
theorem dL_law_1762 : decode cL_law 1762 = .ok (.iload 4, 2) := by decide +kernel
theorem dL_law_1764 : decode cL_law 1764 = .ok (.iconst 1, 1) := by decide +kernel
theorem dL_law_1765 : decode cL_law 1765 = .ok (.iadd, 1) := by decide +kernel
theorem dL_law_1766 : decode cL_law 1766 = .ok (.iaload, 1) := by decide +kernel
theorem dL_law_1767 : decode cL_law 1767 = .ok (.aload_n 3, 1) := by decide +kernel
theorem dL_law_1768 : decode cL_law 1768 = .ok (.invokestatic 235, 3) := by decide +kernel
theorem dL_hasRoom_0 : decode cL_hasRoom 0 = .ok (.aload_n 2, 1) := by decide +kernel
theorem dL_hasRoom_1 : decode cL_hasRoom 1 = .ok (.iconst 0, 1) := by decide +kernel
theorem dL_hasRoom_2 : decode cL_hasRoom 2 = .ok (.aload_n 0, 1) := by decide +kernel
theorem dL_hasRoom_3 : decode cL_hasRoom 3 = .ok (.iload_n 1, 1) := by decide +kernel
theorem dL_hasRoom_4 : decode cL_hasRoom 4 = .ok (.invokevirtual 91, 3) := by decide +kernel
theorem dX10_hasRoom_0 : decode cX10_hasRoom 0 = .ok (.aload_n 0, 1) := by decide +kernel
theorem dX10_hasRoom_1 : decode cX10_hasRoom 1 = .ok (.iload_n 1, 1) := by decide +kernel
theorem dX10_hasRoom_2 : decode cX10_hasRoom 2 = .ok (.invokevirtual 44, 3) := by decide +kernel
theorem dL_hasRoom_19 : decode cL_hasRoom 19 = .ok (.astore_n 3, 1) := by decide +kernel
theorem dL_hasRoom_20 : decode cL_hasRoom 20 = .ok (.iconst 1, 1) := by decide +kernel
theorem dL_hasRoom_21 : decode cL_hasRoom 21 = .ok (.ireturn, 1) := by decide +kernel
theorem dL_law_1771 : decode cL_law 1771 = .ok (.istore 5, 2) := by decide +kernel
theorem dL_law_1773 : decode cL_law 1773 = .ok (.aload_n 2, 1) := by decide +kernel
theorem dL_law_1774 : decode cL_law 1774 = .ok (.aload_n 0, 1) := by decide +kernel
theorem dL_law_1775 : decode cL_law 1775 = .ok (.iload 4, 2) := by decide +kernel
theorem dL_law_1777 : decode cL_law 1777 = .ok (.iconst 1, 1) := by decide +kernel
theorem dL_law_1778 : decode cL_law 1778 = .ok (.iadd, 1) := by decide +kernel
theorem dL_law_1779 : decode cL_law 1779 = .ok (.iaload, 1) := by decide +kernel
theorem dL_law_1780 : decode cL_law 1780 = .ok (.invokevirtual 237, 3) := by decide +kernel
theorem dX14_hasRoom_0 : decode cX14_hasRoom 0 = .ok (.aload_n 0, 1) := by decide +kernel
theorem dX14_hasRoom_1 : decode cX14_hasRoom 1 = .ok (.iload_n 1, 1) := by decide +kernel
theorem dX14_hasRoom_2 : decode cX14_hasRoom 2 = .ok (.invokevirtual 126, 3) := by decide +kernel
theorem dX14_hasRoom_5 : decode cX14_hasRoom 5 = .ok (.ifCond .eq 18, 3) := by decide +kernel
theorem dX14_hasRoom_23 : decode cX14_hasRoom 23 = .ok (.iconst 0, 1) := by decide +kernel
theorem dX14_hasRoom_24 : decode cX14_hasRoom 24 = .ok (.ireturn, 1) := by decide +kernel
theorem dL_law_1783 : decode cL_law 1783 = .ok (.istore 6, 2) := by decide +kernel
theorem dL_law_1785 : decode cL_law 1785 = .ok (.aload_n 2, 1) := by decide +kernel
theorem dL_law_1786 : decode cL_law 1786 = .ok (.invokevirtual 152, 3) := by decide +kernel
theorem dL_law_1789 : decode cL_law 1789 = .ok (.iload 5, 2) := by decide +kernel
theorem dL_law_1791 : decode cL_law 1791 = .ok (.if_icmp .eq 5, 3) := by decide +kernel
theorem dL_law_1796 : decode cL_law 1796 = .ok (.iload 5, 2) := by decide +kernel
theorem dL_law_1798 : decode cL_law 1798 = .ok (.ifCond .ne 22, 3) := by decide +kernel
theorem dL_law_1820 : decode cL_law 1820 = .ok (.goto 1130, 3) := by decide +kernel
theorem dL_law_1823 : decode cL_law 1823 = .ok (.aload_n 1, 1) := by decide +kernel
theorem dL_law_1824 : decode cL_law 1824 = .ok (.aload_n 0, 1) := by decide +kernel
theorem dL_law_1825 : decode cL_law 1825 = .ok (.iload 4, 2) := by decide +kernel
theorem dL_law_1827 : decode cL_law 1827 = .ok (.iconst 1, 1) := by decide +kernel
theorem dL_law_1828 : decode cL_law 1828 = .ok (.iadd, 1) := by decide +kernel
theorem dL_law_1829 : decode cL_law 1829 = .ok (.iaload, 1) := by decide +kernel
theorem dL_law_1830 : decode cL_law 1830 = .ok (.aload_n 0, 1) := by decide +kernel
theorem dL_law_1831 : decode cL_law 1831 = .ok (.iload 4, 2) := by decide +kernel
theorem dL_law_1833 : decode cL_law 1833 = .ok (.iconst 2, 1) := by decide +kernel
theorem dL_law_1834 : decode cL_law 1834 = .ok (.iadd, 1) := by decide +kernel
theorem dL_law_1835 : decode cL_law 1835 = .ok (.iaload, 1) := by decide +kernel
theorem dL_law_1836 : decode cL_law 1836 = .ok (.ifCond .eq 7, 3) := by decide +kernel
theorem dL_law_1843 : decode cL_law 1843 = .ok (.iconst 0, 1) := by decide +kernel
theorem dL_law_1844 : decode cL_law 1844 = .ok (.aload_n 3, 1) := by decide +kernel
theorem dL_law_1845 : decode cL_law 1845 = .ok (.invokestatic 238, 3) := by decide +kernel
theorem dL_queued_0 : decode cL_queued 0 = .ok (.aload_n 3, 1) := by decide +kernel
theorem dL_queued_1 : decode cL_queued 1 = .ok (.iconst 0, 1) := by decide +kernel
theorem dL_queued_2 : decode cL_queued 2 = .ok (.aload_n 0, 1) := by decide +kernel
theorem dL_queued_3 : decode cL_queued 3 = .ok (.iload_n 1, 1) := by decide +kernel
theorem dL_queued_4 : decode cL_queued 4 = .ok (.iload_n 2, 1) := by decide +kernel
theorem dL_queued_5 : decode cL_queued 5 = .ok (.invokevirtual 94, 3) := by decide +kernel
theorem dX10_queued_0 : decode cX10_queued 0 = .ok (.aload_n 0, 1) := by decide +kernel
theorem dX10_queued_1 : decode cX10_queued 1 = .ok (.iload_n 1, 1) := by decide +kernel
theorem dX10_queued_2 : decode cX10_queued 2 = .ok (.invokevirtual 44, 3) := by decide +kernel
theorem dL_queued_13 : decode cL_queued 13 = .ok (.astore 4, 2) := by decide +kernel
theorem dL_queued_15 : decode cL_queued 15 = .ok (.iconst 1, 1) := by decide +kernel
theorem dL_queued_16 : decode cL_queued 16 = .ok (.ireturn, 1) := by decide +kernel
theorem dL_law_1848 : decode cL_law 1848 = .ok (.istore 5, 2) := by decide +kernel
theorem dL_law_1850 : decode cL_law 1850 = .ok (.aload_n 2, 1) := by decide +kernel
theorem dL_law_1851 : decode cL_law 1851 = .ok (.aload_n 0, 1) := by decide +kernel
theorem dL_law_1852 : decode cL_law 1852 = .ok (.iload 4, 2) := by decide +kernel
theorem dL_law_1854 : decode cL_law 1854 = .ok (.iconst 1, 1) := by decide +kernel
theorem dL_law_1855 : decode cL_law 1855 = .ok (.iadd, 1) := by decide +kernel
theorem dL_law_1856 : decode cL_law 1856 = .ok (.iaload, 1) := by decide +kernel
theorem dL_law_1857 : decode cL_law 1857 = .ok (.aload_n 0, 1) := by decide +kernel
theorem dL_law_1858 : decode cL_law 1858 = .ok (.iload 4, 2) := by decide +kernel
theorem dL_law_1860 : decode cL_law 1860 = .ok (.iconst 2, 1) := by decide +kernel
theorem dL_law_1861 : decode cL_law 1861 = .ok (.iadd, 1) := by decide +kernel
theorem dL_law_1862 : decode cL_law 1862 = .ok (.iaload, 1) := by decide +kernel
theorem dL_law_1863 : decode cL_law 1863 = .ok (.ifCond .eq 7, 3) := by decide +kernel
theorem dL_law_1870 : decode cL_law 1870 = .ok (.iconst 0, 1) := by decide +kernel
theorem dL_law_1871 : decode cL_law 1871 = .ok (.invokevirtual 241, 3) := by decide +kernel
theorem dX14_queued_0 : decode cX14_queued 0 = .ok (.aload_n 0, 1) := by decide +kernel
theorem dX14_queued_1 : decode cX14_queued 1 = .ok (.iload_n 1, 1) := by decide +kernel
theorem dX14_queued_2 : decode cX14_queued 2 = .ok (.invokevirtual 126, 3) := by decide +kernel
theorem dX14_queued_5 : decode cX14_queued 5 = .ok (.ifCond .eq 20, 3) := by decide +kernel
theorem dX14_queued_25 : decode cX14_queued 25 = .ok (.iconst 0, 1) := by decide +kernel
theorem dX14_queued_26 : decode cX14_queued 26 = .ok (.ireturn, 1) := by decide +kernel
theorem dL_law_1874 : decode cL_law 1874 = .ok (.istore 6, 2) := by decide +kernel
theorem dL_law_1876 : decode cL_law 1876 = .ok (.aload_n 2, 1) := by decide +kernel
theorem dL_law_1877 : decode cL_law 1877 = .ok (.invokevirtual 152, 3) := by decide +kernel
theorem dL_law_1880 : decode cL_law 1880 = .ok (.iload 5, 2) := by decide +kernel
theorem dL_law_1882 : decode cL_law 1882 = .ok (.if_icmp .eq 5, 3) := by decide +kernel
theorem dL_law_1887 : decode cL_law 1887 = .ok (.iload 5, 2) := by decide +kernel
theorem dL_law_1889 : decode cL_law 1889 = .ok (.ifCond .ne 15, 3) := by decide +kernel
theorem dL_law_1904 : decode cL_law 1904 = .ok (.goto 1046, 3) := by decide +kernel
theorem dL_law_1839 : decode cL_law 1839 = .ok (.iconst 1, 1) := by decide +kernel
theorem dL_law_1840 : decode cL_law 1840 = .ok (.goto 4, 3) := by decide +kernel
theorem dL_law_1866 : decode cL_law 1866 = .ok (.iconst 1, 1) := by decide +kernel
theorem dL_law_1867 : decode cL_law 1867 = .ok (.goto 4, 3) := by decide +kernel
theorem dL_law_1907 : decode cL_law 1907 = .ok (.aload_n 1, 1) := by decide +kernel
theorem dL_law_1908 : decode cL_law 1908 = .ok (.aload_n 0, 1) := by decide +kernel
theorem dL_law_1909 : decode cL_law 1909 = .ok (.iload 4, 2) := by decide +kernel
theorem dL_law_1911 : decode cL_law 1911 = .ok (.iconst 1, 1) := by decide +kernel
theorem dL_law_1912 : decode cL_law 1912 = .ok (.iadd, 1) := by decide +kernel
theorem dL_law_1913 : decode cL_law 1913 = .ok (.iaload, 1) := by decide +kernel
theorem dL_law_1914 : decode cL_law 1914 = .ok (.aload_n 0, 1) := by decide +kernel
theorem dL_law_1915 : decode cL_law 1915 = .ok (.iload 4, 2) := by decide +kernel
theorem dL_law_1917 : decode cL_law 1917 = .ok (.iconst 2, 1) := by decide +kernel
theorem dL_law_1918 : decode cL_law 1918 = .ok (.iadd, 1) := by decide +kernel
theorem dL_law_1919 : decode cL_law 1919 = .ok (.iaload, 1) := by decide +kernel
theorem dL_law_1920 : decode cL_law 1920 = .ok (.ifCond .eq 7, 3) := by decide +kernel
theorem dL_law_1927 : decode cL_law 1927 = .ok (.iconst 0, 1) := by decide +kernel
theorem dL_law_1928 : decode cL_law 1928 = .ok (.aload_n 3, 1) := by decide +kernel
theorem dL_law_1929 : decode cL_law 1929 = .ok (.invokestatic 242, 3) := by decide +kernel
theorem dL_isBlocked_0 : decode cL_isBlocked 0 = .ok (.aload_n 3, 1) := by decide +kernel
theorem dL_isBlocked_1 : decode cL_isBlocked 1 = .ok (.iconst 0, 1) := by decide +kernel
theorem dL_isBlocked_2 : decode cL_isBlocked 2 = .ok (.aload_n 0, 1) := by decide +kernel
theorem dL_isBlocked_3 : decode cL_isBlocked 3 = .ok (.iload_n 1, 1) := by decide +kernel
theorem dL_isBlocked_4 : decode cL_isBlocked 4 = .ok (.iload_n 2, 1) := by decide +kernel
theorem dL_isBlocked_5 : decode cL_isBlocked 5 = .ok (.invokevirtual 98, 3) := by decide +kernel
theorem dX10_isBlocked_0 : decode cX10_isBlocked 0 = .ok (.aload_n 0, 1) := by decide +kernel
theorem dX10_isBlocked_1 : decode cX10_isBlocked 1 = .ok (.iload_n 1, 1) := by decide +kernel
theorem dX10_isBlocked_2 : decode cX10_isBlocked 2 = .ok (.invokevirtual 44, 3) := by decide +kernel
theorem dL_isBlocked_20 : decode cL_isBlocked 20 = .ok (.astore 4, 2) := by decide +kernel
theorem dL_isBlocked_22 : decode cL_isBlocked 22 = .ok (.iconst 1, 1) := by decide +kernel
theorem dL_isBlocked_23 : decode cL_isBlocked 23 = .ok (.ireturn, 1) := by decide +kernel
theorem dL_law_1932 : decode cL_law 1932 = .ok (.istore 5, 2) := by decide +kernel
theorem dL_law_1934 : decode cL_law 1934 = .ok (.aload_n 2, 1) := by decide +kernel
theorem dL_law_1935 : decode cL_law 1935 = .ok (.aload_n 0, 1) := by decide +kernel
theorem dL_law_1936 : decode cL_law 1936 = .ok (.iload 4, 2) := by decide +kernel
theorem dL_law_1938 : decode cL_law 1938 = .ok (.iconst 1, 1) := by decide +kernel
theorem dL_law_1939 : decode cL_law 1939 = .ok (.iadd, 1) := by decide +kernel
theorem dL_law_1940 : decode cL_law 1940 = .ok (.iaload, 1) := by decide +kernel
theorem dL_law_1941 : decode cL_law 1941 = .ok (.aload_n 0, 1) := by decide +kernel
theorem dL_law_1942 : decode cL_law 1942 = .ok (.iload 4, 2) := by decide +kernel
theorem dL_law_1944 : decode cL_law 1944 = .ok (.iconst 2, 1) := by decide +kernel
theorem dL_law_1945 : decode cL_law 1945 = .ok (.iadd, 1) := by decide +kernel
theorem dL_law_1946 : decode cL_law 1946 = .ok (.iaload, 1) := by decide +kernel
theorem dL_law_1947 : decode cL_law 1947 = .ok (.ifCond .eq 7, 3) := by decide +kernel
theorem dL_law_1954 : decode cL_law 1954 = .ok (.iconst 0, 1) := by decide +kernel
theorem dL_law_1955 : decode cL_law 1955 = .ok (.invokevirtual 244, 3) := by decide +kernel
theorem dX14_isBlocked_0 : decode cX14_isBlocked 0 = .ok (.aload_n 0, 1) := by decide +kernel
theorem dX14_isBlocked_1 : decode cX14_isBlocked 1 = .ok (.iload_n 1, 1) := by decide +kernel
theorem dX14_isBlocked_2 : decode cX14_isBlocked 2 = .ok (.invokevirtual 126, 3) := by decide +kernel
theorem dX14_isBlocked_5 : decode cX14_isBlocked 5 = .ok (.ifCond .eq 29, 3) := by decide +kernel
theorem dX14_isBlocked_34 : decode cX14_isBlocked 34 = .ok (.iconst 0, 1) := by decide +kernel
theorem dX14_isBlocked_35 : decode cX14_isBlocked 35 = .ok (.ireturn, 1) := by decide +kernel
theorem dL_law_1958 : decode cL_law 1958 = .ok (.istore 6, 2) := by decide +kernel
theorem dL_law_1960 : decode cL_law 1960 = .ok (.aload_n 2, 1) := by decide +kernel
theorem dL_law_1961 : decode cL_law 1961 = .ok (.invokevirtual 152, 3) := by decide +kernel
theorem dL_law_1964 : decode cL_law 1964 = .ok (.iload 5, 2) := by decide +kernel
theorem dL_law_1966 : decode cL_law 1966 = .ok (.if_icmp .eq 5, 3) := by decide +kernel
theorem dL_law_1971 : decode cL_law 1971 = .ok (.iload 5, 2) := by decide +kernel
theorem dL_law_1973 : decode cL_law 1973 = .ok (.ifCond .ne 22, 3) := by decide +kernel
theorem dL_law_1995 : decode cL_law 1995 = .ok (.goto 955, 3) := by decide +kernel
theorem dL_law_1923 : decode cL_law 1923 = .ok (.iconst 1, 1) := by decide +kernel
theorem dL_law_1924 : decode cL_law 1924 = .ok (.goto 4, 3) := by decide +kernel
theorem dL_law_1950 : decode cL_law 1950 = .ok (.iconst 1, 1) := by decide +kernel
theorem dL_law_1951 : decode cL_law 1951 = .ok (.goto 4, 3) := by decide +kernel
theorem dL_law_1998 : decode cL_law 1998 = .ok (.aload_n 1, 1) := by decide +kernel
theorem dL_law_1999 : decode cL_law 1999 = .ok (.aload_n 0, 1) := by decide +kernel
theorem dL_law_2000 : decode cL_law 2000 = .ok (.iload 4, 2) := by decide +kernel
theorem dL_law_2002 : decode cL_law 2002 = .ok (.iconst 1, 1) := by decide +kernel
theorem dL_law_2003 : decode cL_law 2003 = .ok (.iadd, 1) := by decide +kernel
theorem dL_law_2004 : decode cL_law 2004 = .ok (.iaload, 1) := by decide +kernel
theorem dL_law_2005 : decode cL_law 2005 = .ok (.aload_n 0, 1) := by decide +kernel
theorem dL_law_2006 : decode cL_law 2006 = .ok (.iload 4, 2) := by decide +kernel
theorem dL_law_2008 : decode cL_law 2008 = .ok (.iconst 2, 1) := by decide +kernel
theorem dL_law_2009 : decode cL_law 2009 = .ok (.iadd, 1) := by decide +kernel
theorem dL_law_2010 : decode cL_law 2010 = .ok (.iaload, 1) := by decide +kernel
theorem dL_law_2011 : decode cL_law 2011 = .ok (.aload_n 3, 1) := by decide +kernel
theorem dL_law_2012 : decode cL_law 2012 = .ok (.invokestatic 245, 3) := by decide +kernel
theorem dL_leads_0 : decode cL_leads 0 = .ok (.aload_n 3, 1) := by decide +kernel
theorem dL_leads_1 : decode cL_leads 1 = .ok (.iconst 0, 1) := by decide +kernel
theorem dL_leads_2 : decode cL_leads 2 = .ok (.aload_n 0, 1) := by decide +kernel
theorem dL_leads_3 : decode cL_leads 3 = .ok (.iload_n 1, 1) := by decide +kernel
theorem dL_leads_4 : decode cL_leads 4 = .ok (.iload_n 2, 1) := by decide +kernel
theorem dL_leads_5 : decode cL_leads 5 = .ok (.invokevirtual 102, 3) := by decide +kernel
theorem dX10_leads_0 : decode cX10_leads 0 = .ok (.aload_n 0, 1) := by decide +kernel
theorem dX10_leads_1 : decode cX10_leads 1 = .ok (.iload_n 1, 1) := by decide +kernel
theorem dX10_leads_2 : decode cX10_leads 2 = .ok (.invokevirtual 44, 3) := by decide +kernel
theorem dL_leads_20 : decode cL_leads 20 = .ok (.astore 4, 2) := by decide +kernel
theorem dL_leads_22 : decode cL_leads 22 = .ok (.iconst 1, 1) := by decide +kernel
theorem dL_leads_23 : decode cL_leads 23 = .ok (.ireturn, 1) := by decide +kernel
theorem dL_law_2015 : decode cL_law 2015 = .ok (.istore 5, 2) := by decide +kernel
theorem dL_law_2017 : decode cL_law 2017 = .ok (.aload_n 2, 1) := by decide +kernel
theorem dL_law_2018 : decode cL_law 2018 = .ok (.aload_n 0, 1) := by decide +kernel
theorem dL_law_2019 : decode cL_law 2019 = .ok (.iload 4, 2) := by decide +kernel
theorem dL_law_2021 : decode cL_law 2021 = .ok (.iconst 1, 1) := by decide +kernel
theorem dL_law_2022 : decode cL_law 2022 = .ok (.iadd, 1) := by decide +kernel
theorem dL_law_2023 : decode cL_law 2023 = .ok (.iaload, 1) := by decide +kernel
theorem dL_law_2024 : decode cL_law 2024 = .ok (.aload_n 0, 1) := by decide +kernel
theorem dL_law_2025 : decode cL_law 2025 = .ok (.iload 4, 2) := by decide +kernel
theorem dL_law_2027 : decode cL_law 2027 = .ok (.iconst 2, 1) := by decide +kernel
theorem dL_law_2028 : decode cL_law 2028 = .ok (.iadd, 1) := by decide +kernel
theorem dL_law_2029 : decode cL_law 2029 = .ok (.iaload, 1) := by decide +kernel
theorem dL_law_2030 : decode cL_law 2030 = .ok (.invokevirtual 247, 3) := by decide +kernel
theorem dX14_leads_0 : decode cX14_leads 0 = .ok (.aload_n 0, 1) := by decide +kernel
theorem dX14_leads_1 : decode cX14_leads 1 = .ok (.aload_n 0, 1) := by decide +kernel
theorem dX14_leads_2 : decode cX14_leads 2 = .ok (.iload_n 1, 1) := by decide +kernel
theorem dX14_leads_3 : decode cX14_leads 3 = .ok (.invokevirtual 54, 3) := by decide +kernel
theorem dX14_leads_6 : decode cX14_leads 6 = .ok (.ifCond .eq 15, 3) := by decide +kernel
theorem dX14_leads_21 : decode cX14_leads 21 = .ok (.iconst 1, 1) := by decide +kernel
theorem dX14_leads_22 : decode cX14_leads 22 = .ok (.putfield 43, 3) := by decide +kernel
theorem dX14_leads_25 : decode cX14_leads 25 = .ok (.aload_n 0, 1) := by decide +kernel
theorem dX14_leads_26 : decode cX14_leads 26 = .ok (.getfield 43, 3) := by decide +kernel
theorem dX14_leads_29 : decode cX14_leads 29 = .ok (.ifCond .ne 16, 3) := by decide +kernel
theorem dX14_leads_45 : decode cX14_leads 45 = .ok (.iconst 0, 1) := by decide +kernel
theorem dX14_leads_46 : decode cX14_leads 46 = .ok (.ireturn, 1) := by decide +kernel
theorem dL_law_2033 : decode cL_law 2033 = .ok (.istore 6, 2) := by decide +kernel
theorem dL_law_2035 : decode cL_law 2035 = .ok (.aload_n 2, 1) := by decide +kernel
theorem dL_law_2036 : decode cL_law 2036 = .ok (.invokevirtual 152, 3) := by decide +kernel
theorem dL_law_2039 : decode cL_law 2039 = .ok (.iload 5, 2) := by decide +kernel
theorem dL_law_2041 : decode cL_law 2041 = .ok (.if_icmp .eq 5, 3) := by decide +kernel
theorem dL_law_2046 : decode cL_law 2046 = .ok (.iload 5, 2) := by decide +kernel
theorem dL_law_2048 : decode cL_law 2048 = .ok (.ifCond .ne 22, 3) := by decide +kernel
theorem dL_law_2070 : decode cL_law 2070 = .ok (.goto 880, 3) := by decide +kernel
theorem dL_law_2073 : decode cL_law 2073 = .ok (.aload_n 1, 1) := by decide +kernel
theorem dL_law_2074 : decode cL_law 2074 = .ok (.aload_n 0, 1) := by decide +kernel
theorem dL_law_2075 : decode cL_law 2075 = .ok (.iload 4, 2) := by decide +kernel
theorem dL_law_2077 : decode cL_law 2077 = .ok (.iconst 1, 1) := by decide +kernel
theorem dL_law_2078 : decode cL_law 2078 = .ok (.iadd, 1) := by decide +kernel
theorem dL_law_2079 : decode cL_law 2079 = .ok (.iaload, 1) := by decide +kernel
theorem dL_law_2080 : decode cL_law 2080 = .ok (.aload_n 3, 1) := by decide +kernel
theorem dL_law_2081 : decode cL_law 2081 = .ok (.invokestatic 248, 3) := by decide +kernel
theorem dL_depthOf_0 : decode cL_depthOf 0 = .ok (.aload_n 2, 1) := by decide +kernel
theorem dL_depthOf_1 : decode cL_depthOf 1 = .ok (.iconst 0, 1) := by decide +kernel
theorem dL_depthOf_2 : decode cL_depthOf 2 = .ok (.aload_n 0, 1) := by decide +kernel
theorem dL_depthOf_3 : decode cL_depthOf 3 = .ok (.iload_n 1, 1) := by decide +kernel
theorem dL_depthOf_4 : decode cL_depthOf 4 = .ok (.invokevirtual 106, 3) := by decide +kernel
theorem dX10_depthOf_0 : decode cX10_depthOf 0 = .ok (.aload_n 0, 1) := by decide +kernel
theorem dX10_depthOf_1 : decode cX10_depthOf 1 = .ok (.iload_n 1, 1) := by decide +kernel
theorem dX10_depthOf_2 : decode cX10_depthOf 2 = .ok (.invokevirtual 44, 3) := by decide +kernel
theorem dL_depthOf_12 : decode cL_depthOf 12 = .ok (.astore_n 3, 1) := by decide +kernel
theorem dL_depthOf_13 : decode cL_depthOf 13 = .ok (.iconst 1, 1) := by decide +kernel
theorem dL_depthOf_14 : decode cL_depthOf 14 = .ok (.ireturn, 1) := by decide +kernel
theorem dL_law_2084 : decode cL_law 2084 = .ok (.istore 5, 2) := by decide +kernel
theorem dL_law_2086 : decode cL_law 2086 = .ok (.aload_n 2, 1) := by decide +kernel
theorem dL_law_2087 : decode cL_law 2087 = .ok (.aload_n 0, 1) := by decide +kernel
theorem dL_law_2088 : decode cL_law 2088 = .ok (.iload 4, 2) := by decide +kernel
theorem dL_law_2090 : decode cL_law 2090 = .ok (.iconst 1, 1) := by decide +kernel
theorem dL_law_2091 : decode cL_law 2091 = .ok (.iadd, 1) := by decide +kernel
theorem dL_law_2092 : decode cL_law 2092 = .ok (.iaload, 1) := by decide +kernel
theorem dL_law_2093 : decode cL_law 2093 = .ok (.invokevirtual 250, 3) := by decide +kernel
theorem dX14_depthOf_0 : decode cX14_depthOf 0 = .ok (.aload_n 0, 1) := by decide +kernel
theorem dX14_depthOf_1 : decode cX14_depthOf 1 = .ok (.iload_n 1, 1) := by decide +kernel
theorem dX14_depthOf_2 : decode cX14_depthOf 2 = .ok (.invokevirtual 126, 3) := by decide +kernel
theorem dX14_depthOf_5 : decode cX14_depthOf 5 = .ok (.ifCond .eq 11, 3) := by decide +kernel
theorem dX14_depthOf_16 : decode cX14_depthOf 16 = .ok (.iconst 0, 1) := by decide +kernel
theorem dX14_depthOf_17 : decode cX14_depthOf 17 = .ok (.ireturn, 1) := by decide +kernel
theorem dL_law_2096 : decode cL_law 2096 = .ok (.istore 6, 2) := by decide +kernel
theorem dL_law_2098 : decode cL_law 2098 = .ok (.aload_n 2, 1) := by decide +kernel
theorem dL_law_2099 : decode cL_law 2099 = .ok (.invokevirtual 152, 3) := by decide +kernel
theorem dL_law_2102 : decode cL_law 2102 = .ok (.iload 5, 2) := by decide +kernel
theorem dL_law_2104 : decode cL_law 2104 = .ok (.if_icmp .eq 5, 3) := by decide +kernel
theorem dL_law_2109 : decode cL_law 2109 = .ok (.iload 5, 2) := by decide +kernel
theorem dL_law_2111 : decode cL_law 2111 = .ok (.ifCond .ne 15, 3) := by decide +kernel
theorem dL_law_2126 : decode cL_law 2126 = .ok (.goto 824, 3) := by decide +kernel
theorem dL_law_2129 : decode cL_law 2129 = .ok (.aload_n 1, 1) := by decide +kernel
theorem dL_law_2130 : decode cL_law 2130 = .ok (.aload_n 0, 1) := by decide +kernel
theorem dL_law_2131 : decode cL_law 2131 = .ok (.iload 4, 2) := by decide +kernel
theorem dL_law_2133 : decode cL_law 2133 = .ok (.iconst 1, 1) := by decide +kernel
theorem dL_law_2134 : decode cL_law 2134 = .ok (.iadd, 1) := by decide +kernel
theorem dL_law_2135 : decode cL_law 2135 = .ok (.iaload, 1) := by decide +kernel
theorem dL_law_2136 : decode cL_law 2136 = .ok (.aload_n 0, 1) := by decide +kernel
theorem dL_law_2137 : decode cL_law 2137 = .ok (.iload 4, 2) := by decide +kernel
theorem dL_law_2139 : decode cL_law 2139 = .ok (.iconst 2, 1) := by decide +kernel
theorem dL_law_2140 : decode cL_law 2140 = .ok (.iadd, 1) := by decide +kernel
theorem dL_law_2141 : decode cL_law 2141 = .ok (.iaload, 1) := by decide +kernel
theorem dL_law_2142 : decode cL_law 2142 = .ok (.aload_n 0, 1) := by decide +kernel
theorem dL_law_2143 : decode cL_law 2143 = .ok (.iload 4, 2) := by decide +kernel
theorem dL_law_2145 : decode cL_law 2145 = .ok (.iconst 3, 1) := by decide +kernel
theorem dL_law_2146 : decode cL_law 2146 = .ok (.iadd, 1) := by decide +kernel
theorem dL_law_2147 : decode cL_law 2147 = .ok (.iaload, 1) := by decide +kernel
theorem dL_law_2148 : decode cL_law 2148 = .ok (.aload_n 3, 1) := by decide +kernel
theorem dL_law_2149 : decode cL_law 2149 = .ok (.invokestatic 251, 3) := by decide +kernel
theorem dL_accountAt_0 : decode cL_accountAt 0 = .ok (.aload 4, 2) := by decide +kernel
theorem dL_accountAt_2 : decode cL_accountAt 2 = .ok (.iconst 0, 1) := by decide +kernel
theorem dL_accountAt_3 : decode cL_accountAt 3 = .ok (.aload_n 0, 1) := by decide +kernel
theorem dL_accountAt_4 : decode cL_accountAt 4 = .ok (.iload_n 1, 1) := by decide +kernel
theorem dL_accountAt_5 : decode cL_accountAt 5 = .ok (.iload_n 2, 1) := by decide +kernel
theorem dL_accountAt_6 : decode cL_accountAt 6 = .ok (.iload_n 3, 1) := by decide +kernel
theorem dL_accountAt_7 : decode cL_accountAt 7 = .ok (.invokevirtual 109, 3) := by decide +kernel
theorem dX10_accountAt_0 : decode cX10_accountAt 0 = .ok (.aload_n 0, 1) := by decide +kernel
theorem dX10_accountAt_1 : decode cX10_accountAt 1 = .ok (.iload_n 1, 1) := by decide +kernel
theorem dX10_accountAt_2 : decode cX10_accountAt 2 = .ok (.invokevirtual 203, 3) := by decide +kernel
theorem dX10_spanStageOf_0 : decode cX10_spanStageOf 0 = .ok (.aload_n 0, 1) := by decide +kernel
theorem dX10_spanStageOf_1 : decode cX10_spanStageOf 1 = .ok (.iload_n 1, 1) := by decide +kernel
theorem dX10_spanStageOf_2 : decode cX10_spanStageOf 2 = .ok (.invokevirtual 44, 3) := by decide +kernel
theorem dL_accountAt_15 : decode cL_accountAt 15 = .ok (.astore 5, 2) := by decide +kernel
theorem dL_accountAt_17 : decode cL_accountAt 17 = .ok (.iconst 1, 1) := by decide +kernel
theorem dL_accountAt_18 : decode cL_accountAt 18 = .ok (.ireturn, 1) := by decide +kernel
theorem dL_law_2152 : decode cL_law 2152 = .ok (.istore 5, 2) := by decide +kernel
theorem dL_law_2154 : decode cL_law 2154 = .ok (.aload_n 2, 1) := by decide +kernel
theorem dL_law_2155 : decode cL_law 2155 = .ok (.aload_n 0, 1) := by decide +kernel
theorem dL_law_2156 : decode cL_law 2156 = .ok (.iload 4, 2) := by decide +kernel
theorem dL_law_2158 : decode cL_law 2158 = .ok (.iconst 1, 1) := by decide +kernel
theorem dL_law_2159 : decode cL_law 2159 = .ok (.iadd, 1) := by decide +kernel
theorem dL_law_2160 : decode cL_law 2160 = .ok (.iaload, 1) := by decide +kernel
theorem dL_law_2161 : decode cL_law 2161 = .ok (.aload_n 0, 1) := by decide +kernel
theorem dL_law_2162 : decode cL_law 2162 = .ok (.iload 4, 2) := by decide +kernel
theorem dL_law_2164 : decode cL_law 2164 = .ok (.iconst 2, 1) := by decide +kernel
theorem dL_law_2165 : decode cL_law 2165 = .ok (.iadd, 1) := by decide +kernel
theorem dL_law_2166 : decode cL_law 2166 = .ok (.iaload, 1) := by decide +kernel
theorem dL_law_2167 : decode cL_law 2167 = .ok (.aload_n 0, 1) := by decide +kernel
theorem dL_law_2168 : decode cL_law 2168 = .ok (.iload 4, 2) := by decide +kernel
theorem dL_law_2170 : decode cL_law 2170 = .ok (.iconst 3, 1) := by decide +kernel
theorem dL_law_2171 : decode cL_law 2171 = .ok (.iadd, 1) := by decide +kernel
theorem dL_law_2172 : decode cL_law 2172 = .ok (.iaload, 1) := by decide +kernel
theorem dL_law_2173 : decode cL_law 2173 = .ok (.invokevirtual 253, 3) := by decide +kernel
theorem dX14_accountAt_0 : decode cX14_accountAt 0 = .ok (.aload_n 0, 1) := by decide +kernel
theorem dX14_accountAt_1 : decode cX14_accountAt 1 = .ok (.iload_n 1, 1) := by decide +kernel
theorem dX14_accountAt_2 : decode cX14_accountAt 2 = .ok (.invokevirtual 183, 3) := by decide +kernel
theorem dX14_hasSpans_0 : decode cX14_hasSpans 0 = .ok (.aload_n 0, 1) := by decide +kernel
theorem dX14_hasSpans_1 : decode cX14_hasSpans 1 = .ok (.iload_n 1, 1) := by decide +kernel
theorem dX14_hasSpans_2 : decode cX14_hasSpans 2 = .ok (.invokevirtual 126, 3) := by decide +kernel
theorem dX14_hasSpans_5 : decode cX14_hasSpans 5 = .ok (.ifCond .eq 28, 3) := by decide +kernel
theorem dX14_hasSpans_33 : decode cX14_hasSpans 33 = .ok (.aload_n 0, 1) := by decide +kernel
theorem dX14_hasSpans_34 : decode cX14_hasSpans 34 = .ok (.getfield 43, 3) := by decide +kernel
theorem dX14_hasSpans_37 : decode cX14_hasSpans 37 = .ok (.ifCond .ne 7, 3) := by decide +kernel
theorem dX14_hasSpans_44 : decode cX14_hasSpans 44 = .ok (.iconst 0, 1) := by decide +kernel
theorem dX14_hasSpans_45 : decode cX14_hasSpans 45 = .ok (.ireturn, 1) := by decide +kernel
theorem dX14_accountAt_5 : decode cX14_accountAt 5 = .ok (.ifCond .ne 5, 3) := by decide +kernel
theorem dX14_accountAt_8 : decode cX14_accountAt 8 = .ok (.iconst 0, 1) := by decide +kernel
theorem dX14_accountAt_9 : decode cX14_accountAt 9 = .ok (.ireturn, 1) := by decide +kernel
theorem dL_law_2176 : decode cL_law 2176 = .ok (.istore 6, 2) := by decide +kernel
theorem dL_law_2178 : decode cL_law 2178 = .ok (.aload_n 2, 1) := by decide +kernel
theorem dL_law_2179 : decode cL_law 2179 = .ok (.invokevirtual 152, 3) := by decide +kernel
theorem dL_law_2182 : decode cL_law 2182 = .ok (.iload 5, 2) := by decide +kernel
theorem dL_law_2184 : decode cL_law 2184 = .ok (.if_icmp .eq 5, 3) := by decide +kernel
theorem dL_law_2189 : decode cL_law 2189 = .ok (.iload 5, 2) := by decide +kernel
theorem dL_law_2191 : decode cL_law 2191 = .ok (.ifCond .ne 15, 3) := by decide +kernel
theorem dL_law_2206 : decode cL_law 2206 = .ok (.goto 744, 3) := by decide +kernel
theorem dL_law_2209 : decode cL_law 2209 = .ok (.aload_n 1, 1) := by decide +kernel
theorem dL_law_2210 : decode cL_law 2210 = .ok (.aload_n 0, 1) := by decide +kernel
theorem dL_law_2211 : decode cL_law 2211 = .ok (.iload 4, 2) := by decide +kernel
theorem dL_law_2213 : decode cL_law 2213 = .ok (.iconst 1, 1) := by decide +kernel
theorem dL_law_2214 : decode cL_law 2214 = .ok (.iadd, 1) := by decide +kernel
theorem dL_law_2215 : decode cL_law 2215 = .ok (.iaload, 1) := by decide +kernel
theorem dL_law_2216 : decode cL_law 2216 = .ok (.aload_n 3, 1) := by decide +kernel
theorem dL_law_2217 : decode cL_law 2217 = .ok (.invokestatic 254, 3) := by decide +kernel
theorem dL_nextEnd_0 : decode cL_nextEnd 0 = .ok (.aload_n 2, 1) := by decide +kernel
theorem dL_nextEnd_1 : decode cL_nextEnd 1 = .ok (.iconst 0, 1) := by decide +kernel
theorem dL_nextEnd_2 : decode cL_nextEnd 2 = .ok (.aload_n 0, 1) := by decide +kernel
theorem dL_nextEnd_3 : decode cL_nextEnd 3 = .ok (.iload_n 1, 1) := by decide +kernel
theorem dL_nextEnd_4 : decode cL_nextEnd 4 = .ok (.invokevirtual 112, 3) := by decide +kernel
theorem dX10_nextEnd_0 : decode cX10_nextEnd 0 = .ok (.aload_n 0, 1) := by decide +kernel
theorem dX10_nextEnd_1 : decode cX10_nextEnd 1 = .ok (.iload_n 1, 1) := by decide +kernel
theorem dX10_nextEnd_2 : decode cX10_nextEnd 2 = .ok (.invokevirtual 203, 3) := by decide +kernel
theorem dL_nextEnd_12 : decode cL_nextEnd 12 = .ok (.astore_n 3, 1) := by decide +kernel
theorem dL_nextEnd_13 : decode cL_nextEnd 13 = .ok (.iconst 1, 1) := by decide +kernel
theorem dL_nextEnd_14 : decode cL_nextEnd 14 = .ok (.ireturn, 1) := by decide +kernel
theorem dL_law_2220 : decode cL_law 2220 = .ok (.istore 5, 2) := by decide +kernel
theorem dL_law_2222 : decode cL_law 2222 = .ok (.aload_n 2, 1) := by decide +kernel
theorem dL_law_2223 : decode cL_law 2223 = .ok (.aload_n 0, 1) := by decide +kernel
theorem dL_law_2224 : decode cL_law 2224 = .ok (.iload 4, 2) := by decide +kernel
theorem dL_law_2226 : decode cL_law 2226 = .ok (.iconst 1, 1) := by decide +kernel
theorem dL_law_2227 : decode cL_law 2227 = .ok (.iadd, 1) := by decide +kernel
theorem dL_law_2228 : decode cL_law 2228 = .ok (.iaload, 1) := by decide +kernel
theorem dL_law_2229 : decode cL_law 2229 = .ok (.invokevirtual 256, 3) := by decide +kernel
theorem dX14_nextEnd_0 : decode cX14_nextEnd 0 = .ok (.aload_n 0, 1) := by decide +kernel
theorem dX14_nextEnd_1 : decode cX14_nextEnd 1 = .ok (.iload_n 1, 1) := by decide +kernel
theorem dX14_nextEnd_2 : decode cX14_nextEnd 2 = .ok (.invokevirtual 183, 3) := by decide +kernel
theorem dX14_nextEnd_5 : decode cX14_nextEnd 5 = .ok (.ifCond .eq 11, 3) := by decide +kernel
theorem dX14_nextEnd_16 : decode cX14_nextEnd 16 = .ok (.iconst 0, 1) := by decide +kernel
theorem dX14_nextEnd_17 : decode cX14_nextEnd 17 = .ok (.ireturn, 1) := by decide +kernel
theorem dL_law_2232 : decode cL_law 2232 = .ok (.istore 6, 2) := by decide +kernel
theorem dL_law_2234 : decode cL_law 2234 = .ok (.aload_n 2, 1) := by decide +kernel
theorem dL_law_2235 : decode cL_law 2235 = .ok (.invokevirtual 152, 3) := by decide +kernel
theorem dL_law_2238 : decode cL_law 2238 = .ok (.iload 5, 2) := by decide +kernel
theorem dL_law_2240 : decode cL_law 2240 = .ok (.if_icmp .eq 5, 3) := by decide +kernel
theorem dL_law_2245 : decode cL_law 2245 = .ok (.iload 5, 2) := by decide +kernel
theorem dL_law_2247 : decode cL_law 2247 = .ok (.ifCond .ne 15, 3) := by decide +kernel
theorem dL_law_2262 : decode cL_law 2262 = .ok (.goto 688, 3) := by decide +kernel
theorem dL_law_2265 : decode cL_law 2265 = .ok (.aload_n 1, 1) := by decide +kernel
theorem dL_law_2266 : decode cL_law 2266 = .ok (.aload_n 0, 1) := by decide +kernel
theorem dL_law_2267 : decode cL_law 2267 = .ok (.iload 4, 2) := by decide +kernel
theorem dL_law_2269 : decode cL_law 2269 = .ok (.iconst 1, 1) := by decide +kernel
theorem dL_law_2270 : decode cL_law 2270 = .ok (.iadd, 1) := by decide +kernel
theorem dL_law_2271 : decode cL_law 2271 = .ok (.iaload, 1) := by decide +kernel
theorem dL_law_2272 : decode cL_law 2272 = .ok (.aload_n 3, 1) := by decide +kernel
theorem dL_law_2273 : decode cL_law 2273 = .ok (.invokestatic 257, 3) := by decide +kernel
theorem dL_outputs_0 : decode cL_outputs 0 = .ok (.aload_n 2, 1) := by decide +kernel
theorem dL_outputs_1 : decode cL_outputs 1 = .ok (.iconst 0, 1) := by decide +kernel
theorem dL_outputs_2 : decode cL_outputs 2 = .ok (.aload_n 0, 1) := by decide +kernel
theorem dL_outputs_3 : decode cL_outputs 3 = .ok (.iload_n 1, 1) := by decide +kernel
theorem dL_outputs_4 : decode cL_outputs 4 = .ok (.invokevirtual 115, 3) := by decide +kernel
theorem dX10_outputs_0 : decode cX10_outputs 0 = .ok (.aload_n 0, 1) := by decide +kernel
theorem dX10_outputs_1 : decode cX10_outputs 1 = .ok (.iload_n 1, 1) := by decide +kernel
theorem dX10_outputs_2 : decode cX10_outputs 2 = .ok (.invokevirtual 234, 3) := by decide +kernel
theorem dX10_sinkOf_0 : decode cX10_sinkOf 0 = .ok (.aload_n 0, 1) := by decide +kernel
theorem dX10_sinkOf_1 : decode cX10_sinkOf 1 = .ok (.iload_n 1, 1) := by decide +kernel
theorem dX10_sinkOf_2 : decode cX10_sinkOf 2 = .ok (.invokevirtual 44, 3) := by decide +kernel
theorem dL_outputs_12 : decode cL_outputs 12 = .ok (.astore_n 3, 1) := by decide +kernel
theorem dL_outputs_13 : decode cL_outputs 13 = .ok (.iconst 1, 1) := by decide +kernel
theorem dL_outputs_14 : decode cL_outputs 14 = .ok (.ireturn, 1) := by decide +kernel
theorem dL_law_2276 : decode cL_law 2276 = .ok (.istore 5, 2) := by decide +kernel
theorem dL_law_2278 : decode cL_law 2278 = .ok (.aload_n 2, 1) := by decide +kernel
theorem dL_law_2279 : decode cL_law 2279 = .ok (.aload_n 0, 1) := by decide +kernel
theorem dL_law_2280 : decode cL_law 2280 = .ok (.iload 4, 2) := by decide +kernel
theorem dL_law_2282 : decode cL_law 2282 = .ok (.iconst 1, 1) := by decide +kernel
theorem dL_law_2283 : decode cL_law 2283 = .ok (.iadd, 1) := by decide +kernel
theorem dL_law_2284 : decode cL_law 2284 = .ok (.iaload, 1) := by decide +kernel
theorem dL_law_2285 : decode cL_law 2285 = .ok (.invokevirtual 259, 3) := by decide +kernel
theorem dX14_outputs_0 : decode cX14_outputs 0 = .ok (.aload_n 0, 1) := by decide +kernel
theorem dX14_outputs_1 : decode cX14_outputs 1 = .ok (.iload_n 1, 1) := by decide +kernel
theorem dX14_outputs_2 : decode cX14_outputs 2 = .ok (.invokevirtual 195, 3) := by decide +kernel
theorem dX14_hasSink_0 : decode cX14_hasSink 0 = .ok (.aload_n 0, 1) := by decide +kernel
theorem dX14_hasSink_1 : decode cX14_hasSink 1 = .ok (.iload_n 1, 1) := by decide +kernel
theorem dX14_hasSink_2 : decode cX14_hasSink 2 = .ok (.invokevirtual 126, 3) := by decide +kernel
theorem dX14_hasSink_5 : decode cX14_hasSink 5 = .ok (.ifCond .eq 19, 3) := by decide +kernel
theorem dX14_hasSink_24 : decode cX14_hasSink 24 = .ok (.aload_n 0, 1) := by decide +kernel
theorem dX14_hasSink_25 : decode cX14_hasSink 25 = .ok (.getfield 43, 3) := by decide +kernel
theorem dX14_hasSink_28 : decode cX14_hasSink 28 = .ok (.ifCond .ne 7, 3) := by decide +kernel
theorem dX14_hasSink_35 : decode cX14_hasSink 35 = .ok (.iconst 0, 1) := by decide +kernel
theorem dX14_hasSink_36 : decode cX14_hasSink 36 = .ok (.ireturn, 1) := by decide +kernel
theorem dX14_outputs_5 : decode cX14_outputs 5 = .ok (.ifCond .eq 18, 3) := by decide +kernel
theorem dX14_outputs_23 : decode cX14_outputs 23 = .ok (.iconst 0, 1) := by decide +kernel
theorem dX14_outputs_24 : decode cX14_outputs 24 = .ok (.ireturn, 1) := by decide +kernel
theorem dL_law_2288 : decode cL_law 2288 = .ok (.istore 6, 2) := by decide +kernel
theorem dL_law_2290 : decode cL_law 2290 = .ok (.aload_n 2, 1) := by decide +kernel
theorem dL_law_2291 : decode cL_law 2291 = .ok (.invokevirtual 152, 3) := by decide +kernel
theorem dL_law_2294 : decode cL_law 2294 = .ok (.iload 5, 2) := by decide +kernel
theorem dL_law_2296 : decode cL_law 2296 = .ok (.if_icmp .eq 5, 3) := by decide +kernel
theorem dL_law_2301 : decode cL_law 2301 = .ok (.iload 5, 2) := by decide +kernel
theorem dL_law_2303 : decode cL_law 2303 = .ok (.ifCond .ne 15, 3) := by decide +kernel
theorem dL_law_2318 : decode cL_law 2318 = .ok (.goto 632, 3) := by decide +kernel
theorem dL_law_2321 : decode cL_law 2321 = .ok (.aload_n 1, 1) := by decide +kernel
theorem dL_law_2322 : decode cL_law 2322 = .ok (.aload_n 0, 1) := by decide +kernel
theorem dL_law_2323 : decode cL_law 2323 = .ok (.iload 4, 2) := by decide +kernel
theorem dL_law_2325 : decode cL_law 2325 = .ok (.iconst 1, 1) := by decide +kernel
theorem dL_law_2326 : decode cL_law 2326 = .ok (.iadd, 1) := by decide +kernel
theorem dL_law_2327 : decode cL_law 2327 = .ok (.iaload, 1) := by decide +kernel
theorem dL_law_2328 : decode cL_law 2328 = .ok (.aload_n 3, 1) := by decide +kernel
theorem dL_law_2329 : decode cL_law 2329 = .ok (.invokestatic 260, 3) := by decide +kernel
theorem dL_committed_0 : decode cL_committed 0 = .ok (.aload_n 2, 1) := by decide +kernel
theorem dL_committed_1 : decode cL_committed 1 = .ok (.iconst 0, 1) := by decide +kernel
theorem dL_committed_2 : decode cL_committed 2 = .ok (.aload_n 0, 1) := by decide +kernel
theorem dL_committed_3 : decode cL_committed 3 = .ok (.iload_n 1, 1) := by decide +kernel
theorem dL_committed_4 : decode cL_committed 4 = .ok (.invokevirtual 118, 3) := by decide +kernel
theorem dX10_committed_0 : decode cX10_committed 0 = .ok (.aload_n 0, 1) := by decide +kernel
theorem dX10_committed_1 : decode cX10_committed 1 = .ok (.iload_n 1, 1) := by decide +kernel
theorem dX10_committed_2 : decode cX10_committed 2 = .ok (.invokevirtual 234, 3) := by decide +kernel
theorem dL_committed_12 : decode cL_committed 12 = .ok (.astore_n 3, 1) := by decide +kernel
theorem dL_committed_13 : decode cL_committed 13 = .ok (.iconst 1, 1) := by decide +kernel
theorem dL_committed_14 : decode cL_committed 14 = .ok (.ireturn, 1) := by decide +kernel
theorem dL_law_2332 : decode cL_law 2332 = .ok (.istore 5, 2) := by decide +kernel
theorem dL_law_2334 : decode cL_law 2334 = .ok (.aload_n 2, 1) := by decide +kernel
theorem dL_law_2335 : decode cL_law 2335 = .ok (.aload_n 0, 1) := by decide +kernel
theorem dL_law_2336 : decode cL_law 2336 = .ok (.iload 4, 2) := by decide +kernel
theorem dL_law_2338 : decode cL_law 2338 = .ok (.iconst 1, 1) := by decide +kernel
theorem dL_law_2339 : decode cL_law 2339 = .ok (.iadd, 1) := by decide +kernel
theorem dL_law_2340 : decode cL_law 2340 = .ok (.iaload, 1) := by decide +kernel
theorem dL_law_2341 : decode cL_law 2341 = .ok (.invokevirtual 262, 3) := by decide +kernel
theorem dX14_committed_0 : decode cX14_committed 0 = .ok (.aload_n 0, 1) := by decide +kernel
theorem dX14_committed_1 : decode cX14_committed 1 = .ok (.iload_n 1, 1) := by decide +kernel
theorem dX14_committed_2 : decode cX14_committed 2 = .ok (.invokevirtual 195, 3) := by decide +kernel
theorem dX14_committed_5 : decode cX14_committed 5 = .ok (.ifCond .eq 15, 3) := by decide +kernel
theorem dX14_committed_20 : decode cX14_committed 20 = .ok (.iconst 0, 1) := by decide +kernel
theorem dX14_committed_21 : decode cX14_committed 21 = .ok (.ireturn, 1) := by decide +kernel
theorem dL_law_2344 : decode cL_law 2344 = .ok (.istore 6, 2) := by decide +kernel
theorem dL_law_2346 : decode cL_law 2346 = .ok (.aload_n 2, 1) := by decide +kernel
theorem dL_law_2347 : decode cL_law 2347 = .ok (.invokevirtual 152, 3) := by decide +kernel
theorem dL_law_2350 : decode cL_law 2350 = .ok (.iload 5, 2) := by decide +kernel
theorem dL_law_2352 : decode cL_law 2352 = .ok (.if_icmp .eq 5, 3) := by decide +kernel
theorem dL_law_2357 : decode cL_law 2357 = .ok (.iload 5, 2) := by decide +kernel
theorem dL_law_2359 : decode cL_law 2359 = .ok (.ifCond .ne 15, 3) := by decide +kernel
theorem dL_law_2374 : decode cL_law 2374 = .ok (.goto 576, 3) := by decide +kernel
theorem dL_law_2377 : decode cL_law 2377 = .ok (.aload_n 1, 1) := by decide +kernel
theorem dL_law_2378 : decode cL_law 2378 = .ok (.aload_n 0, 1) := by decide +kernel
theorem dL_law_2379 : decode cL_law 2379 = .ok (.iload 4, 2) := by decide +kernel
theorem dL_law_2381 : decode cL_law 2381 = .ok (.iconst 1, 1) := by decide +kernel
theorem dL_law_2382 : decode cL_law 2382 = .ok (.iadd, 1) := by decide +kernel
theorem dL_law_2383 : decode cL_law 2383 = .ok (.iaload, 1) := by decide +kernel
theorem dL_law_2384 : decode cL_law 2384 = .ok (.aload_n 0, 1) := by decide +kernel
theorem dL_law_2385 : decode cL_law 2385 = .ok (.iload 4, 2) := by decide +kernel
theorem dL_law_2387 : decode cL_law 2387 = .ok (.iconst 2, 1) := by decide +kernel
theorem dL_law_2388 : decode cL_law 2388 = .ok (.iadd, 1) := by decide +kernel
theorem dL_law_2389 : decode cL_law 2389 = .ok (.iaload, 1) := by decide +kernel
theorem dL_law_2390 : decode cL_law 2390 = .ok (.aload_n 3, 1) := by decide +kernel
theorem dL_law_2391 : decode cL_law 2391 = .ok (.invokestatic 263, 3) := by decide +kernel
theorem dL_keyAt_0 : decode cL_keyAt 0 = .ok (.aload_n 3, 1) := by decide +kernel
theorem dL_keyAt_1 : decode cL_keyAt 1 = .ok (.iconst 0, 1) := by decide +kernel
theorem dL_keyAt_2 : decode cL_keyAt 2 = .ok (.aload_n 0, 1) := by decide +kernel
theorem dL_keyAt_3 : decode cL_keyAt 3 = .ok (.iload_n 1, 1) := by decide +kernel
theorem dL_keyAt_4 : decode cL_keyAt 4 = .ok (.iload_n 2, 1) := by decide +kernel
theorem dL_keyAt_5 : decode cL_keyAt 5 = .ok (.invokevirtual 121, 3) := by decide +kernel
theorem dX10_keyAt_0 : decode cX10_keyAt 0 = .ok (.aload_n 0, 1) := by decide +kernel
theorem dX10_keyAt_1 : decode cX10_keyAt 1 = .ok (.iload_n 1, 1) := by decide +kernel
theorem dX10_keyAt_2 : decode cX10_keyAt 2 = .ok (.iload_n 2, 1) := by decide +kernel
theorem dX10_keyAt_3 : decode cX10_keyAt 3 = .ok (.invokevirtual 243, 3) := by decide +kernel
theorem dX10_outputAt_0 : decode cX10_outputAt 0 = .ok (.aload_n 0, 1) := by decide +kernel
theorem dX10_outputAt_1 : decode cX10_outputAt 1 = .ok (.iload_n 1, 1) := by decide +kernel
theorem dX10_outputAt_2 : decode cX10_outputAt 2 = .ok (.invokevirtual 234, 3) := by decide +kernel
theorem dL_keyAt_13 : decode cL_keyAt 13 = .ok (.astore 4, 2) := by decide +kernel
theorem dL_keyAt_15 : decode cL_keyAt 15 = .ok (.iconst 1, 1) := by decide +kernel
theorem dL_keyAt_16 : decode cL_keyAt 16 = .ok (.ireturn, 1) := by decide +kernel
theorem dL_law_2394 : decode cL_law 2394 = .ok (.istore 5, 2) := by decide +kernel
theorem dL_law_2396 : decode cL_law 2396 = .ok (.aload_n 2, 1) := by decide +kernel
theorem dL_law_2397 : decode cL_law 2397 = .ok (.aload_n 0, 1) := by decide +kernel
theorem dL_law_2398 : decode cL_law 2398 = .ok (.iload 4, 2) := by decide +kernel
theorem dL_law_2400 : decode cL_law 2400 = .ok (.iconst 1, 1) := by decide +kernel
theorem dL_law_2401 : decode cL_law 2401 = .ok (.iadd, 1) := by decide +kernel
theorem dL_law_2402 : decode cL_law 2402 = .ok (.iaload, 1) := by decide +kernel
theorem dL_law_2403 : decode cL_law 2403 = .ok (.aload_n 0, 1) := by decide +kernel
theorem dL_law_2404 : decode cL_law 2404 = .ok (.iload 4, 2) := by decide +kernel
theorem dL_law_2406 : decode cL_law 2406 = .ok (.iconst 2, 1) := by decide +kernel
theorem dL_law_2407 : decode cL_law 2407 = .ok (.iadd, 1) := by decide +kernel
theorem dL_law_2408 : decode cL_law 2408 = .ok (.iaload, 1) := by decide +kernel
theorem dL_law_2409 : decode cL_law 2409 = .ok (.invokevirtual 265, 3) := by decide +kernel
theorem dX14_keyAt_0 : decode cX14_keyAt 0 = .ok (.aload_n 0, 1) := by decide +kernel
theorem dX14_keyAt_1 : decode cX14_keyAt 1 = .ok (.iload_n 1, 1) := by decide +kernel
theorem dX14_keyAt_2 : decode cX14_keyAt 2 = .ok (.iload_n 2, 1) := by decide +kernel
theorem dX14_keyAt_3 : decode cX14_keyAt 3 = .ok (.iconst 0, 1) := by decide +kernel
theorem dX14_keyAt_4 : decode cX14_keyAt 4 = .ok (.invokevirtual 204, 3) := by decide +kernel
theorem dX14_ofOutput_0 : decode cX14_ofOutput 0 = .ok (.aload_n 0, 1) := by decide +kernel
theorem dX14_ofOutput_1 : decode cX14_ofOutput 1 = .ok (.iload_n 1, 1) := by decide +kernel
theorem dX14_ofOutput_2 : decode cX14_ofOutput 2 = .ok (.invokevirtual 195, 3) := by decide +kernel
theorem dX14_ofOutput_5 : decode cX14_ofOutput 5 = .ok (.ifCond .eq 30, 3) := by decide +kernel
theorem dX14_ofOutput_35 : decode cX14_ofOutput 35 = .ok (.aload_n 0, 1) := by decide +kernel
theorem dX14_ofOutput_36 : decode cX14_ofOutput 36 = .ok (.getfield 43, 3) := by decide +kernel
theorem dX14_ofOutput_39 : decode cX14_ofOutput 39 = .ok (.ifCond .ne 20, 3) := by decide +kernel
theorem dX14_ofOutput_59 : decode cX14_ofOutput 59 = .ok (.iconst 0, 1) := by decide +kernel
theorem dX14_ofOutput_60 : decode cX14_ofOutput 60 = .ok (.ireturn, 1) := by decide +kernel
theorem dX14_keyAt_7 : decode cX14_keyAt 7 = .ok (.ireturn, 1) := by decide +kernel
theorem dL_law_2412 : decode cL_law 2412 = .ok (.istore 6, 2) := by decide +kernel
theorem dL_law_2414 : decode cL_law 2414 = .ok (.aload_n 2, 1) := by decide +kernel
theorem dL_law_2415 : decode cL_law 2415 = .ok (.invokevirtual 152, 3) := by decide +kernel
theorem dL_law_2418 : decode cL_law 2418 = .ok (.iload 5, 2) := by decide +kernel
theorem dL_law_2420 : decode cL_law 2420 = .ok (.if_icmp .eq 5, 3) := by decide +kernel
theorem dL_law_2425 : decode cL_law 2425 = .ok (.iload 5, 2) := by decide +kernel
theorem dL_law_2427 : decode cL_law 2427 = .ok (.ifCond .ne 15, 3) := by decide +kernel
theorem dL_law_2442 : decode cL_law 2442 = .ok (.goto 508, 3) := by decide +kernel
theorem dL_law_2445 : decode cL_law 2445 = .ok (.aload_n 1, 1) := by decide +kernel
theorem dL_law_2446 : decode cL_law 2446 = .ok (.aload_n 0, 1) := by decide +kernel
theorem dL_law_2447 : decode cL_law 2447 = .ok (.iload 4, 2) := by decide +kernel
theorem dL_law_2449 : decode cL_law 2449 = .ok (.iconst 1, 1) := by decide +kernel
theorem dL_law_2450 : decode cL_law 2450 = .ok (.iadd, 1) := by decide +kernel
theorem dL_law_2451 : decode cL_law 2451 = .ok (.iaload, 1) := by decide +kernel
theorem dL_law_2452 : decode cL_law 2452 = .ok (.aload_n 0, 1) := by decide +kernel
theorem dL_law_2453 : decode cL_law 2453 = .ok (.iload 4, 2) := by decide +kernel
theorem dL_law_2455 : decode cL_law 2455 = .ok (.iconst 2, 1) := by decide +kernel
theorem dL_law_2456 : decode cL_law 2456 = .ok (.iadd, 1) := by decide +kernel
theorem dL_law_2457 : decode cL_law 2457 = .ok (.iaload, 1) := by decide +kernel
theorem dL_law_2458 : decode cL_law 2458 = .ok (.aload_n 3, 1) := by decide +kernel
theorem dL_law_2459 : decode cL_law 2459 = .ok (.invokestatic 266, 3) := by decide +kernel
theorem dL_valueAt_0 : decode cL_valueAt 0 = .ok (.aload_n 3, 1) := by decide +kernel
theorem dL_valueAt_1 : decode cL_valueAt 1 = .ok (.iconst 0, 1) := by decide +kernel
theorem dL_valueAt_2 : decode cL_valueAt 2 = .ok (.aload_n 0, 1) := by decide +kernel
theorem dL_valueAt_3 : decode cL_valueAt 3 = .ok (.iload_n 1, 1) := by decide +kernel
theorem dL_valueAt_4 : decode cL_valueAt 4 = .ok (.iload_n 2, 1) := by decide +kernel
theorem dL_valueAt_5 : decode cL_valueAt 5 = .ok (.invokevirtual 124, 3) := by decide +kernel
theorem dX10_valueAt_0 : decode cX10_valueAt 0 = .ok (.aload_n 0, 1) := by decide +kernel
theorem dX10_valueAt_1 : decode cX10_valueAt 1 = .ok (.iload_n 1, 1) := by decide +kernel
theorem dX10_valueAt_2 : decode cX10_valueAt 2 = .ok (.iload_n 2, 1) := by decide +kernel
theorem dX10_valueAt_3 : decode cX10_valueAt 3 = .ok (.invokevirtual 243, 3) := by decide +kernel
theorem dL_valueAt_13 : decode cL_valueAt 13 = .ok (.astore 4, 2) := by decide +kernel
theorem dL_valueAt_15 : decode cL_valueAt 15 = .ok (.iconst 1, 1) := by decide +kernel
theorem dL_valueAt_16 : decode cL_valueAt 16 = .ok (.ireturn, 1) := by decide +kernel
theorem dL_law_2462 : decode cL_law 2462 = .ok (.istore 5, 2) := by decide +kernel
theorem dL_law_2464 : decode cL_law 2464 = .ok (.aload_n 2, 1) := by decide +kernel
theorem dL_law_2465 : decode cL_law 2465 = .ok (.aload_n 0, 1) := by decide +kernel
theorem dL_law_2466 : decode cL_law 2466 = .ok (.iload 4, 2) := by decide +kernel
theorem dL_law_2468 : decode cL_law 2468 = .ok (.iconst 1, 1) := by decide +kernel
theorem dL_law_2469 : decode cL_law 2469 = .ok (.iadd, 1) := by decide +kernel
theorem dL_law_2470 : decode cL_law 2470 = .ok (.iaload, 1) := by decide +kernel
theorem dL_law_2471 : decode cL_law 2471 = .ok (.aload_n 0, 1) := by decide +kernel
theorem dL_law_2472 : decode cL_law 2472 = .ok (.iload 4, 2) := by decide +kernel
theorem dL_law_2474 : decode cL_law 2474 = .ok (.iconst 2, 1) := by decide +kernel
theorem dL_law_2475 : decode cL_law 2475 = .ok (.iadd, 1) := by decide +kernel
theorem dL_law_2476 : decode cL_law 2476 = .ok (.iaload, 1) := by decide +kernel
theorem dL_law_2477 : decode cL_law 2477 = .ok (.invokevirtual 268, 3) := by decide +kernel
theorem dX14_valueAt_0 : decode cX14_valueAt 0 = .ok (.aload_n 0, 1) := by decide +kernel
theorem dX14_valueAt_1 : decode cX14_valueAt 1 = .ok (.iload_n 1, 1) := by decide +kernel
theorem dX14_valueAt_2 : decode cX14_valueAt 2 = .ok (.iload_n 2, 1) := by decide +kernel
theorem dX14_valueAt_3 : decode cX14_valueAt 3 = .ok (.iconst 1, 1) := by decide +kernel
theorem dX14_valueAt_4 : decode cX14_valueAt 4 = .ok (.invokevirtual 204, 3) := by decide +kernel
theorem dX14_valueAt_7 : decode cX14_valueAt 7 = .ok (.ireturn, 1) := by decide +kernel
theorem dL_law_2480 : decode cL_law 2480 = .ok (.istore 6, 2) := by decide +kernel
theorem dL_law_2482 : decode cL_law 2482 = .ok (.aload_n 2, 1) := by decide +kernel
theorem dL_law_2483 : decode cL_law 2483 = .ok (.invokevirtual 152, 3) := by decide +kernel
theorem dL_law_2486 : decode cL_law 2486 = .ok (.iload 5, 2) := by decide +kernel
theorem dL_law_2488 : decode cL_law 2488 = .ok (.if_icmp .eq 5, 3) := by decide +kernel
theorem dL_law_2493 : decode cL_law 2493 = .ok (.iload 5, 2) := by decide +kernel
theorem dL_law_2495 : decode cL_law 2495 = .ok (.ifCond .ne 15, 3) := by decide +kernel
theorem dL_law_2510 : decode cL_law 2510 = .ok (.goto 440, 3) := by decide +kernel
theorem dL_law_2513 : decode cL_law 2513 = .ok (.aload_n 1, 1) := by decide +kernel
theorem dL_law_2514 : decode cL_law 2514 = .ok (.aload_n 0, 1) := by decide +kernel
theorem dL_law_2515 : decode cL_law 2515 = .ok (.iload 4, 2) := by decide +kernel
theorem dL_law_2517 : decode cL_law 2517 = .ok (.iconst 1, 1) := by decide +kernel
theorem dL_law_2518 : decode cL_law 2518 = .ok (.iadd, 1) := by decide +kernel
theorem dL_law_2519 : decode cL_law 2519 = .ok (.iaload, 1) := by decide +kernel
theorem dL_law_2520 : decode cL_law 2520 = .ok (.aload_n 0, 1) := by decide +kernel
theorem dL_law_2521 : decode cL_law 2521 = .ok (.iload 4, 2) := by decide +kernel
theorem dL_law_2523 : decode cL_law 2523 = .ok (.iconst 2, 1) := by decide +kernel
theorem dL_law_2524 : decode cL_law 2524 = .ok (.iadd, 1) := by decide +kernel
theorem dL_law_2525 : decode cL_law 2525 = .ok (.iaload, 1) := by decide +kernel
theorem dL_law_2526 : decode cL_law 2526 = .ok (.aload_n 3, 1) := by decide +kernel
theorem dL_law_2527 : decode cL_law 2527 = .ok (.invokestatic 269, 3) := by decide +kernel
theorem dL_timeAt_0 : decode cL_timeAt 0 = .ok (.aload_n 3, 1) := by decide +kernel
theorem dL_timeAt_1 : decode cL_timeAt 1 = .ok (.iconst 0, 1) := by decide +kernel
theorem dL_timeAt_2 : decode cL_timeAt 2 = .ok (.aload_n 0, 1) := by decide +kernel
theorem dL_timeAt_3 : decode cL_timeAt 3 = .ok (.iload_n 1, 1) := by decide +kernel
theorem dL_timeAt_4 : decode cL_timeAt 4 = .ok (.iload_n 2, 1) := by decide +kernel
theorem dL_timeAt_5 : decode cL_timeAt 5 = .ok (.invokevirtual 127, 3) := by decide +kernel
theorem dX10_timeAt_0 : decode cX10_timeAt 0 = .ok (.aload_n 0, 1) := by decide +kernel
theorem dX10_timeAt_1 : decode cX10_timeAt 1 = .ok (.iload_n 1, 1) := by decide +kernel
theorem dX10_timeAt_2 : decode cX10_timeAt 2 = .ok (.iload_n 2, 1) := by decide +kernel
theorem dX10_timeAt_3 : decode cX10_timeAt 3 = .ok (.invokevirtual 243, 3) := by decide +kernel
theorem dL_timeAt_13 : decode cL_timeAt 13 = .ok (.astore 4, 2) := by decide +kernel
theorem dL_timeAt_15 : decode cL_timeAt 15 = .ok (.iconst 1, 1) := by decide +kernel
theorem dL_timeAt_16 : decode cL_timeAt 16 = .ok (.ireturn, 1) := by decide +kernel
theorem dL_law_2530 : decode cL_law 2530 = .ok (.istore 5, 2) := by decide +kernel
theorem dL_law_2532 : decode cL_law 2532 = .ok (.aload_n 2, 1) := by decide +kernel
theorem dL_law_2533 : decode cL_law 2533 = .ok (.aload_n 0, 1) := by decide +kernel
theorem dL_law_2534 : decode cL_law 2534 = .ok (.iload 4, 2) := by decide +kernel
theorem dL_law_2536 : decode cL_law 2536 = .ok (.iconst 1, 1) := by decide +kernel
theorem dL_law_2537 : decode cL_law 2537 = .ok (.iadd, 1) := by decide +kernel
theorem dL_law_2538 : decode cL_law 2538 = .ok (.iaload, 1) := by decide +kernel
theorem dL_law_2539 : decode cL_law 2539 = .ok (.aload_n 0, 1) := by decide +kernel
theorem dL_law_2540 : decode cL_law 2540 = .ok (.iload 4, 2) := by decide +kernel
theorem dL_law_2542 : decode cL_law 2542 = .ok (.iconst 2, 1) := by decide +kernel
theorem dL_law_2543 : decode cL_law 2543 = .ok (.iadd, 1) := by decide +kernel
theorem dL_law_2544 : decode cL_law 2544 = .ok (.iaload, 1) := by decide +kernel
theorem dL_law_2545 : decode cL_law 2545 = .ok (.invokevirtual 271, 3) := by decide +kernel
theorem dX14_timeAt_0 : decode cX14_timeAt 0 = .ok (.aload_n 0, 1) := by decide +kernel
theorem dX14_timeAt_1 : decode cX14_timeAt 1 = .ok (.iload_n 1, 1) := by decide +kernel
theorem dX14_timeAt_2 : decode cX14_timeAt 2 = .ok (.iload_n 2, 1) := by decide +kernel
theorem dX14_timeAt_3 : decode cX14_timeAt 3 = .ok (.iconst 2, 1) := by decide +kernel
theorem dX14_timeAt_4 : decode cX14_timeAt 4 = .ok (.invokevirtual 204, 3) := by decide +kernel
theorem dX14_timeAt_7 : decode cX14_timeAt 7 = .ok (.ireturn, 1) := by decide +kernel
theorem dL_law_2548 : decode cL_law 2548 = .ok (.istore 6, 2) := by decide +kernel
theorem dL_law_2550 : decode cL_law 2550 = .ok (.aload_n 2, 1) := by decide +kernel
theorem dL_law_2551 : decode cL_law 2551 = .ok (.invokevirtual 152, 3) := by decide +kernel
theorem dL_law_2554 : decode cL_law 2554 = .ok (.iload 5, 2) := by decide +kernel
theorem dL_law_2556 : decode cL_law 2556 = .ok (.if_icmp .eq 5, 3) := by decide +kernel
theorem dL_law_2561 : decode cL_law 2561 = .ok (.iload 5, 2) := by decide +kernel
theorem dL_law_2563 : decode cL_law 2563 = .ok (.ifCond .ne 15, 3) := by decide +kernel
theorem dL_law_2578 : decode cL_law 2578 = .ok (.goto 372, 3) := by decide +kernel
theorem dL_law_2581 : decode cL_law 2581 = .ok (.aload_n 1, 1) := by decide +kernel
theorem dL_law_2582 : decode cL_law 2582 = .ok (.invokevirtual 272, 3) := by decide +kernel
theorem dX10_complete_0 : decode cX10_complete 0 = .ok (.aload_n 0, 1) := by decide +kernel
theorem dX10_complete_1 : decode cX10_complete 1 = .ok (.getfield 12, 3) := by decide +kernel
theorem dX10_complete_4 : decode cX10_complete 4 = .ok (.getfield 257, 3) := by decide +kernel
theorem dX10_complete_7 : decode cX10_complete 7 = .ok (.ireturn, 1) := by decide +kernel
theorem dL_law_2585 : decode cL_law 2585 = .ok (.aload_n 2, 1) := by decide +kernel
theorem dL_law_2586 : decode cL_law 2586 = .ok (.invokevirtual 275, 3) := by decide +kernel
theorem dX14_complete_0 : decode cX14_complete 0 = .ok (.aload_n 0, 1) := by decide +kernel
theorem dX14_complete_1 : decode cX14_complete 1 = .ok (.iconst 0, 1) := by decide +kernel
theorem dX14_complete_2 : decode cX14_complete 2 = .ok (.putfield 43, 3) := by decide +kernel
theorem dX14_complete_5 : decode cX14_complete 5 = .ok (.aload_n 0, 1) := by decide +kernel
theorem dX14_complete_6 : decode cX14_complete 6 = .ok (.getfield 36, 3) := by decide +kernel
theorem dX14_complete_9 : decode cX14_complete 9 = .ok (.getfield 208, 3) := by decide +kernel
theorem dX14_complete_12 : decode cX14_complete 12 = .ok (.ireturn, 1) := by decide +kernel
theorem dL_law_2589 : decode cL_law 2589 = .ok (.if_icmp .eq 361, 3) := by decide +kernel
theorem dL_law_2594 : decode cL_law 2594 = .ok (.aload_n 1, 1) := by decide +kernel
theorem dL_law_2595 : decode cL_law 2595 = .ok (.invokevirtual 276, 3) := by decide +kernel
theorem dX10_begun_0 : decode cX10_begun 0 = .ok (.aload_n 0, 1) := by decide +kernel
theorem dX10_begun_1 : decode cX10_begun 1 = .ok (.getfield 12, 3) := by decide +kernel
theorem dX10_begun_4 : decode cX10_begun 4 = .ok (.getfield 145, 3) := by decide +kernel
theorem dX10_begun_7 : decode cX10_begun 7 = .ok (.ireturn, 1) := by decide +kernel
theorem dL_law_2598 : decode cL_law 2598 = .ok (.aload_n 2, 1) := by decide +kernel
theorem dL_law_2599 : decode cL_law 2599 = .ok (.invokevirtual 279, 3) := by decide +kernel
theorem dX14_begun_0 : decode cX14_begun 0 = .ok (.aload_n 0, 1) := by decide +kernel
theorem dX14_begun_1 : decode cX14_begun 1 = .ok (.iconst 0, 1) := by decide +kernel
theorem dX14_begun_2 : decode cX14_begun 2 = .ok (.putfield 43, 3) := by decide +kernel
theorem dX14_begun_5 : decode cX14_begun 5 = .ok (.aload_n 0, 1) := by decide +kernel
theorem dX14_begun_6 : decode cX14_begun 6 = .ok (.getfield 36, 3) := by decide +kernel
theorem dX14_begun_9 : decode cX14_begun 9 = .ok (.getfield 116, 3) := by decide +kernel
theorem dX14_begun_12 : decode cX14_begun 12 = .ok (.ireturn, 1) := by decide +kernel
theorem dL_law_2602 : decode cL_law 2602 = .ok (.if_icmp .eq 348, 3) := by decide +kernel
theorem dL_law_2607 : decode cL_law 2607 = .ok (.aload_n 1, 1) := by decide +kernel
theorem dL_law_2608 : decode cL_law 2608 = .ok (.invokevirtual 280, 3) := by decide +kernel
theorem dX10_crashes_0 : decode cX10_crashes 0 = .ok (.aload_n 0, 1) := by decide +kernel
theorem dX10_crashes_1 : decode cX10_crashes 1 = .ok (.getfield 151, 3) := by decide +kernel
theorem dX10_crashes_4 : decode cX10_crashes 4 = .ok (.ireturn, 1) := by decide +kernel
theorem dL_law_2611 : decode cL_law 2611 = .ok (.aload_n 2, 1) := by decide +kernel
theorem dL_law_2612 : decode cL_law 2612 = .ok (.invokevirtual 283, 3) := by decide +kernel
theorem dX14_crashes_0 : decode cX14_crashes 0 = .ok (.aload_n 0, 1) := by decide +kernel
theorem dX14_crashes_1 : decode cX14_crashes 1 = .ok (.iconst 0, 1) := by decide +kernel
theorem dX14_crashes_2 : decode cX14_crashes 2 = .ok (.putfield 43, 3) := by decide +kernel
theorem dX14_crashes_5 : decode cX14_crashes 5 = .ok (.aload_n 0, 1) := by decide +kernel
theorem dX14_crashes_6 : decode cX14_crashes 6 = .ok (.getfield 36, 3) := by decide +kernel
theorem dX14_crashes_9 : decode cX14_crashes 9 = .ok (.getfield 211, 3) := by decide +kernel
theorem dX14_crashes_12 : decode cX14_crashes 12 = .ok (.ireturn, 1) := by decide +kernel
theorem dL_law_2615 : decode cL_law 2615 = .ok (.if_icmp .eq 335, 3) := by decide +kernel
theorem dL_law_2620 : decode cL_law 2620 = .ok (.aload_n 1, 1) := by decide +kernel
theorem dL_law_2621 : decode cL_law 2621 = .ok (.invokevirtual 284, 3) := by decide +kernel
theorem dX10_worked_0 : decode cX10_worked 0 = .ok (.aload_n 0, 1) := by decide +kernel
theorem dX10_worked_1 : decode cX10_worked 1 = .ok (.getfield 139, 3) := by decide +kernel
theorem dX10_worked_4 : decode cX10_worked 4 = .ok (.ireturn, 1) := by decide +kernel
theorem dL_law_2624 : decode cL_law 2624 = .ok (.aload_n 2, 1) := by decide +kernel
theorem dL_law_2625 : decode cL_law 2625 = .ok (.invokevirtual 287, 3) := by decide +kernel
theorem dX14_worked_0 : decode cX14_worked 0 = .ok (.aload_n 0, 1) := by decide +kernel
theorem dX14_worked_1 : decode cX14_worked 1 = .ok (.iconst 0, 1) := by decide +kernel
theorem dX14_worked_2 : decode cX14_worked 2 = .ok (.putfield 43, 3) := by decide +kernel
theorem dX14_worked_5 : decode cX14_worked 5 = .ok (.aload_n 0, 1) := by decide +kernel
theorem dX14_worked_6 : decode cX14_worked 6 = .ok (.getfield 36, 3) := by decide +kernel
theorem dX14_worked_9 : decode cX14_worked 9 = .ok (.getfield 214, 3) := by decide +kernel
theorem dX14_worked_12 : decode cX14_worked 12 = .ok (.ireturn, 1) := by decide +kernel
theorem dL_law_2628 : decode cL_law 2628 = .ok (.if_icmp .eq 322, 3) := by decide +kernel
theorem dL_law_2633 : decode cL_law 2633 = .ok (.aload_n 1, 1) := by decide +kernel
theorem dL_law_2634 : decode cL_law 2634 = .ok (.invokevirtual 288, 3) := by decide +kernel
theorem dX10_inFlight_0 : decode cX10_inFlight 0 = .ok (.aload_n 0, 1) := by decide +kernel
theorem dX10_inFlight_1 : decode cX10_inFlight 1 = .ok (.getfield 12, 3) := by decide +kernel
theorem dX10_inFlight_4 : decode cX10_inFlight 4 = .ok (.invokevirtual 260, 3) := by decide +kernel
theorem dX2_waiting_0 : decode cX2_waiting 0 = .ok (.iconst 0, 1) := by decide +kernel
theorem dX2_waiting_1 : decode cX2_waiting 1 = .ok (.istore_n 1, 1) := by decide +kernel
theorem dX2_waiting_2 : decode cX2_waiting 2 = .ok (.iconst 0, 1) := by decide +kernel
theorem dX2_waiting_3 : decode cX2_waiting 3 = .ok (.istore_n 2, 1) := by decide +kernel
theorem dX2_waiting_4 : decode cX2_waiting 4 = .ok (.iload_n 2, 1) := by decide +kernel
theorem dX2_waiting_5 : decode cX2_waiting 5 = .ok (.aload_n 0, 1) := by decide +kernel
theorem dX2_waiting_6 : decode cX2_waiting 6 = .ok (.getfield 12, 3) := by decide +kernel
theorem dX2_waiting_9 : decode cX2_waiting 9 = .ok (.invokevirtual 29, 3) := by decide +kernel
theorem dX2_waiting_12 : decode cX2_waiting 12 = .ok (.if_icmp .ge 63, 3) := by decide +kernel
theorem dX2_waiting_75 : decode cX2_waiting 75 = .ok (.iload_n 1, 1) := by decide +kernel
theorem dX2_waiting_76 : decode cX2_waiting 76 = .ok (.ireturn, 1) := by decide +kernel
theorem dX10_inFlight_7 : decode cX10_inFlight 7 = .ok (.ireturn, 1) := by decide +kernel
theorem dL_law_2637 : decode cL_law 2637 = .ok (.aload_n 2, 1) := by decide +kernel
theorem dL_law_2638 : decode cL_law 2638 = .ok (.invokevirtual 291, 3) := by decide +kernel
theorem dX14_inFlight_0 : decode cX14_inFlight 0 = .ok (.aload_n 0, 1) := by decide +kernel
theorem dX14_inFlight_1 : decode cX14_inFlight 1 = .ok (.iconst 0, 1) := by decide +kernel
theorem dX14_inFlight_2 : decode cX14_inFlight 2 = .ok (.putfield 43, 3) := by decide +kernel
theorem dX14_inFlight_5 : decode cX14_inFlight 5 = .ok (.aload_n 0, 1) := by decide +kernel
theorem dX14_inFlight_6 : decode cX14_inFlight 6 = .ok (.invokevirtual 217, 3) := by decide +kernel
theorem dX14_flying_0 : decode cX14_flying 0 = .ok (.iconst 0, 1) := by decide +kernel
theorem dX14_flying_1 : decode cX14_flying 1 = .ok (.istore_n 1, 1) := by decide +kernel
theorem dX14_flying_2 : decode cX14_flying 2 = .ok (.iconst 0, 1) := by decide +kernel
theorem dX14_flying_3 : decode cX14_flying 3 = .ok (.istore_n 2, 1) := by decide +kernel
theorem dX14_flying_4 : decode cX14_flying 4 = .ok (.iload_n 2, 1) := by decide +kernel
theorem dX14_flying_5 : decode cX14_flying 5 = .ok (.aload_n 0, 1) := by decide +kernel
theorem dX14_flying_6 : decode cX14_flying 6 = .ok (.getfield 47, 3) := by decide +kernel
theorem dX14_flying_9 : decode cX14_flying 9 = .ok (.if_icmp .ge 41, 3) := by decide +kernel
theorem dX14_flying_50 : decode cX14_flying 50 = .ok (.iload_n 1, 1) := by decide +kernel
theorem dX14_flying_51 : decode cX14_flying 51 = .ok (.ireturn, 1) := by decide +kernel
theorem dX14_inFlight_9 : decode cX14_inFlight 9 = .ok (.ireturn, 1) := by decide +kernel
theorem dL_law_2641 : decode cL_law 2641 = .ok (.if_icmp .eq 309, 3) := by decide +kernel
theorem dL_law_2646 : decode cL_law 2646 = .ok (.aload_n 1, 1) := by decide +kernel
theorem dL_law_2647 : decode cL_law 2647 = .ok (.invokevirtual 292, 3) := by decide +kernel
theorem dX10_next_0 : decode cX10_next 0 = .ok (.aload_n 0, 1) := by decide +kernel
theorem dX10_next_1 : decode cX10_next 1 = .ok (.getfield 12, 3) := by decide +kernel
theorem dX10_next_4 : decode cX10_next 4 = .ok (.invokevirtual 133, 3) := by decide +kernel
theorem dX2_nextToWork_0 : decode cX2_nextToWork 0 = .ok (.aload_n 0, 1) := by decide +kernel
theorem dX2_nextToWork_1 : decode cX2_nextToWork 1 = .ok (.getfield 12, 3) := by decide +kernel
theorem dX2_nextToWork_4 : decode cX2_nextToWork 4 = .ok (.invokevirtual 29, 3) := by decide +kernel
theorem dX2_nextToWork_7 : decode cX2_nextToWork 7 = .ok (.istore_n 1, 1) := by decide +kernel
theorem dX2_nextToWork_8 : decode cX2_nextToWork 8 = .ok (.iconst 1, 1) := by decide +kernel
theorem dX2_nextToWork_9 : decode cX2_nextToWork 9 = .ok (.istore_n 2, 1) := by decide +kernel
theorem dX2_nextToWork_10 : decode cX2_nextToWork 10 = .ok (.iload_n 2, 1) := by decide +kernel
theorem dX2_nextToWork_11 : decode cX2_nextToWork 11 = .ok (.iload_n 1, 1) := by decide +kernel
theorem dX2_nextToWork_12 : decode cX2_nextToWork 12 = .ok (.if_icmp .gt 64, 3) := by decide +kernel
theorem dX2_nextToWork_76 : decode cX2_nextToWork 76 = .ok (.iconst (-1), 1) := by decide +kernel
theorem dX2_nextToWork_77 : decode cX2_nextToWork 77 = .ok (.ireturn, 1) := by decide +kernel
theorem dX10_next_7 : decode cX10_next 7 = .ok (.ireturn, 1) := by decide +kernel
theorem dL_law_2650 : decode cL_law 2650 = .ok (.aload_n 2, 1) := by decide +kernel
theorem dL_law_2651 : decode cL_law 2651 = .ok (.invokevirtual 295, 3) := by decide +kernel
theorem dX14_next_0 : decode cX14_next 0 = .ok (.aload_n 0, 1) := by decide +kernel
theorem dX14_next_1 : decode cX14_next 1 = .ok (.iconst 0, 1) := by decide +kernel
theorem dX14_next_2 : decode cX14_next 2 = .ok (.putfield 43, 3) := by decide +kernel
theorem dX14_next_5 : decode cX14_next 5 = .ok (.aload_n 0, 1) := by decide +kernel
theorem dX14_next_6 : decode cX14_next 6 = .ok (.getfield 36, 3) := by decide +kernel
theorem dX14_next_9 : decode cX14_next 9 = .ok (.invokevirtual 220, 3) := by decide +kernel
theorem dX13_next_0 : decode cX13_next 0 = .ok (.iconst 1, 1) := by decide +kernel
theorem dX13_next_1 : decode cX13_next 1 = .ok (.istore_n 1, 1) := by decide +kernel
theorem dX13_next_2 : decode cX13_next 2 = .ok (.iload_n 1, 1) := by decide +kernel
theorem dX13_next_3 : decode cX13_next 3 = .ok (.aload_n 0, 1) := by decide +kernel
theorem dX13_next_4 : decode cX13_next 4 = .ok (.getfield 3, 3) := by decide +kernel
theorem dX13_next_7 : decode cX13_next 7 = .ok (.getfield 80, 3) := by decide +kernel
theorem dX13_next_10 : decode cX13_next 10 = .ok (.if_icmp .gt 34, 3) := by decide +kernel
theorem dX13_next_44 : decode cX13_next 44 = .ok (.iconst (-1), 1) := by decide +kernel
theorem dX13_next_45 : decode cX13_next 45 = .ok (.ireturn, 1) := by decide +kernel
theorem dX14_next_12 : decode cX14_next 12 = .ok (.ireturn, 1) := by decide +kernel
theorem dL_law_2654 : decode cL_law 2654 = .ok (.if_icmp .eq 296, 3) := by decide +kernel
theorem dL_law_2659 : decode cL_law 2659 = .ok (.aload_n 1, 1) := by decide +kernel
theorem dL_law_2660 : decode cL_law 2660 = .ok (.invokevirtual 296, 3) := by decide +kernel
theorem dX10_meanQueue_0 : decode cX10_meanQueue 0 = .ok (.aload_n 0, 1) := by decide +kernel
theorem dX10_meanQueue_1 : decode cX10_meanQueue 1 = .ok (.getfield 12, 3) := by decide +kernel
theorem dX10_meanQueue_4 : decode cX10_meanQueue 4 = .ok (.invokevirtual 263, 3) := by decide +kernel
theorem dX2_channels_0 : decode cX2_channels 0 = .ok (.iconst 0, 1) := by decide +kernel
theorem dX2_channels_1 : decode cX2_channels 1 = .ok (.istore_n 1, 1) := by decide +kernel
theorem dX2_channels_2 : decode cX2_channels 2 = .ok (.iconst 0, 1) := by decide +kernel
theorem dX2_channels_3 : decode cX2_channels 3 = .ok (.istore_n 2, 1) := by decide +kernel
theorem dX2_channels_4 : decode cX2_channels 4 = .ok (.iload_n 2, 1) := by decide +kernel
theorem dX2_channels_5 : decode cX2_channels 5 = .ok (.aload_n 0, 1) := by decide +kernel
theorem dX2_channels_6 : decode cX2_channels 6 = .ok (.getfield 12, 3) := by decide +kernel
theorem dX2_channels_9 : decode cX2_channels 9 = .ok (.invokevirtual 29, 3) := by decide +kernel
theorem dX2_channels_12 : decode cX2_channels 12 = .ok (.if_icmp .ge 32, 3) := by decide +kernel
theorem dX2_channels_44 : decode cX2_channels 44 = .ok (.iload_n 1, 1) := by decide +kernel
theorem dX2_channels_45 : decode cX2_channels 45 = .ok (.ireturn, 1) := by decide +kernel
theorem dX10_meanQueue_7 : decode cX10_meanQueue 7 = .ok (.istore_n 1, 1) := by decide +kernel
theorem dX10_meanQueue_8 : decode cX10_meanQueue 8 = .ok (.iload_n 1, 1) := by decide +kernel
theorem dX10_meanQueue_9 : decode cX10_meanQueue 9 = .ok (.ifCond .ne 7, 3) := by decide +kernel
theorem dX10_meanQueue_12 : decode cX10_meanQueue 12 = .ok (.dconst 0, 1) := by decide +kernel
theorem dX10_meanQueue_13 : decode cX10_meanQueue 13 = .ok (.goto 14, 3) := by decide +kernel
theorem dX10_meanQueue_27 : decode cX10_meanQueue 27 = .ok (.dreturn, 1) := by decide +kernel
theorem dL_law_2663 : decode cL_law 2663 = .ok (.dstore 5, 2) := by decide +kernel
theorem dL_law_2665 : decode cL_law 2665 = .ok (.aload_n 2, 1) := by decide +kernel
theorem dL_law_2666 : decode cL_law 2666 = .ok (.invokevirtual 300, 3) := by decide +kernel
theorem dX14_meanQueue_0 : decode cX14_meanQueue 0 = .ok (.aload_n 0, 1) := by decide +kernel
theorem dX14_meanQueue_1 : decode cX14_meanQueue 1 = .ok (.iconst 0, 1) := by decide +kernel
theorem dX14_meanQueue_2 : decode cX14_meanQueue 2 = .ok (.putfield 43, 3) := by decide +kernel
theorem dX14_meanQueue_5 : decode cX14_meanQueue 5 = .ok (.aload_n 0, 1) := by decide +kernel
theorem dX14_meanQueue_6 : decode cX14_meanQueue 6 = .ok (.invokevirtual 223, 3) := by decide +kernel
theorem dX14_channels_0 : decode cX14_channels 0 = .ok (.iconst 0, 1) := by decide +kernel
theorem dX14_channels_1 : decode cX14_channels 1 = .ok (.istore_n 1, 1) := by decide +kernel
theorem dX14_channels_2 : decode cX14_channels 2 = .ok (.iconst 0, 1) := by decide +kernel
theorem dX14_channels_3 : decode cX14_channels 3 = .ok (.istore_n 2, 1) := by decide +kernel
theorem dX14_channels_4 : decode cX14_channels 4 = .ok (.iload_n 2, 1) := by decide +kernel
theorem dX14_channels_5 : decode cX14_channels 5 = .ok (.aload_n 0, 1) := by decide +kernel
theorem dX14_channels_6 : decode cX14_channels 6 = .ok (.getfield 47, 3) := by decide +kernel
theorem dX14_channels_9 : decode cX14_channels 9 = .ok (.if_icmp .ge 47, 3) := by decide +kernel
theorem dX14_channels_56 : decode cX14_channels 56 = .ok (.iload_n 1, 1) := by decide +kernel
theorem dX14_channels_57 : decode cX14_channels 57 = .ok (.ireturn, 1) := by decide +kernel
theorem dX14_meanQueue_9 : decode cX14_meanQueue 9 = .ok (.ifCond .ne 7, 3) := by decide +kernel
theorem dX14_meanQueue_12 : decode cX14_meanQueue 12 = .ok (.dconst 0, 1) := by decide +kernel
theorem dX14_meanQueue_13 : decode cX14_meanQueue 13 = .ok (.goto 14, 3) := by decide +kernel
theorem dX14_meanQueue_27 : decode cX14_meanQueue 27 = .ok (.dreturn, 1) := by decide +kernel
theorem dL_law_2669 : decode cL_law 2669 = .ok (.dstore 7, 2) := by decide +kernel
theorem dL_law_2671 : decode cL_law 2671 = .ok (.dload 5, 2) := by decide +kernel
theorem dL_law_2673 : decode cL_law 2673 = .ok (.dload 7, 2) := by decide +kernel
theorem dL_law_2675 : decode cL_law 2675 = .ok (.dcmp .l, 1) := by decide +kernel
theorem dL_law_2676 : decode cL_law 2676 = .ok (.ifCond .eq 21, 3) := by decide +kernel
theorem dL_law_2697 : decode cL_law 2697 = .ok (.goto 253, 3) := by decide +kernel
theorem dL_law_2700 : decode cL_law 2700 = .ok (.aload_n 1, 1) := by decide +kernel
theorem dL_law_2701 : decode cL_law 2701 = .ok (.aload_n 0, 1) := by decide +kernel
theorem dL_law_2702 : decode cL_law 2702 = .ok (.iload 4, 2) := by decide +kernel
theorem dL_law_2704 : decode cL_law 2704 = .ok (.iconst 1, 1) := by decide +kernel
theorem dL_law_2705 : decode cL_law 2705 = .ok (.iadd, 1) := by decide +kernel
theorem dL_law_2706 : decode cL_law 2706 = .ok (.iaload, 1) := by decide +kernel
theorem dL_law_2707 : decode cL_law 2707 = .ok (.aload_n 3, 1) := by decide +kernel
theorem dL_law_2708 : decode cL_law 2708 = .ok (.invokestatic 301, 3) := by decide +kernel
theorem dL_itemsToRest_0 : decode cL_itemsToRest 0 = .ok (.aload_n 2, 1) := by decide +kernel
theorem dL_itemsToRest_1 : decode cL_itemsToRest 1 = .ok (.iconst 0, 1) := by decide +kernel
theorem dL_itemsToRest_2 : decode cL_itemsToRest 2 = .ok (.aload_n 0, 1) := by decide +kernel
theorem dL_itemsToRest_3 : decode cL_itemsToRest 3 = .ok (.iload_n 1, 1) := by decide +kernel
theorem dL_itemsToRest_4 : decode cL_itemsToRest 4 = .ok (.invokevirtual 130, 3) := by decide +kernel
theorem dX10_itemsToRest_0 : decode cX10_itemsToRest 0 = .ok (.iload_n 1, 1) := by decide +kernel
theorem dX10_itemsToRest_1 : decode cX10_itemsToRest 1 = .ok (.iconst 1, 1) := by decide +kernel
theorem dX10_itemsToRest_2 : decode cX10_itemsToRest 2 = .ok (.sipush 200, 3) := by decide +kernel
theorem dX10_itemsToRest_5 : decode cX10_itemsToRest 5 = .ok (.invokestatic 21, 3) := by decide +kernel
theorem dX10_itemsToRest_8 : decode cX10_itemsToRest 8 = .ok (.invokestatic 25, 3) := by decide +kernel
theorem dL_itemsToRest_12 : decode cL_itemsToRest 12 = .ok (.astore_n 3, 1) := by decide +kernel
theorem dL_itemsToRest_13 : decode cL_itemsToRest 13 = .ok (.iconst 1, 1) := by decide +kernel
theorem dL_itemsToRest_14 : decode cL_itemsToRest 14 = .ok (.ireturn, 1) := by decide +kernel
theorem dL_law_2711 : decode cL_law 2711 = .ok (.istore 5, 2) := by decide +kernel
theorem dL_law_2713 : decode cL_law 2713 = .ok (.aload_n 2, 1) := by decide +kernel
theorem dL_law_2714 : decode cL_law 2714 = .ok (.aload_n 0, 1) := by decide +kernel
theorem dL_law_2715 : decode cL_law 2715 = .ok (.iload 4, 2) := by decide +kernel
theorem dL_law_2717 : decode cL_law 2717 = .ok (.iconst 1, 1) := by decide +kernel
theorem dL_law_2718 : decode cL_law 2718 = .ok (.iadd, 1) := by decide +kernel
theorem dL_law_2719 : decode cL_law 2719 = .ok (.iaload, 1) := by decide +kernel
theorem dL_law_2720 : decode cL_law 2720 = .ok (.invokevirtual 303, 3) := by decide +kernel
theorem dX14_itemsToRest_0 : decode cX14_itemsToRest 0 = .ok (.aload_n 0, 1) := by decide +kernel
theorem dX14_itemsToRest_1 : decode cX14_itemsToRest 1 = .ok (.iconst 0, 1) := by decide +kernel
theorem dX14_itemsToRest_2 : decode cX14_itemsToRest 2 = .ok (.putfield 43, 3) := by decide +kernel
theorem dX14_itemsToRest_5 : decode cX14_itemsToRest 5 = .ok (.iload_n 1, 1) := by decide +kernel
theorem dX14_itemsToRest_6 : decode cX14_itemsToRest 6 = .ok (.iconst 1, 1) := by decide +kernel
theorem dX14_itemsToRest_7 : decode cX14_itemsToRest 7 = .ok (.sipush 200, 3) := by decide +kernel
theorem dX14_itemsToRest_10 : decode cX14_itemsToRest 10 = .ok (.invokestatic 50, 3) := by decide +kernel
theorem dX14_itemsToRest_13 : decode cX14_itemsToRest 13 = .ok (.ifCond .ne 9, 3) := by decide +kernel
theorem dX14_itemsToRest_16 : decode cX14_itemsToRest 16 = .ok (.aload_n 0, 1) := by decide +kernel
theorem dX14_itemsToRest_17 : decode cX14_itemsToRest 17 = .ok (.iconst 1, 1) := by decide +kernel
theorem dX14_itemsToRest_18 : decode cX14_itemsToRest 18 = .ok (.invokevirtual 62, 3) := by decide +kernel
theorem dX14_itemsToRest_21 : decode cX14_itemsToRest 21 = .ok (.ireturn, 1) := by decide +kernel
theorem dL_law_2723 : decode cL_law 2723 = .ok (.istore 6, 2) := by decide +kernel
theorem dL_law_2725 : decode cL_law 2725 = .ok (.aload_n 2, 1) := by decide +kernel
theorem dL_law_2726 : decode cL_law 2726 = .ok (.invokevirtual 152, 3) := by decide +kernel
theorem dL_law_2729 : decode cL_law 2729 = .ok (.iload 5, 2) := by decide +kernel
theorem dL_law_2731 : decode cL_law 2731 = .ok (.if_icmp .eq 5, 3) := by decide +kernel
theorem dL_law_2736 : decode cL_law 2736 = .ok (.iload 5, 2) := by decide +kernel
theorem dL_law_2738 : decode cL_law 2738 = .ok (.ifCond .ne 15, 3) := by decide +kernel
theorem dL_law_2753 : decode cL_law 2753 = .ok (.goto 197, 3) := by decide +kernel
theorem dX10_itemsToRest_11 : decode cX10_itemsToRest 11 = .ok (.aload_n 0, 1) := by decide +kernel
theorem dX10_itemsToRest_12 : decode cX10_itemsToRest 12 = .ok (.getfield 18, 3) := by decide +kernel
theorem dX10_itemsToRest_15 : decode cX10_itemsToRest 15 = .ok (.aload_n 0, 1) := by decide +kernel
theorem dX10_itemsToRest_16 : decode cX10_itemsToRest 16 = .ok (.getfield 12, 3) := by decide +kernel
theorem dX10_itemsToRest_19 : decode cX10_itemsToRest 19 = .ok (.invokevirtual 266, 3) := by decide +kernel
theorem dX2_become_0 : decode cX2_become 0 = .ok (.aload_n 0, 1) := by decide +kernel
theorem dX2_become_1 : decode cX2_become 1 = .ok (.aload_n 1, 1) := by decide +kernel
theorem dX2_become_2 : decode cX2_become 2 = .ok (.getfield 18, 3) := by decide +kernel
theorem dX2_become_5 : decode cX2_become 5 = .ok (.putfield 18, 3) := by decide +kernel
theorem dX2_become_8 : decode cX2_become 8 = .ok (.aload_n 0, 1) := by decide +kernel
theorem dX2_become_9 : decode cX2_become 9 = .ok (.aload_n 1, 1) := by decide +kernel
theorem dX2_become_10 : decode cX2_become 10 = .ok (.getfield 22, 3) := by decide +kernel
theorem dX2_become_13 : decode cX2_become 13 = .ok (.putfield 22, 3) := by decide +kernel
theorem dX2_become_16 : decode cX2_become 16 = .ok (.iconst 0, 1) := by decide +kernel
theorem dX2_become_17 : decode cX2_become 17 = .ok (.istore_n 2, 1) := by decide +kernel
theorem dX2_become_18 : decode cX2_become 18 = .ok (.iload_n 2, 1) := by decide +kernel
theorem dX2_become_19 : decode cX2_become 19 = .ok (.aload_n 0, 1) := by decide +kernel
theorem dX2_become_20 : decode cX2_become 20 = .ok (.getfield 12, 3) := by decide +kernel
theorem dX2_become_23 : decode cX2_become 23 = .ok (.invokevirtual 29, 3) := by decide +kernel
theorem dX2_become_26 : decode cX2_become 26 = .ok (.if_icmp .ge 45, 3) := by decide +kernel
theorem dX2_become_71 : decode cX2_become 71 = .ok (.return_, 1) := by decide +kernel
theorem dX10_itemsToRest_22 : decode cX10_itemsToRest 22 = .ok (.iconst 0, 1) := by decide +kernel
theorem dX10_itemsToRest_23 : decode cX10_itemsToRest 23 = .ok (.istore_n 2, 1) := by decide +kernel
theorem dX10_itemsToRest_24 : decode cX10_itemsToRest 24 = .ok (.iload_n 2, 1) := by decide +kernel
theorem dX10_itemsToRest_25 : decode cX10_itemsToRest 25 = .ok (.iload_n 1, 1) := by decide +kernel
theorem dX10_itemsToRest_26 : decode cX10_itemsToRest 26 = .ok (.if_icmp .ge 26, 3) := by decide +kernel
theorem dX10_itemsToRest_29 : decode cX10_itemsToRest 29 = .ok (.aload_n 0, 1) := by decide +kernel
theorem dX10_itemsToRest_30 : decode cX10_itemsToRest 30 = .ok (.getfield 18, 3) := by decide +kernel
theorem dX10_itemsToRest_33 : decode cX10_itemsToRest 33 = .ok (.aload_n 0, 1) := by decide +kernel
theorem dX10_itemsToRest_34 : decode cX10_itemsToRest 34 = .ok (.getfield 18, 3) := by decide +kernel
theorem dX10_itemsToRest_37 : decode cX10_itemsToRest 37 = .ok (.invokevirtual 133, 3) := by decide +kernel
theorem dX10_itemsToRest_40 : decode cX10_itemsToRest 40 = .ok (.invokevirtual 136, 3) := by decide +kernel
theorem dX2_step_0 : decode cX2_step 0 = .ok (.aload_n 0, 1) := by decide +kernel
theorem dX2_step_1 : decode cX2_step 1 = .ok (.iload_n 1, 1) := by decide +kernel
theorem dX2_step_2 : decode cX2_step 2 = .ok (.invokevirtual 58, 3) := by decide +kernel
theorem dX2_step_5 : decode cX2_step 5 = .ok (.astore_n 2, 1) := by decide +kernel
theorem dX2_step_6 : decode cX2_step 6 = .ok (.aload_n 2, 1) := by decide +kernel
theorem dX2_step_7 : decode cX2_step 7 = .ok (.ifnonnull 5, 3) := by decide +kernel
theorem dX2_step_10 : decode cX2_step 10 = .ok (.iconst 0, 1) := by decide +kernel
theorem dX2_step_11 : decode cX2_step 11 = .ok (.ireturn, 1) := by decide +kernel
theorem dX10_itemsToRest_43 : decode cX10_itemsToRest 43 = .ok (.ifCond .eq 9, 3) := by decide +kernel
theorem dX10_itemsToRest_52 : decode cX10_itemsToRest 52 = .ok (.aload_n 0, 1) := by decide +kernel
theorem dX10_itemsToRest_53 : decode cX10_itemsToRest 53 = .ok (.getfield 18, 3) := by decide +kernel
theorem dX10_itemsToRest_56 : decode cX10_itemsToRest 56 = .ok (.invokevirtual 133, 3) := by decide +kernel
theorem dX10_itemsToRest_59 : decode cX10_itemsToRest 59 = .ok (.iconst (-1), 1) := by decide +kernel
theorem dX10_itemsToRest_60 : decode cX10_itemsToRest 60 = .ok (.if_icmp .ne 7, 3) := by decide +kernel
theorem dX10_itemsToRest_63 : decode cX10_itemsToRest 63 = .ok (.iload_n 2, 1) := by decide +kernel
theorem dX10_itemsToRest_64 : decode cX10_itemsToRest 64 = .ok (.goto 4, 3) := by decide +kernel
theorem dX10_itemsToRest_68 : decode cX10_itemsToRest 68 = .ok (.ireturn, 1) := by decide +kernel
theorem dL_itemsToRest_7 : decode cL_itemsToRest 7 = .ok (.i2l, 1) := by decide +kernel
theorem dL_itemsToRest_8 : decode cL_itemsToRest 8 = .ok (.lastore, 1) := by decide +kernel
theorem dL_itemsToRest_9 : decode cL_itemsToRest 9 = .ok (.goto 6, 3) := by decide +kernel
theorem dL_itemsToRest_15 : decode cL_itemsToRest 15 = .ok (.iconst 0, 1) := by decide +kernel
theorem dL_itemsToRest_16 : decode cL_itemsToRest 16 = .ok (.ireturn, 1) := by decide +kernel
theorem dX14_itemsToRest_22 : decode cX14_itemsToRest 22 = .ok (.aload_n 0, 1) := by decide +kernel
theorem dX14_itemsToRest_23 : decode cX14_itemsToRest 23 = .ok (.getfield 40, 3) := by decide +kernel
theorem dX14_itemsToRest_26 : decode cX14_itemsToRest 26 = .ok (.aload_n 0, 1) := by decide +kernel
theorem dX14_itemsToRest_27 : decode cX14_itemsToRest 27 = .ok (.getfield 36, 3) := by decide +kernel
theorem dX14_itemsToRest_30 : decode cX14_itemsToRest 30 = .ok (.invokevirtual 226, 3) := by decide +kernel
theorem dX13_become_0 : decode cX13_become 0 = .ok (.aload_n 0, 1) := by decide +kernel
theorem dX13_become_1 : decode cX13_become 1 = .ok (.aload_n 1, 1) := by decide +kernel
theorem dX13_become_2 : decode cX13_become 2 = .ok (.getfield 15, 3) := by decide +kernel
theorem dX13_become_5 : decode cX13_become 5 = .ok (.putfield 15, 3) := by decide +kernel
theorem dX13_become_8 : decode cX13_become 8 = .ok (.aload_n 0, 1) := by decide +kernel
theorem dX13_become_9 : decode cX13_become 9 = .ok (.aload_n 1, 1) := by decide +kernel
theorem dX13_become_10 : decode cX13_become 10 = .ok (.getfield 19, 3) := by decide +kernel
theorem dX13_become_13 : decode cX13_become 13 = .ok (.putfield 19, 3) := by decide +kernel
theorem dX13_become_16 : decode cX13_become 16 = .ok (.aload_n 0, 1) := by decide +kernel
theorem dX13_become_17 : decode cX13_become 17 = .ok (.aload_n 1, 1) := by decide +kernel
theorem dX13_become_18 : decode cX13_become 18 = .ok (.getfield 65, 3) := by decide +kernel
theorem dX13_become_21 : decode cX13_become 21 = .ok (.putfield 65, 3) := by decide +kernel
theorem dX13_become_24 : decode cX13_become 24 = .ok (.aload_n 0, 1) := by decide +kernel
theorem dX13_become_25 : decode cX13_become 25 = .ok (.aload_n 1, 1) := by decide +kernel
theorem dX13_become_26 : decode cX13_become 26 = .ok (.getfield 68, 3) := by decide +kernel
theorem dX13_become_29 : decode cX13_become 29 = .ok (.putfield 68, 3) := by decide +kernel
theorem dX13_become_32 : decode cX13_become 32 = .ok (.aload_n 0, 1) := by decide +kernel
theorem dX13_become_33 : decode cX13_become 33 = .ok (.aload_n 1, 1) := by decide +kernel
theorem dX13_become_34 : decode cX13_become 34 = .ok (.getfield 71, 3) := by decide +kernel
theorem dX13_become_37 : decode cX13_become 37 = .ok (.putfield 71, 3) := by decide +kernel
theorem dX13_become_40 : decode cX13_become 40 = .ok (.aload_n 0, 1) := by decide +kernel
theorem dX13_become_41 : decode cX13_become 41 = .ok (.aload_n 1, 1) := by decide +kernel
theorem dX13_become_42 : decode cX13_become 42 = .ok (.getfield 74, 3) := by decide +kernel
theorem dX13_become_45 : decode cX13_become 45 = .ok (.putfield 74, 3) := by decide +kernel
theorem dX13_become_48 : decode cX13_become 48 = .ok (.aload_n 0, 1) := by decide +kernel
theorem dX13_become_49 : decode cX13_become 49 = .ok (.aload_n 1, 1) := by decide +kernel
theorem dX13_become_50 : decode cX13_become 50 = .ok (.getfield 77, 3) := by decide +kernel
theorem dX13_become_53 : decode cX13_become 53 = .ok (.putfield 77, 3) := by decide +kernel
theorem dX13_become_56 : decode cX13_become 56 = .ok (.iconst 0, 1) := by decide +kernel
theorem dX13_become_57 : decode cX13_become 57 = .ok (.istore_n 2, 1) := by decide +kernel
theorem dX13_become_58 : decode cX13_become 58 = .ok (.iload_n 2, 1) := by decide +kernel
theorem dX13_become_59 : decode cX13_become 59 = .ok (.aload_n 0, 1) := by decide +kernel
theorem dX13_become_60 : decode cX13_become 60 = .ok (.getfield 3, 3) := by decide +kernel
theorem dX13_become_63 : decode cX13_become 63 = .ok (.getfield 80, 3) := by decide +kernel
theorem dX13_become_66 : decode cX13_become 66 = .ok (.if_icmp .ge 153, 3) := by decide +kernel
theorem dX13_become_219 : decode cX13_become 219 = .ok (.return_, 1) := by decide +kernel
theorem dX14_itemsToRest_33 : decode cX14_itemsToRest 33 = .ok (.aload_n 0, 1) := by decide +kernel
theorem dX14_itemsToRest_34 : decode cX14_itemsToRest 34 = .ok (.getfield 58, 3) := by decide +kernel
theorem dX14_itemsToRest_37 : decode cX14_itemsToRest 37 = .ok (.ifCond .eq 14, 3) := by decide +kernel
theorem dX14_itemsToRest_51 : decode cX14_itemsToRest 51 = .ok (.iconst 0, 1) := by decide +kernel
theorem dX14_itemsToRest_52 : decode cX14_itemsToRest 52 = .ok (.istore_n 2, 1) := by decide +kernel
theorem dX14_itemsToRest_53 : decode cX14_itemsToRest 53 = .ok (.aload_n 0, 1) := by decide +kernel
theorem dX14_itemsToRest_54 : decode cX14_itemsToRest 54 = .ok (.getfield 58, 3) := by decide +kernel
theorem dX14_itemsToRest_57 : decode cX14_itemsToRest 57 = .ok (.ifCond .eq 18, 3) := by decide +kernel
theorem dX14_itemsToRest_75 : decode cX14_itemsToRest 75 = .ok (.iload_n 2, 1) := by decide +kernel
theorem dX14_itemsToRest_76 : decode cX14_itemsToRest 76 = .ok (.ireturn, 1) := by decide +kernel
theorem dL_law_2741 : decode cL_law 2741 = .ok (.aload_n 3, 1) := by decide +kernel
theorem dL_law_2742 : decode cL_law 2742 = .ok (.iconst 0, 1) := by decide +kernel
theorem dL_law_2743 : decode cL_law 2743 = .ok (.laload, 1) := by decide +kernel
theorem dL_law_2744 : decode cL_law 2744 = .ok (.iload 6, 2) := by decide +kernel
theorem dL_law_2746 : decode cL_law 2746 = .ok (.i2l, 1) := by decide +kernel
theorem dL_law_2747 : decode cL_law 2747 = .ok (.lcmp, 1) := by decide +kernel
theorem dL_law_2748 : decode cL_law 2748 = .ok (.ifCond .eq 5, 3) := by decide +kernel
theorem dL_law_2756 : decode cL_law 2756 = .ok (.aload_n 1, 1) := by decide +kernel
theorem dL_law_2757 : decode cL_law 2757 = .ok (.aload_n 0, 1) := by decide +kernel
theorem dL_law_2758 : decode cL_law 2758 = .ok (.iload 4, 2) := by decide +kernel
theorem dL_law_2760 : decode cL_law 2760 = .ok (.iconst 1, 1) := by decide +kernel
theorem dL_law_2761 : decode cL_law 2761 = .ok (.iadd, 1) := by decide +kernel
theorem dL_law_2762 : decode cL_law 2762 = .ok (.iaload, 1) := by decide +kernel
theorem dL_law_2763 : decode cL_law 2763 = .ok (.aload_n 0, 1) := by decide +kernel
theorem dL_law_2764 : decode cL_law 2764 = .ok (.iload 4, 2) := by decide +kernel
theorem dL_law_2766 : decode cL_law 2766 = .ok (.iconst 2, 1) := by decide +kernel
theorem dL_law_2767 : decode cL_law 2767 = .ok (.iadd, 1) := by decide +kernel
theorem dL_law_2768 : decode cL_law 2768 = .ok (.iaload, 1) := by decide +kernel
theorem dL_law_2769 : decode cL_law 2769 = .ok (.aload_n 3, 1) := by decide +kernel
theorem dL_law_2770 : decode cL_law 2770 = .ok (.invokestatic 304, 3) := by decide +kernel
theorem dL_outputsIn_0 : decode cL_outputsIn 0 = .ok (.aload_n 3, 1) := by decide +kernel
theorem dL_outputsIn_1 : decode cL_outputsIn 1 = .ok (.iconst 0, 1) := by decide +kernel
theorem dL_outputsIn_2 : decode cL_outputsIn 2 = .ok (.aload_n 0, 1) := by decide +kernel
theorem dL_outputsIn_3 : decode cL_outputsIn 3 = .ok (.iload_n 1, 1) := by decide +kernel
theorem dL_outputsIn_4 : decode cL_outputsIn 4 = .ok (.iload_n 2, 1) := by decide +kernel
theorem dL_outputsIn_5 : decode cL_outputsIn 5 = .ok (.invokevirtual 133, 3) := by decide +kernel
theorem dX10_outputsIn_0 : decode cX10_outputsIn 0 = .ok (.aload_n 0, 1) := by decide +kernel
theorem dX10_outputsIn_1 : decode cX10_outputsIn 1 = .ok (.iload_n 1, 1) := by decide +kernel
theorem dX10_outputsIn_2 : decode cX10_outputsIn 2 = .ok (.invokevirtual 234, 3) := by decide +kernel
theorem dL_outputsIn_13 : decode cL_outputsIn 13 = .ok (.astore 4, 2) := by decide +kernel
theorem dL_outputsIn_15 : decode cL_outputsIn 15 = .ok (.iconst 1, 1) := by decide +kernel
theorem dL_outputsIn_16 : decode cL_outputsIn 16 = .ok (.ireturn, 1) := by decide +kernel
theorem dL_law_2773 : decode cL_law 2773 = .ok (.istore 5, 2) := by decide +kernel
theorem dL_law_2775 : decode cL_law 2775 = .ok (.aload_n 2, 1) := by decide +kernel
theorem dL_law_2776 : decode cL_law 2776 = .ok (.aload_n 0, 1) := by decide +kernel
theorem dL_law_2777 : decode cL_law 2777 = .ok (.iload 4, 2) := by decide +kernel
theorem dL_law_2779 : decode cL_law 2779 = .ok (.iconst 1, 1) := by decide +kernel
theorem dL_law_2780 : decode cL_law 2780 = .ok (.iadd, 1) := by decide +kernel
theorem dL_law_2781 : decode cL_law 2781 = .ok (.iaload, 1) := by decide +kernel
theorem dL_law_2782 : decode cL_law 2782 = .ok (.aload_n 0, 1) := by decide +kernel
theorem dL_law_2783 : decode cL_law 2783 = .ok (.iload 4, 2) := by decide +kernel
theorem dL_law_2785 : decode cL_law 2785 = .ok (.iconst 2, 1) := by decide +kernel
theorem dL_law_2786 : decode cL_law 2786 = .ok (.iadd, 1) := by decide +kernel
theorem dL_law_2787 : decode cL_law 2787 = .ok (.iaload, 1) := by decide +kernel
theorem dL_law_2788 : decode cL_law 2788 = .ok (.invokevirtual 306, 3) := by decide +kernel
theorem dX14_outputsIn_0 : decode cX14_outputsIn 0 = .ok (.aload_n 0, 1) := by decide +kernel
theorem dX14_outputsIn_1 : decode cX14_outputsIn 1 = .ok (.iload_n 1, 1) := by decide +kernel
theorem dX14_outputsIn_2 : decode cX14_outputsIn 2 = .ok (.invokevirtual 195, 3) := by decide +kernel
theorem dX14_outputsIn_5 : decode cX14_outputsIn 5 = .ok (.ifCond .ne 5, 3) := by decide +kernel
theorem dX14_outputsIn_8 : decode cX14_outputsIn 8 = .ok (.iconst 0, 1) := by decide +kernel
theorem dX14_outputsIn_9 : decode cX14_outputsIn 9 = .ok (.ireturn, 1) := by decide +kernel
theorem dL_law_2791 : decode cL_law 2791 = .ok (.istore 6, 2) := by decide +kernel
theorem dL_law_2793 : decode cL_law 2793 = .ok (.aload_n 2, 1) := by decide +kernel
theorem dL_law_2794 : decode cL_law 2794 = .ok (.invokevirtual 152, 3) := by decide +kernel
theorem dL_law_2797 : decode cL_law 2797 = .ok (.iload 5, 2) := by decide +kernel
theorem dL_law_2799 : decode cL_law 2799 = .ok (.if_icmp .eq 5, 3) := by decide +kernel
theorem dL_law_2804 : decode cL_law 2804 = .ok (.iload 5, 2) := by decide +kernel
theorem dL_law_2806 : decode cL_law 2806 = .ok (.ifCond .ne 15, 3) := by decide +kernel
theorem dL_law_2821 : decode cL_law 2821 = .ok (.goto 129, 3) := by decide +kernel
theorem dL_law_2824 : decode cL_law 2824 = .ok (.aload_n 1, 1) := by decide +kernel
theorem dL_law_2825 : decode cL_law 2825 = .ok (.aload_n 0, 1) := by decide +kernel
theorem dL_law_2826 : decode cL_law 2826 = .ok (.iload 4, 2) := by decide +kernel
theorem dL_law_2828 : decode cL_law 2828 = .ok (.iconst 1, 1) := by decide +kernel
theorem dL_law_2829 : decode cL_law 2829 = .ok (.iadd, 1) := by decide +kernel
theorem dL_law_2830 : decode cL_law 2830 = .ok (.iaload, 1) := by decide +kernel
theorem dL_law_2831 : decode cL_law 2831 = .ok (.aload_n 3, 1) := by decide +kernel
theorem dL_law_2832 : decode cL_law 2832 = .ok (.invokestatic 307, 3) := by decide +kernel
theorem dL_wouldLose_0 : decode cL_wouldLose 0 = .ok (.aload_n 2, 1) := by decide +kernel
theorem dL_wouldLose_1 : decode cL_wouldLose 1 = .ok (.iconst 0, 1) := by decide +kernel
theorem dL_wouldLose_2 : decode cL_wouldLose 2 = .ok (.aload_n 0, 1) := by decide +kernel
theorem dL_wouldLose_3 : decode cL_wouldLose 3 = .ok (.iload_n 1, 1) := by decide +kernel
theorem dL_wouldLose_4 : decode cL_wouldLose 4 = .ok (.invokevirtual 136, 3) := by decide +kernel
theorem dX10_wouldLose_0 : decode cX10_wouldLose 0 = .ok (.aload_n 0, 1) := by decide +kernel
theorem dX10_wouldLose_1 : decode cX10_wouldLose 1 = .ok (.iload_n 1, 1) := by decide +kernel
theorem dX10_wouldLose_2 : decode cX10_wouldLose 2 = .ok (.invokevirtual 234, 3) := by decide +kernel
theorem dL_wouldLose_12 : decode cL_wouldLose 12 = .ok (.astore_n 3, 1) := by decide +kernel
theorem dL_wouldLose_13 : decode cL_wouldLose 13 = .ok (.iconst 1, 1) := by decide +kernel
theorem dL_wouldLose_14 : decode cL_wouldLose 14 = .ok (.ireturn, 1) := by decide +kernel
theorem dL_law_2835 : decode cL_law 2835 = .ok (.istore 5, 2) := by decide +kernel
theorem dL_law_2837 : decode cL_law 2837 = .ok (.aload_n 2, 1) := by decide +kernel
theorem dL_law_2838 : decode cL_law 2838 = .ok (.aload_n 0, 1) := by decide +kernel
theorem dL_law_2839 : decode cL_law 2839 = .ok (.iload 4, 2) := by decide +kernel
theorem dL_law_2841 : decode cL_law 2841 = .ok (.iconst 1, 1) := by decide +kernel
theorem dL_law_2842 : decode cL_law 2842 = .ok (.iadd, 1) := by decide +kernel
theorem dL_law_2843 : decode cL_law 2843 = .ok (.iaload, 1) := by decide +kernel
theorem dL_law_2844 : decode cL_law 2844 = .ok (.invokevirtual 309, 3) := by decide +kernel
theorem dX14_wouldLose_0 : decode cX14_wouldLose 0 = .ok (.aload_n 0, 1) := by decide +kernel
theorem dX14_wouldLose_1 : decode cX14_wouldLose 1 = .ok (.iload_n 1, 1) := by decide +kernel
theorem dX14_wouldLose_2 : decode cX14_wouldLose 2 = .ok (.invokevirtual 195, 3) := by decide +kernel
theorem dX14_wouldLose_5 : decode cX14_wouldLose 5 = .ok (.ifCond .eq 28, 3) := by decide +kernel
theorem dX14_wouldLose_33 : decode cX14_wouldLose 33 = .ok (.iconst 0, 1) := by decide +kernel
theorem dX14_wouldLose_34 : decode cX14_wouldLose 34 = .ok (.ireturn, 1) := by decide +kernel
theorem dL_law_2847 : decode cL_law 2847 = .ok (.istore 6, 2) := by decide +kernel
theorem dL_law_2849 : decode cL_law 2849 = .ok (.aload_n 2, 1) := by decide +kernel
theorem dL_law_2850 : decode cL_law 2850 = .ok (.invokevirtual 152, 3) := by decide +kernel
theorem dL_law_2853 : decode cL_law 2853 = .ok (.iload 5, 2) := by decide +kernel
theorem dL_law_2855 : decode cL_law 2855 = .ok (.if_icmp .eq 5, 3) := by decide +kernel
theorem dL_law_2860 : decode cL_law 2860 = .ok (.iload 5, 2) := by decide +kernel
theorem dL_law_2862 : decode cL_law 2862 = .ok (.ifCond .ne 15, 3) := by decide +kernel
theorem dL_law_2877 : decode cL_law 2877 = .ok (.goto 73, 3) := by decide +kernel
theorem dL_law_2880 : decode cL_law 2880 = .ok (.aload_n 1, 1) := by decide +kernel
theorem dL_law_2881 : decode cL_law 2881 = .ok (.aload_n 0, 1) := by decide +kernel
theorem dL_law_2882 : decode cL_law 2882 = .ok (.iload 4, 2) := by decide +kernel
theorem dL_law_2884 : decode cL_law 2884 = .ok (.iconst 1, 1) := by decide +kernel
theorem dL_law_2885 : decode cL_law 2885 = .ok (.iadd, 1) := by decide +kernel
theorem dL_law_2886 : decode cL_law 2886 = .ok (.iaload, 1) := by decide +kernel
theorem dL_law_2887 : decode cL_law 2887 = .ok (.aload_n 3, 1) := by decide +kernel
theorem dL_law_2888 : decode cL_law 2888 = .ok (.invokestatic 310, 3) := by decide +kernel
theorem dL_wouldReplay_0 : decode cL_wouldReplay 0 = .ok (.aload_n 2, 1) := by decide +kernel
theorem dL_wouldReplay_1 : decode cL_wouldReplay 1 = .ok (.iconst 0, 1) := by decide +kernel
theorem dL_wouldReplay_2 : decode cL_wouldReplay 2 = .ok (.aload_n 0, 1) := by decide +kernel
theorem dL_wouldReplay_3 : decode cL_wouldReplay 3 = .ok (.iload_n 1, 1) := by decide +kernel
theorem dL_wouldReplay_4 : decode cL_wouldReplay 4 = .ok (.invokevirtual 139, 3) := by decide +kernel
theorem dX10_wouldReplay_0 : decode cX10_wouldReplay 0 = .ok (.aload_n 0, 1) := by decide +kernel
theorem dX10_wouldReplay_1 : decode cX10_wouldReplay 1 = .ok (.iload_n 1, 1) := by decide +kernel
theorem dX10_wouldReplay_2 : decode cX10_wouldReplay 2 = .ok (.invokevirtual 97, 3) := by decide +kernel
theorem dL_wouldReplay_12 : decode cL_wouldReplay 12 = .ok (.astore_n 3, 1) := by decide +kernel
theorem dL_wouldReplay_13 : decode cL_wouldReplay 13 = .ok (.iconst 1, 1) := by decide +kernel
theorem dL_wouldReplay_14 : decode cL_wouldReplay 14 = .ok (.ireturn, 1) := by decide +kernel
theorem dL_law_2891 : decode cL_law 2891 = .ok (.istore 5, 2) := by decide +kernel
theorem dL_law_2893 : decode cL_law 2893 = .ok (.aload_n 2, 1) := by decide +kernel
theorem dL_law_2894 : decode cL_law 2894 = .ok (.aload_n 0, 1) := by decide +kernel
theorem dL_law_2895 : decode cL_law 2895 = .ok (.iload 4, 2) := by decide +kernel
theorem dL_law_2897 : decode cL_law 2897 = .ok (.iconst 1, 1) := by decide +kernel
theorem dL_law_2898 : decode cL_law 2898 = .ok (.iadd, 1) := by decide +kernel
theorem dL_law_2899 : decode cL_law 2899 = .ok (.iaload, 1) := by decide +kernel
theorem dL_law_2900 : decode cL_law 2900 = .ok (.invokevirtual 312, 3) := by decide +kernel
theorem dX14_wouldReplay_0 : decode cX14_wouldReplay 0 = .ok (.aload_n 0, 1) := by decide +kernel
theorem dX14_wouldReplay_1 : decode cX14_wouldReplay 1 = .ok (.iload_n 1, 1) := by decide +kernel
theorem dX14_wouldReplay_2 : decode cX14_wouldReplay 2 = .ok (.invokevirtual 126, 3) := by decide +kernel
theorem dX14_wouldReplay_5 : decode cX14_wouldReplay 5 = .ok (.ifCond .eq 17, 3) := by decide +kernel
theorem dX14_wouldReplay_22 : decode cX14_wouldReplay 22 = .ok (.aload_n 0, 1) := by decide +kernel
theorem dX14_wouldReplay_23 : decode cX14_wouldReplay 23 = .ok (.getfield 43, 3) := by decide +kernel
theorem dX14_wouldReplay_26 : decode cX14_wouldReplay 26 = .ok (.ifCond .ne 31, 3) := by decide +kernel
theorem dX14_wouldReplay_57 : decode cX14_wouldReplay 57 = .ok (.iconst 0, 1) := by decide +kernel
theorem dX14_wouldReplay_58 : decode cX14_wouldReplay 58 = .ok (.ireturn, 1) := by decide +kernel
theorem dL_law_2903 : decode cL_law 2903 = .ok (.istore 6, 2) := by decide +kernel
theorem dL_law_2905 : decode cL_law 2905 = .ok (.aload_n 2, 1) := by decide +kernel
theorem dL_law_2906 : decode cL_law 2906 = .ok (.invokevirtual 152, 3) := by decide +kernel
theorem dL_law_2909 : decode cL_law 2909 = .ok (.iload 5, 2) := by decide +kernel
theorem dL_law_2911 : decode cL_law 2911 = .ok (.if_icmp .eq 5, 3) := by decide +kernel
theorem dL_law_2916 : decode cL_law 2916 = .ok (.iload 5, 2) := by decide +kernel
theorem dL_law_2918 : decode cL_law 2918 = .ok (.ifCond .ne 15, 3) := by decide +kernel
theorem dL_law_2933 : decode cL_law 2933 = .ok (.goto 17, 3) := by decide +kernel
theorem dL_law_2936 : decode cL_law 2936 = .ok (.aload_n 1, 1) := by decide +kernel
theorem dL_law_2937 : decode cL_law 2937 = .ok (.invokevirtual 313, 3) := by decide +kernel
theorem dX10_digest_0 : decode cX10_digest 0 = .ok (.ldc2_w 273, 3) := by decide +kernel
theorem dX10_digest_3 : decode cX10_digest 3 = .ok (.lstore_n 1, 1) := by decide +kernel
theorem dX10_digest_4 : decode cX10_digest 4 = .ok (.lload_n 1, 1) := by decide +kernel
theorem dX10_digest_5 : decode cX10_digest 5 = .ok (.ldc2_w 275, 3) := by decide +kernel
theorem dX10_digest_8 : decode cX10_digest 8 = .ok (.lmul, 1) := by decide +kernel
theorem dX10_digest_9 : decode cX10_digest 9 = .ok (.aload_n 0, 1) := by decide +kernel
theorem dX10_digest_10 : decode cX10_digest 10 = .ok (.invokevirtual 277, 3) := by decide +kernel
theorem dX10_digest_13 : decode cX10_digest 13 = .ok (.i2l, 1) := by decide +kernel
theorem dX10_digest_14 : decode cX10_digest 14 = .ok (.ladd, 1) := by decide +kernel
theorem dX10_digest_15 : decode cX10_digest 15 = .ok (.lstore_n 1, 1) := by decide +kernel
theorem dX10_digest_16 : decode cX10_digest 16 = .ok (.lload_n 1, 1) := by decide +kernel
theorem dX10_digest_17 : decode cX10_digest 17 = .ok (.ldc2_w 275, 3) := by decide +kernel
theorem dX10_digest_20 : decode cX10_digest 20 = .ok (.lmul, 1) := by decide +kernel
theorem dX10_digest_21 : decode cX10_digest 21 = .ok (.aload_n 0, 1) := by decide +kernel
theorem dX10_digest_22 : decode cX10_digest 22 = .ok (.invokevirtual 280, 3) := by decide +kernel
theorem dX10_digest_25 : decode cX10_digest 25 = .ok (.invokestatic 284, 3) := by decide +kernel
theorem dX10_bit_0 : decode cX10_bit 0 = .ok (.iload_n 0, 1) := by decide +kernel
theorem dX10_bit_1 : decode cX10_bit 1 = .ok (.ifCond .eq 7, 3) := by decide +kernel
theorem dX10_bit_8 : decode cX10_bit 8 = .ok (.iconst 0, 1) := by decide +kernel
theorem dX10_bit_9 : decode cX10_bit 9 = .ok (.ireturn, 1) := by decide +kernel
theorem dX10_digest_28 : decode cX10_digest 28 = .ok (.i2l, 1) := by decide +kernel
theorem dX10_digest_29 : decode cX10_digest 29 = .ok (.ladd, 1) := by decide +kernel
theorem dX10_digest_30 : decode cX10_digest 30 = .ok (.lstore_n 1, 1) := by decide +kernel
theorem dX10_digest_31 : decode cX10_digest 31 = .ok (.lload_n 1, 1) := by decide +kernel
theorem dX10_digest_32 : decode cX10_digest 32 = .ok (.ldc2_w 275, 3) := by decide +kernel
theorem dX10_digest_35 : decode cX10_digest 35 = .ok (.lmul, 1) := by decide +kernel
theorem dX10_digest_36 : decode cX10_digest 36 = .ok (.aload_n 0, 1) := by decide +kernel
theorem dX10_digest_37 : decode cX10_digest 37 = .ok (.invokevirtual 288, 3) := by decide +kernel
theorem dX10_digest_40 : decode cX10_digest 40 = .ok (.i2l, 1) := by decide +kernel
theorem dX10_digest_41 : decode cX10_digest 41 = .ok (.ladd, 1) := by decide +kernel
theorem dX10_digest_42 : decode cX10_digest 42 = .ok (.lstore_n 1, 1) := by decide +kernel
theorem dX10_digest_43 : decode cX10_digest 43 = .ok (.lload_n 1, 1) := by decide +kernel
theorem dX10_digest_44 : decode cX10_digest 44 = .ok (.ldc2_w 275, 3) := by decide +kernel
theorem dX10_digest_47 : decode cX10_digest 47 = .ok (.lmul, 1) := by decide +kernel
theorem dX10_digest_48 : decode cX10_digest 48 = .ok (.aload_n 0, 1) := by decide +kernel
theorem dX10_digest_49 : decode cX10_digest 49 = .ok (.invokevirtual 291, 3) := by decide +kernel
theorem dX10_digest_52 : decode cX10_digest 52 = .ok (.i2l, 1) := by decide +kernel
theorem dX10_digest_53 : decode cX10_digest 53 = .ok (.ladd, 1) := by decide +kernel
theorem dX10_digest_54 : decode cX10_digest 54 = .ok (.lstore_n 1, 1) := by decide +kernel
theorem dX10_digest_55 : decode cX10_digest 55 = .ok (.lload_n 1, 1) := by decide +kernel
theorem dX10_digest_56 : decode cX10_digest 56 = .ok (.ldc2_w 275, 3) := by decide +kernel
theorem dX10_digest_59 : decode cX10_digest 59 = .ok (.lmul, 1) := by decide +kernel
theorem dX10_digest_60 : decode cX10_digest 60 = .ok (.aload_n 0, 1) := by decide +kernel
theorem dX10_digest_61 : decode cX10_digest 61 = .ok (.invokevirtual 294, 3) := by decide +kernel
theorem dX10_digest_64 : decode cX10_digest 64 = .ok (.i2l, 1) := by decide +kernel
theorem dX10_digest_65 : decode cX10_digest 65 = .ok (.ladd, 1) := by decide +kernel
theorem dX10_digest_66 : decode cX10_digest 66 = .ok (.lstore_n 1, 1) := by decide +kernel
theorem dX10_digest_67 : decode cX10_digest 67 = .ok (.lload_n 1, 1) := by decide +kernel
theorem dX10_digest_68 : decode cX10_digest 68 = .ok (.ldc2_w 275, 3) := by decide +kernel
theorem dX10_digest_71 : decode cX10_digest 71 = .ok (.lmul, 1) := by decide +kernel
theorem dX10_digest_72 : decode cX10_digest 72 = .ok (.aload_n 0, 1) := by decide +kernel
theorem dX10_digest_73 : decode cX10_digest 73 = .ok (.invokevirtual 297, 3) := by decide +kernel
theorem dX10_digest_76 : decode cX10_digest 76 = .ok (.i2l, 1) := by decide +kernel
theorem dX10_digest_77 : decode cX10_digest 77 = .ok (.ladd, 1) := by decide +kernel
theorem dX10_digest_78 : decode cX10_digest 78 = .ok (.lstore_n 1, 1) := by decide +kernel
theorem dX10_digest_79 : decode cX10_digest 79 = .ok (.lload_n 1, 1) := by decide +kernel
theorem dX10_digest_80 : decode cX10_digest 80 = .ok (.ldc2_w 275, 3) := by decide +kernel
theorem dX10_digest_83 : decode cX10_digest 83 = .ok (.lmul, 1) := by decide +kernel
theorem dX10_digest_84 : decode cX10_digest 84 = .ok (.aload_n 0, 1) := by decide +kernel
theorem dX10_digest_85 : decode cX10_digest 85 = .ok (.invokevirtual 300, 3) := by decide +kernel
theorem dX10_digest_88 : decode cX10_digest 88 = .ok (.i2l, 1) := by decide +kernel
theorem dX10_digest_89 : decode cX10_digest 89 = .ok (.ladd, 1) := by decide +kernel
theorem dX10_digest_90 : decode cX10_digest 90 = .ok (.lstore_n 1, 1) := by decide +kernel
theorem dX10_digest_91 : decode cX10_digest 91 = .ok (.lload_n 1, 1) := by decide +kernel
theorem dX10_digest_92 : decode cX10_digest 92 = .ok (.ldc2_w 275, 3) := by decide +kernel
theorem dX10_digest_95 : decode cX10_digest 95 = .ok (.lmul, 1) := by decide +kernel
theorem dX10_digest_96 : decode cX10_digest 96 = .ok (.aload_n 0, 1) := by decide +kernel
theorem dX10_digest_97 : decode cX10_digest 97 = .ok (.invokevirtual 303, 3) := by decide +kernel
theorem dX10_digest_100 : decode cX10_digest 100 = .ok (.i2l, 1) := by decide +kernel
theorem dX10_digest_101 : decode cX10_digest 101 = .ok (.ladd, 1) := by decide +kernel
theorem dX10_digest_102 : decode cX10_digest 102 = .ok (.lstore_n 1, 1) := by decide +kernel
theorem dX10_digest_103 : decode cX10_digest 103 = .ok (.iconst 0, 1) := by decide +kernel
theorem dX10_digest_104 : decode cX10_digest 104 = .ok (.istore_n 3, 1) := by decide +kernel
theorem dX10_digest_105 : decode cX10_digest 105 = .ok (.iload_n 3, 1) := by decide +kernel
theorem dX10_digest_106 : decode cX10_digest 106 = .ok (.aload_n 0, 1) := by decide +kernel
theorem dX10_digest_107 : decode cX10_digest 107 = .ok (.getfield 12, 3) := by decide +kernel
theorem dX10_digest_110 : decode cX10_digest 110 = .ok (.invokevirtual 88, 3) := by decide +kernel
theorem dX10_digest_113 : decode cX10_digest 113 = .ok (.if_icmp .ge 16, 3) := by decide +kernel
theorem dX10_digest_129 : decode cX10_digest 129 = .ok (.lload_n 1, 1) := by decide +kernel
theorem dX10_digest_130 : decode cX10_digest 130 = .ok (.lreturn, 1) := by decide +kernel
theorem dL_law_2940 : decode cL_law 2940 = .ok (.aload_n 2, 1) := by decide +kernel
theorem dL_law_2941 : decode cL_law 2941 = .ok (.invokevirtual 317, 3) := by decide +kernel
theorem dX14_digest_0 : decode cX14_digest 0 = .ok (.aload_n 0, 1) := by decide +kernel
theorem dX14_digest_1 : decode cX14_digest 1 = .ok (.iconst 0, 1) := by decide +kernel
theorem dX14_digest_2 : decode cX14_digest 2 = .ok (.putfield 43, 3) := by decide +kernel
theorem dX14_digest_5 : decode cX14_digest 5 = .ok (.aload_n 0, 1) := by decide +kernel
theorem dX14_digest_6 : decode cX14_digest 6 = .ok (.ldc2_w 241, 3) := by decide +kernel
theorem dX14_digest_9 : decode cX14_digest 9 = .ok (.putfield 233, 3) := by decide +kernel
theorem dX14_digest_12 : decode cX14_digest 12 = .ok (.bipush 8, 2) := by decide +kernel
theorem dX14_digest_14 : decode cX14_digest 14 = .ok (.newarray .int, 2) := by decide +kernel
theorem dX14_digest_16 : decode cX14_digest 16 = .ok (.dup, 1) := by decide +kernel
theorem dX14_digest_17 : decode cX14_digest 17 = .ok (.iconst 0, 1) := by decide +kernel
theorem dX14_digest_18 : decode cX14_digest 18 = .ok (.aload_n 0, 1) := by decide +kernel
theorem dX14_digest_19 : decode cX14_digest 19 = .ok (.getfield 47, 3) := by decide +kernel
theorem dX14_digest_22 : decode cX14_digest 22 = .ok (.iastore, 1) := by decide +kernel
theorem dX14_digest_23 : decode cX14_digest 23 = .ok (.dup, 1) := by decide +kernel
theorem dX14_digest_24 : decode cX14_digest 24 = .ok (.iconst 1, 1) := by decide +kernel
theorem dX14_digest_25 : decode cX14_digest 25 = .ok (.aload_n 0, 1) := by decide +kernel
theorem dX14_digest_26 : decode cX14_digest 26 = .ok (.getfield 58, 3) := by decide +kernel
theorem dX14_digest_29 : decode cX14_digest 29 = .ok (.ifCond .eq 7, 3) := by decide +kernel
theorem dX14_digest_36 : decode cX14_digest 36 = .ok (.iconst 0, 1) := by decide +kernel
theorem dX14_digest_37 : decode cX14_digest 37 = .ok (.iastore, 1) := by decide +kernel
theorem dX14_digest_38 : decode cX14_digest 38 = .ok (.dup, 1) := by decide +kernel
theorem dX14_digest_39 : decode cX14_digest 39 = .ok (.iconst 2, 1) := by decide +kernel
theorem dX14_digest_40 : decode cX14_digest 40 = .ok (.aload_n 0, 1) := by decide +kernel
theorem dX14_digest_41 : decode cX14_digest 41 = .ok (.getfield 36, 3) := by decide +kernel
theorem dX14_digest_44 : decode cX14_digest 44 = .ok (.getfield 208, 3) := by decide +kernel
theorem dX14_digest_47 : decode cX14_digest 47 = .ok (.iastore, 1) := by decide +kernel
theorem dX14_digest_48 : decode cX14_digest 48 = .ok (.dup, 1) := by decide +kernel
theorem dX14_digest_49 : decode cX14_digest 49 = .ok (.iconst 3, 1) := by decide +kernel
theorem dX14_digest_50 : decode cX14_digest 50 = .ok (.aload_n 0, 1) := by decide +kernel
theorem dX14_digest_51 : decode cX14_digest 51 = .ok (.getfield 36, 3) := by decide +kernel
theorem dX14_digest_54 : decode cX14_digest 54 = .ok (.getfield 116, 3) := by decide +kernel
theorem dX14_digest_57 : decode cX14_digest 57 = .ok (.iastore, 1) := by decide +kernel
theorem dX14_digest_58 : decode cX14_digest 58 = .ok (.dup, 1) := by decide +kernel
theorem dX14_digest_59 : decode cX14_digest 59 = .ok (.iconst 4, 1) := by decide +kernel
theorem dX14_digest_60 : decode cX14_digest 60 = .ok (.aload_n 0, 1) := by decide +kernel
theorem dX14_digest_61 : decode cX14_digest 61 = .ok (.getfield 36, 3) := by decide +kernel
theorem dX14_digest_64 : decode cX14_digest 64 = .ok (.getfield 211, 3) := by decide +kernel
theorem dX14_digest_67 : decode cX14_digest 67 = .ok (.iastore, 1) := by decide +kernel
theorem dX14_digest_68 : decode cX14_digest 68 = .ok (.dup, 1) := by decide +kernel
theorem dX14_digest_69 : decode cX14_digest 69 = .ok (.iconst 5, 1) := by decide +kernel
theorem dX14_digest_70 : decode cX14_digest 70 = .ok (.aload_n 0, 1) := by decide +kernel
theorem dX14_digest_71 : decode cX14_digest 71 = .ok (.getfield 36, 3) := by decide +kernel
theorem dX14_digest_74 : decode cX14_digest 74 = .ok (.getfield 214, 3) := by decide +kernel
theorem dX14_digest_77 : decode cX14_digest 77 = .ok (.iastore, 1) := by decide +kernel
theorem dX14_digest_78 : decode cX14_digest 78 = .ok (.dup, 1) := by decide +kernel
theorem dX14_digest_79 : decode cX14_digest 79 = .ok (.bipush 6, 2) := by decide +kernel
theorem dX14_digest_81 : decode cX14_digest 81 = .ok (.aload_n 0, 1) := by decide +kernel
theorem dX14_digest_82 : decode cX14_digest 82 = .ok (.invokevirtual 217, 3) := by decide +kernel
theorem dX14_digest_85 : decode cX14_digest 85 = .ok (.iastore, 1) := by decide +kernel
theorem dX14_digest_86 : decode cX14_digest 86 = .ok (.dup, 1) := by decide +kernel
theorem dX14_digest_87 : decode cX14_digest 87 = .ok (.bipush 7, 2) := by decide +kernel
theorem dX14_digest_89 : decode cX14_digest 89 = .ok (.aload_n 0, 1) := by decide +kernel
theorem dX14_digest_90 : decode cX14_digest 90 = .ok (.getfield 36, 3) := by decide +kernel
theorem dX14_digest_93 : decode cX14_digest 93 = .ok (.invokevirtual 220, 3) := by decide +kernel
theorem dX14_digest_96 : decode cX14_digest 96 = .ok (.iastore, 1) := by decide +kernel
theorem dX14_digest_97 : decode cX14_digest 97 = .ok (.astore_n 1, 1) := by decide +kernel
theorem dX14_digest_98 : decode cX14_digest 98 = .ok (.aload_n 1, 1) := by decide +kernel
theorem dX14_digest_99 : decode cX14_digest 99 = .ok (.astore_n 2, 1) := by decide +kernel
theorem dX14_digest_100 : decode cX14_digest 100 = .ok (.aload_n 2, 1) := by decide +kernel
theorem dX14_digest_101 : decode cX14_digest 101 = .ok (.arraylength, 1) := by decide +kernel
theorem dX14_digest_102 : decode cX14_digest 102 = .ok (.istore_n 3, 1) := by decide +kernel
theorem dX14_digest_103 : decode cX14_digest 103 = .ok (.iconst 0, 1) := by decide +kernel
theorem dX14_digest_104 : decode cX14_digest 104 = .ok (.istore 4, 2) := by decide +kernel
theorem dX14_digest_106 : decode cX14_digest 106 = .ok (.iload 4, 2) := by decide +kernel
theorem dX14_digest_108 : decode cX14_digest 108 = .ok (.iload_n 3, 1) := by decide +kernel
theorem dX14_digest_109 : decode cX14_digest 109 = .ok (.if_icmp .ge 21, 3) := by decide +kernel
theorem dX14_digest_112 : decode cX14_digest 112 = .ok (.aload_n 2, 1) := by decide +kernel
theorem dX14_digest_113 : decode cX14_digest 113 = .ok (.iload 4, 2) := by decide +kernel
theorem dX14_digest_115 : decode cX14_digest 115 = .ok (.iaload, 1) := by decide +kernel
theorem dX14_digest_116 : decode cX14_digest 116 = .ok (.istore 5, 2) := by decide +kernel
theorem dX14_digest_118 : decode cX14_digest 118 = .ok (.aload_n 0, 1) := by decide +kernel
theorem dX14_digest_119 : decode cX14_digest 119 = .ok (.iload 5, 2) := by decide +kernel
theorem dX14_digest_121 : decode cX14_digest 121 = .ok (.invokevirtual 239, 3) := by decide +kernel
theorem dX14_add__0 : decode cX14_add_ 0 = .ok (.aload_n 0, 1) := by decide +kernel
theorem dX14_add__1 : decode cX14_add_ 1 = .ok (.aload_n 0, 1) := by decide +kernel
theorem dX14_add__2 : decode cX14_add_ 2 = .ok (.getfield 233, 3) := by decide +kernel
theorem dX14_add__5 : decode cX14_add_ 5 = .ok (.ldc2_w 237, 3) := by decide +kernel
theorem dX14_add__8 : decode cX14_add_ 8 = .ok (.lmul, 1) := by decide +kernel
theorem dX14_add__9 : decode cX14_add_ 9 = .ok (.iload_n 1, 1) := by decide +kernel
theorem dX14_add__10 : decode cX14_add_ 10 = .ok (.i2l, 1) := by decide +kernel
theorem dX14_add__11 : decode cX14_add_ 11 = .ok (.ladd, 1) := by decide +kernel
theorem dX14_add__12 : decode cX14_add_ 12 = .ok (.putfield 233, 3) := by decide +kernel
theorem dX14_add__15 : decode cX14_add_ 15 = .ok (.return_, 1) := by decide +kernel
theorem dX14_digest_124 : decode cX14_digest 124 = .ok (.iinc 4 1, 3) := by decide +kernel
theorem dX14_digest_127 : decode cX14_digest 127 = .ok (.goto (-21), 3) := by decide +kernel
theorem dX14_digest_130 : decode cX14_digest 130 = .ok (.iconst 0, 1) := by decide +kernel
theorem dX14_digest_131 : decode cX14_digest 131 = .ok (.istore_n 2, 1) := by decide +kernel
theorem dX14_digest_132 : decode cX14_digest 132 = .ok (.iload_n 2, 1) := by decide +kernel
theorem dX14_digest_133 : decode cX14_digest 133 = .ok (.aload_n 0, 1) := by decide +kernel
theorem dX14_digest_134 : decode cX14_digest 134 = .ok (.getfield 47, 3) := by decide +kernel
theorem dX14_digest_137 : decode cX14_digest 137 = .ok (.if_icmp .ge 14, 3) := by decide +kernel
theorem dX14_digest_151 : decode cX14_digest 151 = .ok (.aload_n 0, 1) := by decide +kernel
theorem dX14_digest_152 : decode cX14_digest 152 = .ok (.getfield 233, 3) := by decide +kernel
theorem dX14_digest_155 : decode cX14_digest 155 = .ok (.lreturn, 1) := by decide +kernel
theorem dL_law_2944 : decode cL_law 2944 = .ok (.lcmp, 1) := by decide +kernel
theorem dL_law_2945 : decode cL_law 2945 = .ok (.ifCond .eq 5, 3) := by decide +kernel
theorem dL_law_23 : decode cL_law 23 = .ok (.iload 4, 2) := by decide +kernel
theorem dL_law_25 : decode cL_law 25 = .ok (.aload_n 0, 1) := by decide +kernel
theorem dL_law_26 : decode cL_law 26 = .ok (.arraylength, 1) := by decide +kernel
theorem dL_law_27 : decode cL_law 27 = .ok (.bipush 6, 2) := by decide +kernel
theorem dL_law_29 : decode cL_law 29 = .ok (.isub, 1) := by decide +kernel
theorem dL_law_30 : decode cL_law 30 = .ok (.if_icmp .gt 2926, 3) := by decide +kernel
theorem dL_law_33 : decode cL_law 33 = .ok (.aload_n 0, 1) := by decide +kernel
theorem dL_law_34 : decode cL_law 34 = .ok (.iload 4, 2) := by decide +kernel
theorem dL_law_36 : decode cL_law 36 = .ok (.iaload, 1) := by decide +kernel
theorem dL_law_37 : decode cL_law 37 = .ok (.bipush 63, 2) := by decide +kernel
theorem dL_law_39 : decode cL_law 39 = .ok (.iand, 1) := by decide +kernel
theorem dL_law_40 : decode cL_law 40 = .ok (.tableswitch 2910 0 48 #[212, 268, 348, 428, 532, 612, 716, 784, 840, 884, 940, 1032, 1088, 1144, 1207, 1251, 1295, 1308, 1321, 1377, 1433, 1489, 1545, 1601, 1657, 1720, 1783, 1867, 1958, 2033, 2089, 2169, 2225, 2281, 2337, 2405, 2473, 2541, 2554, 2567, 2580, 2593, 2606, 2619, 2660, 2716, 2784, 2840, 2896], 212) := by decide +kernel
theorem dL_law_2950 : decode cL_law 2950 = .ok (.iinc 4 6, 3) := by decide +kernel
theorem dL_law_2953 : decode cL_law 2953 = .ok (.goto (-2930), 3) := by decide +kernel
theorem dL_law_2956 : decode cL_law 2956 = .ok (.iconst 1, 1) := by decide +kernel
theorem dL_law_2957 : decode cL_law 2957 = .ok (.ireturn, 1) := by decide +kernel
theorem iX1 : ∀ w ∈ u_ws RX1 TX1 3, w ∈ lw_all := by
  intro w hw
  have h : w ∈ [(Jvm.Cond.laysFinal "WeirStream$Channel" "WeirStream$Channel" "items" "LWeirStream$Row;"), (Jvm.Cond.lays "WeirStream$Channel" "WeirStream$Channel" "given" "I"), (Jvm.Cond.lays "WeirStream$Channel" "WeirStream$Channel" "isShut" "Z")] := hw
  simp only [List.mem_cons, List.not_mem_nil, or_false] at h
  rcases h with rfl | rfl | rfl
  · exact wq611
  · exact wq613
  · exact wq615
theorem dfX1 : ∀ j, j < 3 → defaultValue (tyX1 j) = vp_V [.null, .int 0, .int 0] j := by
  intro j hj
  rcases (show j = 0 ∨ j = 1 ∨ j = 2 by omega) with rfl | rfl | rfl <;> rfl
theorem iX4 : ∀ w ∈ u_ws RX4 TX4 2, w ∈ lw_all := by
  intro w hw
  have h : w ∈ [(Jvm.Cond.laysFinal "WeirStream$Outlet" "WeirStream$Outlet" "items" "LWeirStream$Row;"), (Jvm.Cond.laysFinal "WeirStream$Outlet" "WeirStream$Outlet" "channels" "Ljava/util/ArrayList;")] := hw
  simp only [List.mem_cons, List.not_mem_nil, or_false] at h
  rcases h with rfl | rfl
  · exact wq696
  · exact wq698
theorem dfX4 : ∀ j, j < 2 → defaultValue (tyX4 j) = vp_V [.null, .null] j := by
  intro j hj
  rcases (show j = 0 ∨ j = 1 by omega) with rfl | rfl <;> rfl
theorem iX5 : ∀ w ∈ u_ws RX5 TX5 15, w ∈ lw_all := by
  intro w hw
  have h : w ∈ [(Jvm.Cond.laysFinal "WeirStream$Plan" "WeirStream$Plan" "sort" "I"), (Jvm.Cond.laysFinal "WeirStream$Plan" "WeirStream$Plan" "first" "I"), (Jvm.Cond.laysFinal "WeirStream$Plan" "WeirStream$Plan" "second" "I"), (Jvm.Cond.lays "WeirStream$Plan" "WeirStream$Plan" "slack" "I"), (Jvm.Cond.lays "WeirStream$Plan" "WeirStream$Plan" "rule" "I"), (Jvm.Cond.lays "WeirStream$Plan" "WeirStream$Plan" "n" "I"), (Jvm.Cond.lays "WeirStream$Plan" "WeirStream$Plan" "size" "I"), (Jvm.Cond.lays "WeirStream$Plan" "WeirStream$Plan" "step" "I"), (Jvm.Cond.lays "WeirStream$Plan" "WeirStream$Plan" "lateness" "I"), (Jvm.Cond.lays "WeirStream$Plan" "WeirStream$Plan" "gap" "I"), (Jvm.Cond.lays "WeirStream$Plan" "WeirStream$Plan" "before" "I"), (Jvm.Cond.lays "WeirStream$Plan" "WeirStream$Plan" "after" "I"), (Jvm.Cond.lays "WeirStream$Plan" "WeirStream$Plan" "account" "I"), (Jvm.Cond.lays "WeirStream$Plan" "WeirStream$Plan" "depth" "I"), (Jvm.Cond.lays "WeirStream$Plan" "WeirStream$Plan" "upstream" "I")] := hw
  simp only [List.mem_cons, List.not_mem_nil, or_false] at h
  rcases h with rfl | rfl | rfl | rfl | rfl | rfl | rfl | rfl | rfl | rfl | rfl | rfl | rfl | rfl | rfl
  · exact wq526
  · exact wq528
  · exact wq530
  · exact wq532
  · exact wq534
  · exact wq536
  · exact wq538
  · exact wq540
  · exact wq542
  · exact wq544
  · exact wq546
  · exact wq548
  · exact wq550
  · exact wq552
  · exact wq554
theorem dfX5 : ∀ j, j < 15 → defaultValue (tyX5 j) = vp_V [.int 0, .int 0, .int 0, .int 0, .int 0, .int 0, .int 0, .int 0, .int 0, .int 0, .int 0, .int 0, .int 0, .int 0, .int 0] j := by
  intro j hj
  rcases (show j = 0 ∨ j = 1 ∨ j = 2 ∨ j = 3 ∨ j = 4 ∨ j = 5 ∨ j = 6 ∨ j = 7 ∨ j = 8 ∨ j = 9 ∨ j = 10 ∨ j = 11 ∨ j = 12 ∨ j = 13 ∨ j = 14 by omega) with rfl | rfl | rfl | rfl | rfl | rfl | rfl | rfl | rfl | rfl | rfl | rfl | rfl | rfl | rfl <;> rfl
theorem iX6 : ∀ w ∈ u_ws RX6 TX6 2, w ∈ lw_all := by
  intro w hw
  have h : w ∈ [(Jvm.Cond.lays "WeirStream$Row" "WeirStream$Row" "cells" "[J"), (Jvm.Cond.lays "WeirStream$Row" "WeirStream$Row" "length" "I")] := hw
  simp only [List.mem_cons, List.not_mem_nil, or_false] at h
  rcases h with rfl | rfl
  · exact wq580
  · exact wq582
theorem dfX6 : ∀ j, j < 2 → defaultValue (tyX6 j) = vp_V [.null, .int 0] j := by
  intro j hj
  rcases (show j = 0 ∨ j = 1 by omega) with rfl | rfl <;> rfl
theorem iX7 : ∀ w ∈ u_ws RX7 TX7 2, w ∈ lw_all := by
  intro w hw
  have h : w ∈ [(Jvm.Cond.laysFinal "WeirStream$Spans" "WeirStream$Spans" "names" "LWeirStream$Row;"), (Jvm.Cond.laysFinal "WeirStream$Spans" "WeirStream$Spans" "accounts" "LWeirStream$Row;")] := hw
  simp only [List.mem_cons, List.not_mem_nil, or_false] at h
  rcases h with rfl | rfl
  · exact wq719
  · exact wq721
theorem dfX7 : ∀ j, j < 2 → defaultValue (tyX7 j) = vp_V [.null, .null] j := by
  intro j hj
  rcases (show j = 0 ∨ j = 1 by omega) with rfl | rfl <;> rfl
theorem iX8 : ∀ w ∈ u_ws RX8 TX8 12, w ∈ lw_all := by
  intro w hw
  have h : w ∈ [(Jvm.Cond.laysFinal "WeirStream$Stage" "WeirStream$Stage" "plan" "LWeirStream$Plan;"), (Jvm.Cond.laysFinal "WeirStream$Stage" "WeirStream$Stage" "log" "LWeirStream$Row;"), (Jvm.Cond.laysFinal "WeirStream$Stage" "WeirStream$Stage" "first" "LWeirStream$Channel;"), (Jvm.Cond.laysFinal "WeirStream$Stage" "WeirStream$Stage" "second" "LWeirStream$Channel;"), (Jvm.Cond.laysFinal "WeirStream$Stage" "WeirStream$Stage" "isTrial" "Z"), (Jvm.Cond.laysFinal "WeirStream$Stage" "WeirStream$Stage" "outlet" "LWeirStream$Outlet;"), (Jvm.Cond.laysFinal "WeirStream$Stage" "WeirStream$Stage" "output" "LWeirStream$Row;"), (Jvm.Cond.laysFinal "WeirStream$Stage" "WeirStream$Stage" "now" "LWeirStream$State;"), (Jvm.Cond.lays "WeirStream$Stage" "WeirStream$Stage" "latest" "LWeirStream$State;"), (Jvm.Cond.lays "WeirStream$Stage" "WeirStream$Stage" "coming" "LWeirStream$State;"), (Jvm.Cond.lays "WeirStream$Stage" "WeirStream$Stage" "isClosed" "Z"), (Jvm.Cond.lays "WeirStream$Stage" "WeirStream$Stage" "owesBarrier" "Z")] := hw
  simp only [List.mem_cons, List.not_mem_nil, or_false] at h
  rcases h with rfl | rfl | rfl | rfl | rfl | rfl | rfl | rfl | rfl | rfl | rfl | rfl
  · exact wq804
  · exact wq806
  · exact wq808
  · exact wq810
  · exact wq812
  · exact wq814
  · exact wq816
  · exact wq818
  · exact wq820
  · exact wq822
  · exact wq824
  · exact wq826
theorem dfX8 : ∀ j, j < 12 → defaultValue (tyX8 j) = vp_V [.null, .null, .null, .null, .int 0, .null, .null, .null, .null, .null, .int 0, .int 0] j := by
  intro j hj
  rcases (show j = 0 ∨ j = 1 ∨ j = 2 ∨ j = 3 ∨ j = 4 ∨ j = 5 ∨ j = 6 ∨ j = 7 ∨ j = 8 ∨ j = 9 ∨ j = 10 ∨ j = 11 by omega) with rfl | rfl | rfl | rfl | rfl | rfl | rfl | rfl | rfl | rfl | rfl | rfl <;> rfl
theorem iX9 : ∀ w ∈ u_ws RX9 TX9 11, w ∈ lw_all := by
  intro w hw
  have h : w ∈ [(Jvm.Cond.lays "WeirStream$State" "WeirStream$State" "mark" "I"), (Jvm.Cond.lays "WeirStream$State" "WeirStream$State" "firstMark" "I"), (Jvm.Cond.lays "WeirStream$State" "WeirStream$State" "secondMark" "I"), (Jvm.Cond.lays "WeirStream$State" "WeirStream$State" "tookSecond" "Z"), (Jvm.Cond.lays "WeirStream$State" "WeirStream$State" "taken" "I"), (Jvm.Cond.lays "WeirStream$State" "WeirStream$State" "emitted" "I"), (Jvm.Cond.lays "WeirStream$State" "WeirStream$State" "late" "I"), (Jvm.Cond.lays "WeirStream$State" "WeirStream$State" "outputCount" "I"), (Jvm.Cond.laysFinal "WeirStream$State" "WeirStream$State" "spans" "LWeirStream$Spans;"), (Jvm.Cond.laysFinal "WeirStream$State" "WeirStream$State" "left" "LWeirStream$Row;"), (Jvm.Cond.laysFinal "WeirStream$State" "WeirStream$State" "right" "LWeirStream$Row;")] := hw
  simp only [List.mem_cons, List.not_mem_nil, or_false] at h
  rcases h with rfl | rfl | rfl | rfl | rfl | rfl | rfl | rfl | rfl | rfl | rfl
  · exact wq755
  · exact wq757
  · exact wq759
  · exact wq761
  · exact wq763
  · exact wq765
  · exact wq767
  · exact wq769
  · exact wq771
  · exact wq773
  · exact wq775
theorem dfX9 : ∀ j, j < 11 → defaultValue (tyX9 j) = vp_V [.int 0, .int 0, .int 0, .int 0, .int 0, .int 0, .int 0, .int 0, .null, .null, .null] j := by
  intro j hj
  rcases (show j = 0 ∨ j = 1 ∨ j = 2 ∨ j = 3 ∨ j = 4 ∨ j = 5 ∨ j = 6 ∨ j = 7 ∨ j = 8 ∨ j = 9 ∨ j = 10 by omega) with rfl | rfl | rfl | rfl | rfl | rfl | rfl | rfl | rfl | rfl | rfl <;> rfl
theorem at0_X10_91 : ∀ w ∈ (vx_at0 RX10 93 "java/lang/IllegalStateException" ["java/lang/RuntimeException", "java/lang/Exception"]), w ∈ lw_tbl ∧ (goodWord w || (zk_n w && w.onTables)) = true := zk_all (by decide +kernel)
theorem at0_X10_91_g : ∀ w ∈ Cond.classLink RX10 91 "java/lang/IllegalStateException" :: Cond.initialized "java/lang/IllegalStateException" :: (vx_at0 RX10 93 "java/lang/IllegalStateException" ["java/lang/RuntimeException", "java/lang/Exception"]), vx_ot w = true := fun w hw => List.all_eq_true.mp (show (Cond.classLink RX10 91 "java/lang/IllegalStateException" :: Cond.initialized "java/lang/IllegalStateException" :: (vx_at0 RX10 93 "java/lang/IllegalStateException" ["java/lang/RuntimeException", "java/lang/Exception"])).all vx_ot = true by decide +kernel) w hw
theorem at0_X10_354 : ∀ w ∈ (vx_at0 RX10 356 "java/lang/IllegalArgumentException" ["java/lang/RuntimeException", "java/lang/Exception"]), w ∈ lw_tbl ∧ (goodWord w || (zk_n w && w.onTables)) = true := zk_all (by decide +kernel)
theorem at0_X10_354_g : ∀ w ∈ Cond.classLink RX10 354 "java/lang/IllegalArgumentException" :: Cond.initialized "java/lang/IllegalArgumentException" :: (vx_at0 RX10 356 "java/lang/IllegalArgumentException" ["java/lang/RuntimeException", "java/lang/Exception"]), vx_ot w = true := fun w hw => List.all_eq_true.mp (show (Cond.classLink RX10 354 "java/lang/IllegalArgumentException" :: Cond.initialized "java/lang/IllegalArgumentException" :: (vx_at0 RX10 356 "java/lang/IllegalArgumentException" ["java/lang/RuntimeException", "java/lang/Exception"])).all vx_ot = true by decide +kernel) w hw
theorem at0_X10_357 : ∀ w ∈ (vx_at0 RX10 359 "java/lang/IndexOutOfBoundsException" ["java/lang/RuntimeException", "java/lang/Exception"]), w ∈ lw_tbl ∧ (goodWord w || (zk_n w && w.onTables)) = true := zk_all (by decide +kernel)
theorem at0_X10_357_g : ∀ w ∈ Cond.classLink RX10 357 "java/lang/IndexOutOfBoundsException" :: Cond.initialized "java/lang/IndexOutOfBoundsException" :: (vx_at0 RX10 359 "java/lang/IndexOutOfBoundsException" ["java/lang/RuntimeException", "java/lang/Exception"]), vx_ot w = true := fun w hw => List.all_eq_true.mp (show (Cond.classLink RX10 357 "java/lang/IndexOutOfBoundsException" :: Cond.initialized "java/lang/IndexOutOfBoundsException" :: (vx_at0 RX10 359 "java/lang/IndexOutOfBoundsException" ["java/lang/RuntimeException", "java/lang/Exception"])).all vx_ot = true by decide +kernel) w hw
