theorem wq631 : (Jvm.Cond.methodLink "WeirStreamLaw" (37 : Nat) ({ cls := "WeirStream", name := "markOf", desc := "(I)I" } : Jvm.MethodName)) ∈ lw_all := lw_in (lw_tb (List.mem_of_getElem? (i := 631) (by decide +kernel))) rfl
theorem wq635 : (Jvm.Cond.methodLink "WeirStreamLaw" (105 : Nat) ({ cls := "WeirStream", name := "taken", desc := "(I)I" } : Jvm.MethodName)) ∈ lw_all := lw_in (lw_tb (List.mem_of_getElem? (i := 635) (by decide +kernel))) rfl
theorem wq639 : (Jvm.Cond.methodLink "WeirStreamLaw" (96 : Nat) ({ cls := "WeirStream", name := "kept", desc := "(I)I" } : Jvm.MethodName)) ∈ lw_all := lw_in (lw_tb (List.mem_of_getElem? (i := 639) (by decide +kernel))) rfl
theorem wq649 : (Jvm.Cond.methodLink "WeirStreamLaw" (99 : Nat) ({ cls := "WeirStream", name := "isReady", desc := "(I)Z" } : Jvm.MethodName)) ∈ lw_all := lw_in (lw_tb (List.mem_of_getElem? (i := 649) (by decide +kernel))) rfl
theorem wq653 : (Jvm.Cond.methodLink "WeirStreamLaw" (92 : Nat) ({ cls := "WeirStream", name := "isBlocked", desc := "(IZ)Z" } : Jvm.MethodName)) ∈ lw_all := lw_in (lw_tb (List.mem_of_getElem? (i := 653) (by decide +kernel))) rfl
theorem wq658 : (Jvm.Cond.methodLink "WeirStreamLaw" (71 : Nat) ({ cls := "WeirStream", name := "outputs", desc := "(I)I" } : Jvm.MethodName)) ∈ lw_all := lw_in (lw_tb (List.mem_of_getElem? (i := 658) (by decide +kernel))) rfl
theorem wq666 : (Jvm.Cond.methodLink "WeirStreamLaw" (65 : Nat) ({ cls := "WeirStream", name := "committed", desc := "(I)I" } : Jvm.MethodName)) ∈ lw_all := lw_in (lw_tb (List.mem_of_getElem? (i := 666) (by decide +kernel))) rfl
theorem wq670 : (Jvm.Cond.methodLink "WeirStreamLaw" (56 : Nat) ({ cls := "WeirStream", name := "begun", desc := "()I" } : Jvm.MethodName)) ∈ lw_all := lw_in (lw_tb (List.mem_of_getElem? (i := 670) (by decide +kernel))) rfl
theorem wq674 : (Jvm.Cond.methodLink "WeirStreamLaw" (108 : Nat) ({ cls := "WeirStream", name := "inFlight", desc := "()I" } : Jvm.MethodName)) ∈ lw_all := lw_in (lw_tb (List.mem_of_getElem? (i := 674) (by decide +kernel))) rfl
theorem wq683 : (Jvm.Cond.methodLink "WeirStreamLaw" (85 : Nat) ({ cls := "WeirStream", name := "next", desc := "()I" } : Jvm.MethodName)) ∈ lw_all := lw_in (lw_tb (List.mem_of_getElem? (i := 683) (by decide +kernel))) rfl
theorem wq704 : (Jvm.Cond.methodLink "WeirStreamLaw" (102 : Nat) ({ cls := "WeirStream", name := "wouldLose", desc := "(I)I" } : Jvm.MethodName)) ∈ lw_all := lw_in (lw_tb (List.mem_of_getElem? (i := 704) (by decide +kernel))) rfl
theorem wq705 : (Jvm.Cond.instanceMethod ({ cls := "WeirStream", name := "wouldLose", desc := "(I)I" } : Jvm.MethodName)) ∈ lw_all := lw_in (lw_tb (List.mem_of_getElem? (i := 705) (by decide +kernel))) rfl
theorem wq706 : (Jvm.Cond.selects "WeirStream" ({ cls := "WeirStream", name := "wouldLose", desc := "(I)I" } : Jvm.MethodName) ({ cls := "WeirStream", name := "wouldLose", desc := "(I)I" } : Jvm.MethodName)) ∈ lw_all := lw_in (lw_tb (List.mem_of_getElem? (i := 706) (by decide +kernel))) rfl
theorem wq707 : (Jvm.Cond.code ({ cls := "WeirStream", name := "wouldLose", desc := "(I)I" } : Jvm.MethodName) prog_1_method_48_code (3 : Nat) (Option.some Jvm.ClassFile.FieldType.int)) ∈ lw_all := lw_in (lw_tb (List.mem_of_getElem? (i := 707) (by decide +kernel))) rfl
theorem wq1187 : (Jvm.Cond.methodLink "WeirStreamLaw" (143 : Nat) ({ cls := "WeirStream", name := "queued", desc := "(IZ)I" } : Jvm.MethodName)) ∈ lw_all := lw_in (lw_tb (List.mem_of_getElem? (i := 1187) (by decide +kernel))) rfl
theorem wq1188 : (Jvm.Cond.methodLink "WeirStreamLaw" (40 : Nat) ({ cls := "java/lang/Math", name := "max", desc := "(II)I" } : Jvm.MethodName)) ∈ lw_all := lw_in (lw_tb (List.mem_of_getElem? (i := 1188) (by decide +kernel))) rfl
theorem wq1189 : (Jvm.Cond.methodLink "WeirStreamLaw" (147 : Nat) ({ cls := "WeirStream", name := "hasRoom", desc := "(I)Z" } : Jvm.MethodName)) ∈ lw_all := lw_in (lw_tb (List.mem_of_getElem? (i := 1189) (by decide +kernel))) rfl
theorem wq1190 : (Jvm.Cond.methodLink "WeirStreamLaw" (150 : Nat) ({ cls := "WeirStream", name := "late", desc := "(I)I" } : Jvm.MethodName)) ∈ lw_all := lw_in (lw_tb (List.mem_of_getElem? (i := 1190) (by decide +kernel))) rfl
theorem wq1191 : (Jvm.Cond.methodLink "WeirStreamLaw" (153 : Nat) ({ cls := "WeirStream", name := "emitted", desc := "(I)I" } : Jvm.MethodName)) ∈ lw_all := lw_in (lw_tb (List.mem_of_getElem? (i := 1191) (by decide +kernel))) rfl
theorem wq1192 : (Jvm.Cond.methodLink "WeirStreamLaw" (156 : Nat) ({ cls := "WeirStream", name := "wouldReplay", desc := "(I)I" } : Jvm.MethodName)) ∈ lw_all := lw_in (lw_tb (List.mem_of_getElem? (i := 1192) (by decide +kernel))) rfl
theorem wq1193 : (Jvm.Cond.instanceMethod ({ cls := "WeirStream", name := "wouldReplay", desc := "(I)I" } : Jvm.MethodName)) ∈ lw_all := lw_in (lw_tb (List.mem_of_getElem? (i := 1193) (by decide +kernel))) rfl
theorem wq1194 : (Jvm.Cond.selects "WeirStream" ({ cls := "WeirStream", name := "wouldReplay", desc := "(I)I" } : Jvm.MethodName) ({ cls := "WeirStream", name := "wouldReplay", desc := "(I)I" } : Jvm.MethodName)) ∈ lw_all := lw_in (lw_tb (List.mem_of_getElem? (i := 1194) (by decide +kernel))) rfl
theorem wq1195 : (Jvm.Cond.code ({ cls := "WeirStream", name := "wouldReplay", desc := "(I)I" } : Jvm.MethodName) prog_1_method_49_code (3 : Nat) (Option.some Jvm.ClassFile.FieldType.int)) ∈ lw_all := lw_in (lw_tb (List.mem_of_getElem? (i := 1195) (by decide +kernel))) rfl
theorem wq1196 : (Jvm.Cond.methodLink "WeirStreamLaw" (159 : Nat) ({ cls := "WeirStream", name := "nextEnd", desc := "(I)I" } : Jvm.MethodName)) ∈ lw_all := lw_in (lw_tb (List.mem_of_getElem? (i := 1196) (by decide +kernel))) rfl
theorem wq1197 : (Jvm.Cond.methodLink "WeirStreamLaw" (162 : Nat) ({ cls := "WeirStream", name := "meanQueue", desc := "()D" } : Jvm.MethodName)) ∈ lw_all := lw_in (lw_tb (List.mem_of_getElem? (i := 1197) (by decide +kernel))) rfl
theorem wq1198 : (Jvm.Cond.instanceMethod ({ cls := "WeirStream", name := "meanQueue", desc := "()D" } : Jvm.MethodName)) ∈ lw_all := lw_in (lw_tb (List.mem_of_getElem? (i := 1198) (by decide +kernel))) rfl
theorem wq1199 : (Jvm.Cond.selects "WeirStream" ({ cls := "WeirStream", name := "meanQueue", desc := "()D" } : Jvm.MethodName) ({ cls := "WeirStream", name := "meanQueue", desc := "()D" } : Jvm.MethodName)) ∈ lw_all := lw_in (lw_tb (List.mem_of_getElem? (i := 1199) (by decide +kernel))) rfl
theorem wq1200 : (Jvm.Cond.code ({ cls := "WeirStream", name := "meanQueue", desc := "()D" } : Jvm.MethodName) prog_1_method_45_code (2 : Nat) (Option.some Jvm.ClassFile.FieldType.double)) ∈ lw_all := lw_in (lw_tb (List.mem_of_getElem? (i := 1200) (by decide +kernel))) rfl
theorem dL_isSound_23 : decode cL_isSound 23 = .ok (.iload 8, 2) := by decide +kernel
theorem dL_isSound_25 : decode cL_isSound 25 = .ok (.iconst 2, 1) := by decide +kernel
theorem dL_isSound_26 : decode cL_isSound 26 = .ok (.if_icmp .ge 79, 3) := by decide +kernel
theorem dL_isSound_29 : decode cL_isSound 29 = .ok (.aload_n 0, 1) := by decide +kernel
theorem dL_isSound_30 : decode cL_isSound 30 = .ok (.iload 7, 2) := by decide +kernel
theorem dL_isSound_32 : decode cL_isSound 32 = .ok (.iload 8, 2) := by decide +kernel
theorem dL_isSound_34 : decode cL_isSound 34 = .ok (.iconst 1, 1) := by decide +kernel
theorem dL_isSound_35 : decode cL_isSound 35 = .ok (.if_icmp .ne 7, 3) := by decide +kernel
theorem dL_isSound_42 : decode cL_isSound 42 = .ok (.iconst 0, 1) := by decide +kernel
theorem dL_isSound_43 : decode cL_isSound 43 = .ok (.invokevirtual 143, 3) := by decide +kernel
theorem dL_isSound_46 : decode cL_isSound 46 = .ok (.istore 9, 2) := by decide +kernel
theorem dL_isSound_48 : decode cL_isSound 48 = .ok (.iload_n 3, 1) := by decide +kernel
theorem dL_isSound_49 : decode cL_isSound 49 = .ok (.iconst 0, 1) := by decide +kernel
theorem dL_isSound_50 : decode cL_isSound 50 = .ok (.iload 9, 2) := by decide +kernel
theorem dL_isSound_52 : decode cL_isSound 52 = .ok (.invokestatic 40, 3) := by decide +kernel
theorem dL_isSound_55 : decode cL_isSound 55 = .ok (.iadd, 1) := by decide +kernel
theorem dL_isSound_56 : decode cL_isSound 56 = .ok (.istore_n 3, 1) := by decide +kernel
theorem dL_isSound_57 : decode cL_isSound 57 = .ok (.iload 4, 2) := by decide +kernel
theorem dL_isSound_59 : decode cL_isSound 59 = .ok (.iload 9, 2) := by decide +kernel
theorem dL_isSound_61 : decode cL_isSound 61 = .ok (.ifCond .lt 7, 3) := by decide +kernel
theorem dL_isSound_64 : decode cL_isSound 64 = .ok (.iconst 1, 1) := by decide +kernel
theorem dL_isSound_65 : decode cL_isSound 65 = .ok (.goto 4, 3) := by decide +kernel
theorem dL_isSound_69 : decode cL_isSound 69 = .ok (.iadd, 1) := by decide +kernel
theorem dL_isSound_70 : decode cL_isSound 70 = .ok (.istore 4, 2) := by decide +kernel
theorem dL_isSound_72 : decode cL_isSound 72 = .ok (.iload 9, 2) := by decide +kernel
theorem dL_isSound_74 : decode cL_isSound 74 = .ok (.ifCond .ge 25, 3) := by decide +kernel
theorem dL_isSound_99 : decode cL_isSound 99 = .ok (.iinc 8 1, 3) := by decide +kernel
theorem dL_isSound_102 : decode cL_isSound 102 = .ok (.goto (-79), 3) := by decide +kernel
theorem dL_isSound_68 : decode cL_isSound 68 = .ok (.iconst 0, 1) := by decide +kernel
theorem dL_isSound_77 : decode cL_isSound 77 = .ok (.aload_n 0, 1) := by decide +kernel
theorem dL_isSound_78 : decode cL_isSound 78 = .ok (.iload 7, 2) := by decide +kernel
theorem dL_isSound_80 : decode cL_isSound 80 = .ok (.iload 8, 2) := by decide +kernel
theorem dL_isSound_82 : decode cL_isSound 82 = .ok (.iconst 1, 1) := by decide +kernel
theorem dL_isSound_83 : decode cL_isSound 83 = .ok (.if_icmp .ne 7, 3) := by decide +kernel
theorem dL_isSound_90 : decode cL_isSound 90 = .ok (.iconst 0, 1) := by decide +kernel
theorem dL_isSound_91 : decode cL_isSound 91 = .ok (.invokevirtual 92, 3) := by decide +kernel
theorem dL_isSound_94 : decode cL_isSound 94 = .ok (.ifCond .eq 5, 3) := by decide +kernel
theorem dL_isSound_38 : decode cL_isSound 38 = .ok (.iconst 1, 1) := by decide +kernel
theorem dL_isSound_39 : decode cL_isSound 39 = .ok (.goto 4, 3) := by decide +kernel
theorem dL_isSound_86 : decode cL_isSound 86 = .ok (.iconst 1, 1) := by decide +kernel
theorem dL_isSound_87 : decode cL_isSound 87 = .ok (.goto 4, 3) := by decide +kernel
theorem dL_isSound_105 : decode cL_isSound 105 = .ok (.iload 6, 2) := by decide +kernel
theorem dL_isSound_107 : decode cL_isSound 107 = .ok (.aload_n 0, 1) := by decide +kernel
theorem dL_isSound_108 : decode cL_isSound 108 = .ok (.iload 7, 2) := by decide +kernel
theorem dL_isSound_110 : decode cL_isSound 110 = .ok (.invokevirtual 99, 3) := by decide +kernel
theorem dL_isSound_113 : decode cL_isSound 113 = .ok (.ior, 1) := by decide +kernel
theorem dL_isSound_114 : decode cL_isSound 114 = .ok (.istore 6, 2) := by decide +kernel
theorem dL_isSound_116 : decode cL_isSound 116 = .ok (.aload_n 0, 1) := by decide +kernel
theorem dL_isSound_117 : decode cL_isSound 117 = .ok (.iload 7, 2) := by decide +kernel
theorem dL_isSound_119 : decode cL_isSound 119 = .ok (.invokevirtual 99, 3) := by decide +kernel
theorem dL_isSound_122 : decode cL_isSound 122 = .ok (.ifCond .eq 12, 3) := by decide +kernel
theorem dL_isSound_125 : decode cL_isSound 125 = .ok (.aload_n 0, 1) := by decide +kernel
theorem dL_isSound_126 : decode cL_isSound 126 = .ok (.iload 7, 2) := by decide +kernel
theorem dL_isSound_128 : decode cL_isSound 128 = .ok (.invokevirtual 147, 3) := by decide +kernel
theorem dL_isSound_131 : decode cL_isSound 131 = .ok (.ifCond .eq 64, 3) := by decide +kernel
theorem dL_isSound_134 : decode cL_isSound 134 = .ok (.aload_n 0, 1) := by decide +kernel
theorem dL_isSound_135 : decode cL_isSound 135 = .ok (.iload 7, 2) := by decide +kernel
theorem dL_isSound_137 : decode cL_isSound 137 = .ok (.iconst 0, 1) := by decide +kernel
theorem dL_isSound_138 : decode cL_isSound 138 = .ok (.invokevirtual 92, 3) := by decide +kernel
theorem dL_isSound_141 : decode cL_isSound 141 = .ok (.ifCond .eq 13, 3) := by decide +kernel
theorem dL_isSound_144 : decode cL_isSound 144 = .ok (.aload_n 0, 1) := by decide +kernel
theorem dL_isSound_145 : decode cL_isSound 145 = .ok (.iload 7, 2) := by decide +kernel
theorem dL_isSound_147 : decode cL_isSound 147 = .ok (.iconst 1, 1) := by decide +kernel
theorem dL_isSound_148 : decode cL_isSound 148 = .ok (.invokevirtual 92, 3) := by decide +kernel
theorem dL_isSound_151 : decode cL_isSound 151 = .ok (.ifCond .ne 44, 3) := by decide +kernel
theorem dL_isSound_154 : decode cL_isSound 154 = .ok (.aload_n 0, 1) := by decide +kernel
theorem dL_isSound_155 : decode cL_isSound 155 = .ok (.iload 7, 2) := by decide +kernel
theorem dL_isSound_157 : decode cL_isSound 157 = .ok (.invokevirtual 150, 3) := by decide +kernel
theorem dL_isSound_160 : decode cL_isSound 160 = .ok (.aload_n 0, 1) := by decide +kernel
theorem dL_isSound_161 : decode cL_isSound 161 = .ok (.iload 7, 2) := by decide +kernel
theorem dL_isSound_163 : decode cL_isSound 163 = .ok (.invokevirtual 105, 3) := by decide +kernel
theorem dL_isSound_166 : decode cL_isSound 166 = .ok (.if_icmp .gt 29, 3) := by decide +kernel
theorem dL_isSound_169 : decode cL_isSound 169 = .ok (.aload_n 0, 1) := by decide +kernel
theorem dL_isSound_170 : decode cL_isSound 170 = .ok (.iload 7, 2) := by decide +kernel
theorem dL_isSound_172 : decode cL_isSound 172 = .ok (.invokevirtual 150, 3) := by decide +kernel
theorem dL_isSound_175 : decode cL_isSound 175 = .ok (.ifCond .lt 20, 3) := by decide +kernel
theorem dL_isSound_178 : decode cL_isSound 178 = .ok (.aload_n 0, 1) := by decide +kernel
theorem dL_isSound_179 : decode cL_isSound 179 = .ok (.iload 7, 2) := by decide +kernel
theorem dL_isSound_181 : decode cL_isSound 181 = .ok (.iconst 0, 1) := by decide +kernel
theorem dL_isSound_182 : decode cL_isSound 182 = .ok (.invokevirtual 92, 3) := by decide +kernel
theorem dL_isSound_185 : decode cL_isSound 185 = .ok (.ifCond .eq 12, 3) := by decide +kernel
theorem dL_isSound_188 : decode cL_isSound 188 = .ok (.aload_n 0, 1) := by decide +kernel
theorem dL_isSound_189 : decode cL_isSound 189 = .ok (.invokevirtual 56, 3) := by decide +kernel
theorem dL_isSound_192 : decode cL_isSound 192 = .ok (.ifCond .ne 5, 3) := by decide +kernel
theorem dL_isSound_197 : decode cL_isSound 197 = .ok (.aload_n 0, 1) := by decide +kernel
theorem dL_isSound_198 : decode cL_isSound 198 = .ok (.iload 7, 2) := by decide +kernel
theorem dL_isSound_200 : decode cL_isSound 200 = .ok (.invokevirtual 62, 3) := by decide +kernel
theorem dL_isSound_203 : decode cL_isSound 203 = .ok (.istore 8, 2) := by decide +kernel
theorem dL_isSound_205 : decode cL_isSound 205 = .ok (.iload 8, 2) := by decide +kernel
theorem dL_isSound_207 : decode cL_isSound 207 = .ok (.ifCond .ne 21, 3) := by decide +kernel
theorem dL_isSound_210 : decode cL_isSound 210 = .ok (.iload 5, 2) := by decide +kernel
theorem dL_isSound_212 : decode cL_isSound 212 = .ok (.aload_n 0, 1) := by decide +kernel
theorem dL_isSound_213 : decode cL_isSound 213 = .ok (.iload 7, 2) := by decide +kernel
theorem dL_isSound_215 : decode cL_isSound 215 = .ok (.invokevirtual 105, 3) := by decide +kernel
theorem dL_isSound_218 : decode cL_isSound 218 = .ok (.aload_n 0, 1) := by decide +kernel
theorem dL_isSound_219 : decode cL_isSound 219 = .ok (.iload 7, 2) := by decide +kernel
theorem dL_isSound_221 : decode cL_isSound 221 = .ok (.invokevirtual 96, 3) := by decide +kernel
theorem dL_isSound_224 : decode cL_isSound 224 = .ok (.iadd, 1) := by decide +kernel
theorem dL_isSound_225 : decode cL_isSound 225 = .ok (.iadd, 1) := by decide +kernel
theorem dL_isSound_226 : decode cL_isSound 226 = .ok (.istore 5, 2) := by decide +kernel
theorem dL_isSound_228 : decode cL_isSound 228 = .ok (.iload 8, 2) := by decide +kernel
theorem dL_isSound_230 : decode cL_isSound 230 = .ok (.ifCond .ne 29, 3) := by decide +kernel
theorem dL_isSound_233 : decode cL_isSound 233 = .ok (.aload_n 0, 1) := by decide +kernel
theorem dL_isSound_234 : decode cL_isSound 234 = .ok (.iload 7, 2) := by decide +kernel
theorem dL_isSound_236 : decode cL_isSound 236 = .ok (.invokevirtual 153, 3) := by decide +kernel
theorem dL_isSound_239 : decode cL_isSound 239 = .ok (.aload_n 0, 1) := by decide +kernel
theorem dL_isSound_240 : decode cL_isSound 240 = .ok (.iload 7, 2) := by decide +kernel
theorem dL_isSound_242 : decode cL_isSound 242 = .ok (.invokevirtual 105, 3) := by decide +kernel
theorem dL_isSound_245 : decode cL_isSound 245 = .ok (.if_icmp .ne 12, 3) := by decide +kernel
theorem dL_isSound_248 : decode cL_isSound 248 = .ok (.aload_n 0, 1) := by decide +kernel
theorem dL_isSound_249 : decode cL_isSound 249 = .ok (.iload 7, 2) := by decide +kernel
theorem dL_isSound_251 : decode cL_isSound 251 = .ok (.invokevirtual 156, 3) := by decide +kernel
theorem dL_isSound_254 : decode cL_isSound 254 = .ok (.ifCond .ge 5, 3) := by decide +kernel
theorem dL_isSound_259 : decode cL_isSound 259 = .ok (.iload 8, 2) := by decide +kernel
theorem dL_isSound_261 : decode cL_isSound 261 = .ok (.iconst 2, 1) := by decide +kernel
theorem dL_isSound_262 : decode cL_isSound 262 = .ok (.if_icmp .eq 10, 3) := by decide +kernel
theorem dL_isSound_265 : decode cL_isSound 265 = .ok (.iload 8, 2) := by decide +kernel
theorem dL_isSound_267 : decode cL_isSound 267 = .ok (.bipush 6, 2) := by decide +kernel
theorem dL_isSound_269 : decode cL_isSound 269 = .ok (.if_icmp .ne 18, 3) := by decide +kernel
theorem dL_isSound_287 : decode cL_isSound 287 = .ok (.iload 8, 2) := by decide +kernel
theorem dL_isSound_289 : decode cL_isSound 289 = .ok (.iconst 1, 1) := by decide +kernel
theorem dL_isSound_290 : decode cL_isSound 290 = .ok (.if_icmp .ne 20, 3) := by decide +kernel
theorem dL_isSound_310 : decode cL_isSound 310 = .ok (.iload 8, 2) := by decide +kernel
theorem dL_isSound_312 : decode cL_isSound 312 = .ok (.bipush 7, 2) := by decide +kernel
theorem dL_isSound_314 : decode cL_isSound 314 = .ok (.if_icmp .ne 66, 3) := by decide +kernel
theorem dL_isSound_380 : decode cL_isSound 380 = .ok (.iload 8, 2) := by decide +kernel
theorem dL_isSound_382 : decode cL_isSound 382 = .ok (.iconst 3, 1) := by decide +kernel
theorem dL_isSound_383 : decode cL_isSound 383 = .ok (.if_icmp .eq 9, 3) := by decide +kernel
theorem dL_isSound_386 : decode cL_isSound 386 = .ok (.iload 8, 2) := by decide +kernel
theorem dL_isSound_388 : decode cL_isSound 388 = .ok (.iconst 4, 1) := by decide +kernel
theorem dL_isSound_389 : decode cL_isSound 389 = .ok (.if_icmp .ne 30, 3) := by decide +kernel
theorem dL_isSound_419 : decode cL_isSound 419 = .ok (.iinc 7 1, 3) := by decide +kernel
theorem dL_isSound_422 : decode cL_isSound 422 = .ok (.goto (-408), 3) := by decide +kernel
theorem dL_isSound_293 : decode cL_isSound 293 = .ok (.aload_n 0, 1) := by decide +kernel
theorem dL_isSound_294 : decode cL_isSound 294 = .ok (.iload 7, 2) := by decide +kernel
theorem dL_isSound_296 : decode cL_isSound 296 = .ok (.invokevirtual 153, 3) := by decide +kernel
theorem dL_isSound_299 : decode cL_isSound 299 = .ok (.aload_n 0, 1) := by decide +kernel
theorem dL_isSound_300 : decode cL_isSound 300 = .ok (.iload 7, 2) := by decide +kernel
theorem dL_isSound_302 : decode cL_isSound 302 = .ok (.invokevirtual 105, 3) := by decide +kernel
theorem dL_isSound_305 : decode cL_isSound 305 = .ok (.if_icmp .le 5, 3) := by decide +kernel
theorem dL_isSound_272 : decode cL_isSound 272 = .ok (.aload_n 0, 1) := by decide +kernel
theorem dL_isSound_273 : decode cL_isSound 273 = .ok (.iload 7, 2) := by decide +kernel
theorem dL_isSound_275 : decode cL_isSound 275 = .ok (.invokevirtual 153, 3) := by decide +kernel
theorem dL_isSound_278 : decode cL_isSound 278 = .ok (.aload_n 0, 1) := by decide +kernel
theorem dL_isSound_279 : decode cL_isSound 279 = .ok (.iload 7, 2) := by decide +kernel
theorem dL_isSound_281 : decode cL_isSound 281 = .ok (.invokevirtual 105, 3) := by decide +kernel
theorem dL_isSound_284 : decode cL_isSound 284 = .ok (.if_icmp .ne 24, 3) := by decide +kernel
theorem dL_isSound_392 : decode cL_isSound 392 = .ok (.aload_n 0, 1) := by decide +kernel
theorem dL_isSound_393 : decode cL_isSound 393 = .ok (.iload 7, 2) := by decide +kernel
theorem dL_isSound_395 : decode cL_isSound 395 = .ok (.invokevirtual 159, 3) := by decide +kernel
theorem dL_isSound_398 : decode cL_isSound 398 = .ok (.iconst (-1), 1) := by decide +kernel
theorem dL_isSound_399 : decode cL_isSound 399 = .ok (.if_icmp .eq 20, 3) := by decide +kernel
theorem dL_isSound_402 : decode cL_isSound 402 = .ok (.aload_n 0, 1) := by decide +kernel
theorem dL_isSound_403 : decode cL_isSound 403 = .ok (.iload 7, 2) := by decide +kernel
theorem dL_isSound_405 : decode cL_isSound 405 = .ok (.invokevirtual 159, 3) := by decide +kernel
theorem dL_isSound_408 : decode cL_isSound 408 = .ok (.aload_n 0, 1) := by decide +kernel
theorem dL_isSound_409 : decode cL_isSound 409 = .ok (.iload 7, 2) := by decide +kernel
theorem dL_isSound_411 : decode cL_isSound 411 = .ok (.invokevirtual 37, 3) := by decide +kernel
theorem dL_isSound_414 : decode cL_isSound 414 = .ok (.if_icmp .gt 5, 3) := by decide +kernel
theorem dL_isSound_317 : decode cL_isSound 317 = .ok (.aload_n 0, 1) := by decide +kernel
theorem dL_isSound_318 : decode cL_isSound 318 = .ok (.iload 7, 2) := by decide +kernel
theorem dL_isSound_320 : decode cL_isSound 320 = .ok (.invokevirtual 71, 3) := by decide +kernel
theorem dL_isSound_323 : decode cL_isSound 323 = .ok (.aload_n 0, 1) := by decide +kernel
theorem dL_isSound_324 : decode cL_isSound 324 = .ok (.iload 7, 2) := by decide +kernel
theorem dL_isSound_326 : decode cL_isSound 326 = .ok (.invokevirtual 105, 3) := by decide +kernel
theorem dL_isSound_329 : decode cL_isSound 329 = .ok (.if_icmp .ne 49, 3) := by decide +kernel
theorem dL_isSound_332 : decode cL_isSound 332 = .ok (.aload_n 0, 1) := by decide +kernel
theorem dL_isSound_333 : decode cL_isSound 333 = .ok (.iload 7, 2) := by decide +kernel
theorem dL_isSound_335 : decode cL_isSound 335 = .ok (.invokevirtual 65, 3) := by decide +kernel
theorem dL_isSound_338 : decode cL_isSound 338 = .ok (.aload_n 0, 1) := by decide +kernel
theorem dL_isSound_339 : decode cL_isSound 339 = .ok (.iload 7, 2) := by decide +kernel
theorem dL_isSound_341 : decode cL_isSound 341 = .ok (.invokevirtual 71, 3) := by decide +kernel
theorem dL_isSound_344 : decode cL_isSound 344 = .ok (.if_icmp .gt 34, 3) := by decide +kernel
theorem dL_isSound_347 : decode cL_isSound 347 = .ok (.aload_n 0, 1) := by decide +kernel
theorem dL_isSound_348 : decode cL_isSound 348 = .ok (.iload 7, 2) := by decide +kernel
theorem dL_isSound_350 : decode cL_isSound 350 = .ok (.invokevirtual 153, 3) := by decide +kernel
theorem dL_isSound_353 : decode cL_isSound 353 = .ok (.ifCond .ne 25, 3) := by decide +kernel
theorem dL_isSound_356 : decode cL_isSound 356 = .ok (.aload_n 0, 1) := by decide +kernel
theorem dL_isSound_357 : decode cL_isSound 357 = .ok (.iload 7, 2) := by decide +kernel
theorem dL_isSound_359 : decode cL_isSound 359 = .ok (.invokevirtual 102, 3) := by decide +kernel
theorem dL_isSound_362 : decode cL_isSound 362 = .ok (.aload_n 0, 1) := by decide +kernel
theorem dL_isSound_363 : decode cL_isSound 363 = .ok (.iload 7, 2) := by decide +kernel
theorem dL_isSound_365 : decode cL_isSound 365 = .ok (.invokevirtual 71, 3) := by decide +kernel
theorem dL_isSound_368 : decode cL_isSound 368 = .ok (.aload_n 0, 1) := by decide +kernel
theorem dL_isSound_369 : decode cL_isSound 369 = .ok (.iload 7, 2) := by decide +kernel
theorem dL_isSound_371 : decode cL_isSound 371 = .ok (.invokevirtual 65, 3) := by decide +kernel
theorem dL_isSound_374 : decode cL_isSound 374 = .ok (.isub, 1) := by decide +kernel
theorem dL_isSound_375 : decode cL_isSound 375 = .ok (.if_icmp .eq 5, 3) := by decide +kernel
theorem dL_isSound_20 : decode cL_isSound 20 = .ok (.iconst 0, 1) := by decide +kernel
theorem dL_isSound_21 : decode cL_isSound 21 = .ok (.istore 8, 2) := by decide +kernel
theorem dL_isSound_14 : decode cL_isSound 14 = .ok (.iload 7, 2) := by decide +kernel
theorem dL_isSound_16 : decode cL_isSound 16 = .ok (.iload_n 1, 1) := by decide +kernel
theorem dL_isSound_17 : decode cL_isSound 17 = .ok (.if_icmp .ge 408, 3) := by decide +kernel
theorem dL_isSound_474 : decode cL_isSound 474 = .ok (.aload_n 0, 1) := by decide +kernel
theorem dL_isSound_475 : decode cL_isSound 475 = .ok (.invokevirtual 162, 3) := by decide +kernel
theorem dL_isSound_478 : decode cL_isSound 478 = .ok (.iload 4, 2) := by decide +kernel
theorem dL_isSound_480 : decode cL_isSound 480 = .ok (.ifCond .ne 7, 3) := by decide +kernel
theorem dL_isSound_487 : decode cL_isSound 487 = .ok (.iload_n 3, 1) := by decide +kernel
theorem dL_isSound_488 : decode cL_isSound 488 = .ok (.i2d, 1) := by decide +kernel
theorem dL_isSound_489 : decode cL_isSound 489 = .ok (.iload 4, 2) := by decide +kernel
theorem dL_isSound_491 : decode cL_isSound 491 = .ok (.i2d, 1) := by decide +kernel
theorem dL_isSound_492 : decode cL_isSound 492 = .ok (.ddiv, 1) := by decide +kernel
theorem dL_isSound_493 : decode cL_isSound 493 = .ok (.dcmp .l, 1) := by decide +kernel
theorem dL_isSound_494 : decode cL_isSound 494 = .ok (.ifCond .ne 7, 3) := by decide +kernel
theorem dL_isSound_497 : decode cL_isSound 497 = .ok (.iconst 1, 1) := by decide +kernel
theorem dL_isSound_498 : decode cL_isSound 498 = .ok (.goto 4, 3) := by decide +kernel
theorem dL_isSound_502 : decode cL_isSound 502 = .ok (.ireturn, 1) := by decide +kernel
theorem dL_isSound_483 : decode cL_isSound 483 = .ok (.dconst 0, 1) := by decide +kernel
theorem dL_isSound_484 : decode cL_isSound 484 = .ok (.goto 9, 3) := by decide +kernel
theorem dL_isSound_425 : decode cL_isSound 425 = .ok (.aload_n 0, 1) := by decide +kernel
theorem dL_isSound_426 : decode cL_isSound 426 = .ok (.invokevirtual 108, 3) := by decide +kernel
theorem dL_isSound_429 : decode cL_isSound 429 = .ok (.iload_n 3, 1) := by decide +kernel
theorem dL_isSound_430 : decode cL_isSound 430 = .ok (.if_icmp .ne 71, 3) := by decide +kernel
theorem dL_isSound_433 : decode cL_isSound 433 = .ok (.iload 5, 2) := by decide +kernel
theorem dL_isSound_435 : decode cL_isSound 435 = .ok (.iload_n 2, 1) := by decide +kernel
theorem dL_isSound_436 : decode cL_isSound 436 = .ok (.if_icmp .ne 65, 3) := by decide +kernel
theorem dL_isSound_439 : decode cL_isSound 439 = .ok (.aload_n 0, 1) := by decide +kernel
theorem dL_isSound_440 : decode cL_isSound 440 = .ok (.invokevirtual 85, 3) := by decide +kernel
theorem dL_isSound_443 : decode cL_isSound 443 = .ok (.ifCond .lt 7, 3) := by decide +kernel
theorem dL_isSound_450 : decode cL_isSound 450 = .ok (.iconst 0, 1) := by decide +kernel
theorem dL_isSound_451 : decode cL_isSound 451 = .ok (.iload 6, 2) := by decide +kernel
theorem dL_isSound_453 : decode cL_isSound 453 = .ok (.if_icmp .ne 48, 3) := by decide +kernel
theorem dL_isSound_456 : decode cL_isSound 456 = .ok (.aload_n 0, 1) := by decide +kernel
theorem dL_isSound_457 : decode cL_isSound 457 = .ok (.invokevirtual 85, 3) := by decide +kernel
theorem dL_isSound_460 : decode cL_isSound 460 = .ok (.ifCond .lt 14, 3) := by decide +kernel
theorem dL_isSound_446 : decode cL_isSound 446 = .ok (.iconst 1, 1) := by decide +kernel
theorem dL_isSound_447 : decode cL_isSound 447 = .ok (.goto 4, 3) := by decide +kernel
theorem dL_isSound_463 : decode cL_isSound 463 = .ok (.aload_n 0, 1) := by decide +kernel
theorem dL_isSound_464 : decode cL_isSound 464 = .ok (.aload_n 0, 1) := by decide +kernel
theorem dL_isSound_465 : decode cL_isSound 465 = .ok (.invokevirtual 85, 3) := by decide +kernel
theorem dL_isSound_468 : decode cL_isSound 468 = .ok (.invokevirtual 99, 3) := by decide +kernel
theorem dL_isSound_471 : decode cL_isSound 471 = .ok (.ifCond .eq 30, 3) := by decide +kernel
theorem dL_isSound_0 : decode cL_isSound 0 = .ok (.iconst 0, 1) := by decide +kernel
theorem dL_isSound_1 : decode cL_isSound 1 = .ok (.istore_n 3, 1) := by decide +kernel
theorem dL_isSound_2 : decode cL_isSound 2 = .ok (.iconst 0, 1) := by decide +kernel
theorem dL_isSound_3 : decode cL_isSound 3 = .ok (.istore 4, 2) := by decide +kernel
theorem dL_isSound_5 : decode cL_isSound 5 = .ok (.iconst 0, 1) := by decide +kernel
theorem dL_isSound_6 : decode cL_isSound 6 = .ok (.istore 5, 2) := by decide +kernel
theorem dL_isSound_8 : decode cL_isSound 8 = .ok (.iconst 0, 1) := by decide +kernel
theorem dL_isSound_9 : decode cL_isSound 9 = .ok (.istore 6, 2) := by decide +kernel
theorem dL_isSound_11 : decode cL_isSound 11 = .ok (.iconst 0, 1) := by decide +kernel
theorem dL_isSound_12 : decode cL_isSound 12 = .ok (.istore 7, 2) := by decide +kernel
