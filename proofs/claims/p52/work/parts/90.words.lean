theorem wq0 : (Jvm.Cond.initialized "WeirStreamLaw") ∈ lw_all := lw_in (lw_tb (List.mem_of_getElem? (i := 0) (by decide +kernel))) rfl
theorem wq627 : (Jvm.Cond.methodLink "WeirStreamLaw" (62 : Nat) ({ cls := "WeirStream", name := "sortOf", desc := "(I)I" } : Jvm.MethodName)) ∈ lw_all := lw_in (lw_tb (List.mem_of_getElem? (i := 627) (by decide +kernel))) rfl
theorem wq794 : (Jvm.Cond.methodLink "WeirStreamLaw" (18 : Nat) ({ cls := "WeirStreamLaw", name := "below", desc := "(II)I" } : Jvm.MethodName)) ∈ lw_all := lw_in (lw_tb (List.mem_of_getElem? (i := 794) (by decide +kernel))) rfl
theorem wq795 : (Jvm.Cond.static ({ cls := "WeirStreamLaw", name := "below", desc := "(II)I" } : Jvm.MethodName)) ∈ lw_all := lw_in (lw_tb (List.mem_of_getElem? (i := 795) (by decide +kernel))) rfl
theorem wq796 : (Jvm.Cond.code ({ cls := "WeirStreamLaw", name := "below", desc := "(II)I" } : Jvm.MethodName) method_2_code (2 : Nat) (Option.some Jvm.ClassFile.FieldType.int)) ∈ lw_all := lw_in (lw_tb (List.mem_of_getElem? (i := 796) (by decide +kernel))) rfl
theorem wq816 : (Jvm.Cond.methodLink "WeirStreamLaw" (114 : Nat) ({ cls := "WeirStream", name := "addSource", desc := "(I)I" } : Jvm.MethodName)) ∈ lw_all := lw_in (lw_tb (List.mem_of_getElem? (i := 816) (by decide +kernel))) rfl
theorem wq817 : (Jvm.Cond.instanceMethod ({ cls := "WeirStream", name := "addSource", desc := "(I)I" } : Jvm.MethodName)) ∈ lw_all := lw_in (lw_tb (List.mem_of_getElem? (i := 817) (by decide +kernel))) rfl
theorem wq818 : (Jvm.Cond.selects "WeirStream" ({ cls := "WeirStream", name := "addSource", desc := "(I)I" } : Jvm.MethodName) ({ cls := "WeirStream", name := "addSource", desc := "(I)I" } : Jvm.MethodName)) ∈ lw_all := lw_in (lw_tb (List.mem_of_getElem? (i := 818) (by decide +kernel))) rfl
theorem wq819 : (Jvm.Cond.code ({ cls := "WeirStream", name := "addSource", desc := "(I)I" } : Jvm.MethodName) prog_1_method_2_code (3 : Nat) (Option.some Jvm.ClassFile.FieldType.int)) ∈ lw_all := lw_in (lw_tb (List.mem_of_getElem? (i := 819) (by decide +kernel))) rfl
theorem wq1155 : (Jvm.Cond.methodLink "WeirStreamLaw" (117 : Nat) ({ cls := "WeirStream", name := "addMap", desc := "(III)I" } : Jvm.MethodName)) ∈ lw_all := lw_in (lw_tb (List.mem_of_getElem? (i := 1155) (by decide +kernel))) rfl
theorem wq1156 : (Jvm.Cond.instanceMethod ({ cls := "WeirStream", name := "addMap", desc := "(III)I" } : Jvm.MethodName)) ∈ lw_all := lw_in (lw_tb (List.mem_of_getElem? (i := 1156) (by decide +kernel))) rfl
theorem wq1157 : (Jvm.Cond.selects "WeirStream" ({ cls := "WeirStream", name := "addMap", desc := "(III)I" } : Jvm.MethodName) ({ cls := "WeirStream", name := "addMap", desc := "(III)I" } : Jvm.MethodName)) ∈ lw_all := lw_in (lw_tb (List.mem_of_getElem? (i := 1157) (by decide +kernel))) rfl
theorem wq1158 : (Jvm.Cond.code ({ cls := "WeirStream", name := "addMap", desc := "(III)I" } : Jvm.MethodName) prog_1_method_4_code (6 : Nat) (Option.some Jvm.ClassFile.FieldType.int)) ∈ lw_all := lw_in (lw_tb (List.mem_of_getElem? (i := 1158) (by decide +kernel))) rfl
theorem wq1159 : (Jvm.Cond.methodLink "WeirStreamLaw" (121 : Nat) ({ cls := "WeirStream", name := "addWindow", desc := "(IIIII)I" } : Jvm.MethodName)) ∈ lw_all := lw_in (lw_tb (List.mem_of_getElem? (i := 1159) (by decide +kernel))) rfl
theorem wq1160 : (Jvm.Cond.instanceMethod ({ cls := "WeirStream", name := "addWindow", desc := "(IIIII)I" } : Jvm.MethodName)) ∈ lw_all := lw_in (lw_tb (List.mem_of_getElem? (i := 1160) (by decide +kernel))) rfl
theorem wq1161 : (Jvm.Cond.selects "WeirStream" ({ cls := "WeirStream", name := "addWindow", desc := "(IIIII)I" } : Jvm.MethodName) ({ cls := "WeirStream", name := "addWindow", desc := "(IIIII)I" } : Jvm.MethodName)) ∈ lw_all := lw_in (lw_tb (List.mem_of_getElem? (i := 1161) (by decide +kernel))) rfl
theorem wq1162 : (Jvm.Cond.code ({ cls := "WeirStream", name := "addWindow", desc := "(IIIII)I" } : Jvm.MethodName) prog_1_method_5_code (8 : Nat) (Option.some Jvm.ClassFile.FieldType.int)) ∈ lw_all := lw_in (lw_tb (List.mem_of_getElem? (i := 1162) (by decide +kernel))) rfl
theorem wq1163 : (Jvm.Cond.methodLink "WeirStreamLaw" (125 : Nat) ({ cls := "WeirStream", name := "addSession", desc := "(III)I" } : Jvm.MethodName)) ∈ lw_all := lw_in (lw_tb (List.mem_of_getElem? (i := 1163) (by decide +kernel))) rfl
theorem wq1164 : (Jvm.Cond.instanceMethod ({ cls := "WeirStream", name := "addSession", desc := "(III)I" } : Jvm.MethodName)) ∈ lw_all := lw_in (lw_tb (List.mem_of_getElem? (i := 1164) (by decide +kernel))) rfl
theorem wq1165 : (Jvm.Cond.selects "WeirStream" ({ cls := "WeirStream", name := "addSession", desc := "(III)I" } : Jvm.MethodName) ({ cls := "WeirStream", name := "addSession", desc := "(III)I" } : Jvm.MethodName)) ∈ lw_all := lw_in (lw_tb (List.mem_of_getElem? (i := 1165) (by decide +kernel))) rfl
theorem wq1166 : (Jvm.Cond.code ({ cls := "WeirStream", name := "addSession", desc := "(III)I" } : Jvm.MethodName) prog_1_method_6_code (6 : Nat) (Option.some Jvm.ClassFile.FieldType.int)) ∈ lw_all := lw_in (lw_tb (List.mem_of_getElem? (i := 1166) (by decide +kernel))) rfl
theorem wq1167 : (Jvm.Cond.constant "WeirStreamLaw" (130 : Nat) (-2147483648 : Int32)) ∈ lw_all := lw_in (lw_tb (List.mem_of_getElem? (i := 1167) (by decide +kernel))) rfl
theorem wq1168 : (Jvm.Cond.methodLink "WeirStreamLaw" (131 : Nat) ({ cls := "WeirStream", name := "addFilter", desc := "(III)I" } : Jvm.MethodName)) ∈ lw_all := lw_in (lw_tb (List.mem_of_getElem? (i := 1168) (by decide +kernel))) rfl
theorem wq1169 : (Jvm.Cond.instanceMethod ({ cls := "WeirStream", name := "addFilter", desc := "(III)I" } : Jvm.MethodName)) ∈ lw_all := lw_in (lw_tb (List.mem_of_getElem? (i := 1169) (by decide +kernel))) rfl
theorem wq1170 : (Jvm.Cond.selects "WeirStream" ({ cls := "WeirStream", name := "addFilter", desc := "(III)I" } : Jvm.MethodName) ({ cls := "WeirStream", name := "addFilter", desc := "(III)I" } : Jvm.MethodName)) ∈ lw_all := lw_in (lw_tb (List.mem_of_getElem? (i := 1170) (by decide +kernel))) rfl
theorem wq1171 : (Jvm.Cond.code ({ cls := "WeirStream", name := "addFilter", desc := "(III)I" } : Jvm.MethodName) prog_1_method_3_code (6 : Nat) (Option.some Jvm.ClassFile.FieldType.int)) ∈ lw_all := lw_in (lw_tb (List.mem_of_getElem? (i := 1171) (by decide +kernel))) rfl
theorem wq1172 : (Jvm.Cond.methodLink "WeirStreamLaw" (134 : Nat) ({ cls := "WeirStream", name := "addJoin", desc := "(IIIII)I" } : Jvm.MethodName)) ∈ lw_all := lw_in (lw_tb (List.mem_of_getElem? (i := 1172) (by decide +kernel))) rfl
theorem wq1173 : (Jvm.Cond.instanceMethod ({ cls := "WeirStream", name := "addJoin", desc := "(IIIII)I" } : Jvm.MethodName)) ∈ lw_all := lw_in (lw_tb (List.mem_of_getElem? (i := 1173) (by decide +kernel))) rfl
theorem wq1174 : (Jvm.Cond.selects "WeirStream" ({ cls := "WeirStream", name := "addJoin", desc := "(IIIII)I" } : Jvm.MethodName) ({ cls := "WeirStream", name := "addJoin", desc := "(IIIII)I" } : Jvm.MethodName)) ∈ lw_all := lw_in (lw_tb (List.mem_of_getElem? (i := 1174) (by decide +kernel))) rfl
theorem wq1175 : (Jvm.Cond.code ({ cls := "WeirStream", name := "addJoin", desc := "(IIIII)I" } : Jvm.MethodName) prog_1_method_7_code (9 : Nat) (Option.some Jvm.ClassFile.FieldType.int)) ∈ lw_all := lw_in (lw_tb (List.mem_of_getElem? (i := 1175) (by decide +kernel))) rfl
theorem wq1176 : (Jvm.Cond.methodLink "WeirStreamLaw" (137 : Nat) ({ cls := "WeirStream", name := "addMerge", desc := "(II)I" } : Jvm.MethodName)) ∈ lw_all := lw_in (lw_tb (List.mem_of_getElem? (i := 1176) (by decide +kernel))) rfl
theorem wq1177 : (Jvm.Cond.instanceMethod ({ cls := "WeirStream", name := "addMerge", desc := "(II)I" } : Jvm.MethodName)) ∈ lw_all := lw_in (lw_tb (List.mem_of_getElem? (i := 1177) (by decide +kernel))) rfl
theorem wq1178 : (Jvm.Cond.selects "WeirStream" ({ cls := "WeirStream", name := "addMerge", desc := "(II)I" } : Jvm.MethodName) ({ cls := "WeirStream", name := "addMerge", desc := "(II)I" } : Jvm.MethodName)) ∈ lw_all := lw_in (lw_tb (List.mem_of_getElem? (i := 1178) (by decide +kernel))) rfl
theorem wq1179 : (Jvm.Cond.code ({ cls := "WeirStream", name := "addMerge", desc := "(II)I" } : Jvm.MethodName) prog_1_method_8_code (5 : Nat) (Option.some Jvm.ClassFile.FieldType.int)) ∈ lw_all := lw_in (lw_tb (List.mem_of_getElem? (i := 1179) (by decide +kernel))) rfl
theorem wq1180 : (Jvm.Cond.methodLink "WeirStreamLaw" (140 : Nat) ({ cls := "WeirStream", name := "addSink", desc := "(I)I" } : Jvm.MethodName)) ∈ lw_all := lw_in (lw_tb (List.mem_of_getElem? (i := 1180) (by decide +kernel))) rfl
theorem wq1181 : (Jvm.Cond.instanceMethod ({ cls := "WeirStream", name := "addSink", desc := "(I)I" } : Jvm.MethodName)) ∈ lw_all := lw_in (lw_tb (List.mem_of_getElem? (i := 1181) (by decide +kernel))) rfl
theorem wq1182 : (Jvm.Cond.selects "WeirStream" ({ cls := "WeirStream", name := "addSink", desc := "(I)I" } : Jvm.MethodName) ({ cls := "WeirStream", name := "addSink", desc := "(I)I" } : Jvm.MethodName)) ∈ lw_all := lw_in (lw_tb (List.mem_of_getElem? (i := 1182) (by decide +kernel))) rfl
theorem wq1183 : (Jvm.Cond.code ({ cls := "WeirStream", name := "addSink", desc := "(I)I" } : Jvm.MethodName) prog_1_method_9_code (3 : Nat) (Option.some Jvm.ClassFile.FieldType.int)) ∈ lw_all := lw_in (lw_tb (List.mem_of_getElem? (i := 1183) (by decide +kernel))) rfl
theorem dL_add_61 : decode cL_add 61 = .ok (.aload_n 0, 1) := by decide +kernel
theorem dL_add_62 : decode cL_add 62 = .ok (.iload_n 3, 1) := by decide +kernel
theorem dL_add_63 : decode cL_add 63 = .ok (.invokevirtual 62, 3) := by decide +kernel
theorem dL_add_66 : decode cL_add 66 = .ok (.bipush 7, 2) := by decide +kernel
theorem dL_add_68 : decode cL_add 68 = .ok (.if_icmp .ne 9, 3) := by decide +kernel
theorem dL_add_71 : decode cL_add 71 = .ok (.iinc 3 (-1), 3) := by decide +kernel
theorem dL_add_74 : decode cL_add 74 = .ok (.goto (-13), 3) := by decide +kernel
theorem dL_add_77 : decode cL_add 77 = .ok (.aload_n 0, 1) := by decide +kernel
theorem dL_add_78 : decode cL_add 78 = .ok (.iload 4, 2) := by decide +kernel
theorem dL_add_80 : decode cL_add 80 = .ok (.invokevirtual 62, 3) := by decide +kernel
theorem dL_add_83 : decode cL_add 83 = .ok (.bipush 7, 2) := by decide +kernel
theorem dL_add_85 : decode cL_add 85 = .ok (.if_icmp .ne 9, 3) := by decide +kernel
theorem dL_add_88 : decode cL_add 88 = .ok (.iinc 4 (-1), 3) := by decide +kernel
theorem dL_add_91 : decode cL_add 91 = .ok (.goto (-14), 3) := by decide +kernel
theorem dL_add_47 : decode cL_add 47 = .ok (.aload_n 0, 1) := by decide +kernel
theorem dL_add_48 : decode cL_add 48 = .ok (.iload_n 2, 1) := by decide +kernel
theorem dL_add_49 : decode cL_add 49 = .ok (.iconst 3, 1) := by decide +kernel
theorem dL_add_50 : decode cL_add 50 = .ok (.ishr, 1) := by decide +kernel
theorem dL_add_51 : decode cL_add 51 = .ok (.bipush 40, 2) := by decide +kernel
theorem dL_add_53 : decode cL_add 53 = .ok (.invokestatic 18, 3) := by decide +kernel
theorem dL_add_56 : decode cL_add 56 = .ok (.invokevirtual 114, 3) := by decide +kernel
theorem dL_add_59 : decode cL_add 59 = .ok (.pop, 1) := by decide +kernel
theorem dL_add_60 : decode cL_add 60 = .ok (.return_, 1) := by decide +kernel
theorem dL_add_94 : decode cL_add 94 = .ok (.iload_n 2, 1) := by decide +kernel
theorem dL_add_95 : decode cL_add 95 = .ok (.bipush 7, 2) := by decide +kernel
theorem dL_add_97 : decode cL_add 97 = .ok (.invokestatic 18, 3) := by decide +kernel
theorem dL_add_100 : decode cL_add 100 = .ok (.tableswitch 213 1 5 #[36, 63, 104, 131, 184], 36) := by decide +kernel
theorem dL_add_313 : decode cL_add 313 = .ok (.aload_n 0, 1) := by decide +kernel
theorem dL_add_314 : decode cL_add 314 = .ok (.iload_n 3, 1) := by decide +kernel
theorem dL_add_315 : decode cL_add 315 = .ok (.invokevirtual 140, 3) := by decide +kernel
theorem dL_add_318 : decode cL_add 318 = .ok (.pop, 1) := by decide +kernel
theorem dL_add_319 : decode cL_add 319 = .ok (.return_, 1) := by decide +kernel
theorem dL_add_136 : decode cL_add 136 = .ok (.aload_n 0, 1) := by decide +kernel
theorem dL_add_137 : decode cL_add 137 = .ok (.iload_n 3, 1) := by decide +kernel
theorem dL_add_138 : decode cL_add 138 = .ok (.iload_n 2, 1) := by decide +kernel
theorem dL_add_139 : decode cL_add 139 = .ok (.iconst 3, 1) := by decide +kernel
theorem dL_add_140 : decode cL_add 140 = .ok (.ishr, 1) := by decide +kernel
theorem dL_add_141 : decode cL_add 141 = .ok (.iconst 4, 1) := by decide +kernel
theorem dL_add_142 : decode cL_add 142 = .ok (.invokestatic 18, 3) := by decide +kernel
theorem dL_add_145 : decode cL_add 145 = .ok (.iconst 1, 1) := by decide +kernel
theorem dL_add_146 : decode cL_add 146 = .ok (.iload_n 2, 1) := by decide +kernel
theorem dL_add_147 : decode cL_add 147 = .ok (.bipush 6, 2) := by decide +kernel
theorem dL_add_149 : decode cL_add 149 = .ok (.ishr, 1) := by decide +kernel
theorem dL_add_150 : decode cL_add 150 = .ok (.bipush 9, 2) := by decide +kernel
theorem dL_add_152 : decode cL_add 152 = .ok (.invokestatic 18, 3) := by decide +kernel
theorem dL_add_155 : decode cL_add 155 = .ok (.iadd, 1) := by decide +kernel
theorem dL_add_156 : decode cL_add 156 = .ok (.invokevirtual 117, 3) := by decide +kernel
theorem dL_add_159 : decode cL_add 159 = .ok (.pop, 1) := by decide +kernel
theorem dL_add_160 : decode cL_add 160 = .ok (.goto 159, 3) := by decide +kernel
theorem dL_add_163 : decode cL_add 163 = .ok (.aload_n 0, 1) := by decide +kernel
theorem dL_add_164 : decode cL_add 164 = .ok (.iload_n 3, 1) := by decide +kernel
theorem dL_add_165 : decode cL_add 165 = .ok (.bipush 12, 2) := by decide +kernel
theorem dL_add_167 : decode cL_add 167 = .ok (.iconst 1, 1) := by decide +kernel
theorem dL_add_168 : decode cL_add 168 = .ok (.iload_n 2, 1) := by decide +kernel
theorem dL_add_169 : decode cL_add 169 = .ok (.iconst 3, 1) := by decide +kernel
theorem dL_add_170 : decode cL_add 170 = .ok (.ishr, 1) := by decide +kernel
theorem dL_add_171 : decode cL_add 171 = .ok (.iconst 2, 1) := by decide +kernel
theorem dL_add_172 : decode cL_add 172 = .ok (.invokestatic 18, 3) := by decide +kernel
theorem dL_add_175 : decode cL_add 175 = .ok (.iconst 3, 1) := by decide +kernel
theorem dL_add_176 : decode cL_add 176 = .ok (.imul, 1) := by decide +kernel
theorem dL_add_177 : decode cL_add 177 = .ok (.iadd, 1) := by decide +kernel
theorem dL_add_178 : decode cL_add 178 = .ok (.iconst 1, 1) := by decide +kernel
theorem dL_add_179 : decode cL_add 179 = .ok (.iadd, 1) := by decide +kernel
theorem dL_add_180 : decode cL_add 180 = .ok (.iload_n 2, 1) := by decide +kernel
theorem dL_add_181 : decode cL_add 181 = .ok (.iconst 5, 1) := by decide +kernel
theorem dL_add_182 : decode cL_add 182 = .ok (.ishr, 1) := by decide +kernel
theorem dL_add_183 : decode cL_add 183 = .ok (.bipush 6, 2) := by decide +kernel
theorem dL_add_185 : decode cL_add 185 = .ok (.invokestatic 18, 3) := by decide +kernel
theorem dL_add_188 : decode cL_add 188 = .ok (.iload_n 2, 1) := by decide +kernel
theorem dL_add_189 : decode cL_add 189 = .ok (.bipush 7, 2) := by decide +kernel
theorem dL_add_191 : decode cL_add 191 = .ok (.ishr, 1) := by decide +kernel
theorem dL_add_192 : decode cL_add 192 = .ok (.bipush 20, 2) := by decide +kernel
theorem dL_add_194 : decode cL_add 194 = .ok (.invokestatic 18, 3) := by decide +kernel
theorem dL_add_197 : decode cL_add 197 = .ok (.invokevirtual 121, 3) := by decide +kernel
theorem dL_add_200 : decode cL_add 200 = .ok (.pop, 1) := by decide +kernel
theorem dL_add_201 : decode cL_add 201 = .ok (.goto 118, 3) := by decide +kernel
theorem dL_add_204 : decode cL_add 204 = .ok (.aload_n 0, 1) := by decide +kernel
theorem dL_add_205 : decode cL_add 205 = .ok (.iload_n 3, 1) := by decide +kernel
theorem dL_add_206 : decode cL_add 206 = .ok (.iconst 1, 1) := by decide +kernel
theorem dL_add_207 : decode cL_add 207 = .ok (.iload_n 2, 1) := by decide +kernel
theorem dL_add_208 : decode cL_add 208 = .ok (.iconst 3, 1) := by decide +kernel
theorem dL_add_209 : decode cL_add 209 = .ok (.ishr, 1) := by decide +kernel
theorem dL_add_210 : decode cL_add 210 = .ok (.bipush 20, 2) := by decide +kernel
theorem dL_add_212 : decode cL_add 212 = .ok (.invokestatic 18, 3) := by decide +kernel
theorem dL_add_215 : decode cL_add 215 = .ok (.iadd, 1) := by decide +kernel
theorem dL_add_216 : decode cL_add 216 = .ok (.iload_n 2, 1) := by decide +kernel
theorem dL_add_217 : decode cL_add 217 = .ok (.iconst 5, 1) := by decide +kernel
theorem dL_add_218 : decode cL_add 218 = .ok (.ishr, 1) := by decide +kernel
theorem dL_add_219 : decode cL_add 219 = .ok (.bipush 6, 2) := by decide +kernel
theorem dL_add_221 : decode cL_add 221 = .ok (.invokestatic 18, 3) := by decide +kernel
theorem dL_add_224 : decode cL_add 224 = .ok (.invokevirtual 125, 3) := by decide +kernel
theorem dL_add_227 : decode cL_add 227 = .ok (.pop, 1) := by decide +kernel
theorem dL_add_228 : decode cL_add 228 = .ok (.goto 91, 3) := by decide +kernel
theorem dL_add_231 : decode cL_add 231 = .ok (.iload_n 3, 1) := by decide +kernel
theorem dL_add_232 : decode cL_add 232 = .ok (.iload 4, 2) := by decide +kernel
theorem dL_add_234 : decode cL_add 234 = .ok (.if_icmp .ne 15, 3) := by decide +kernel
theorem dL_add_237 : decode cL_add 237 = .ok (.aload_n 0, 1) := by decide +kernel
theorem dL_add_238 : decode cL_add 238 = .ok (.iload_n 3, 1) := by decide +kernel
theorem dL_add_239 : decode cL_add 239 = .ok (.iconst 0, 1) := by decide +kernel
theorem dL_add_240 : decode cL_add 240 = .ok (.ldc 130, 2) := by decide +kernel
theorem dL_add_242 : decode cL_add 242 = .ok (.invokevirtual 131, 3) := by decide +kernel
theorem dL_add_245 : decode cL_add 245 = .ok (.pop, 1) := by decide +kernel
theorem dL_add_246 : decode cL_add 246 = .ok (.goto 73, 3) := by decide +kernel
theorem dL_add_249 : decode cL_add 249 = .ok (.aload_n 0, 1) := by decide +kernel
theorem dL_add_250 : decode cL_add 250 = .ok (.iload_n 3, 1) := by decide +kernel
theorem dL_add_251 : decode cL_add 251 = .ok (.iload 4, 2) := by decide +kernel
theorem dL_add_253 : decode cL_add 253 = .ok (.iload_n 2, 1) := by decide +kernel
theorem dL_add_254 : decode cL_add 254 = .ok (.iconst 3, 1) := by decide +kernel
theorem dL_add_255 : decode cL_add 255 = .ok (.ishr, 1) := by decide +kernel
theorem dL_add_256 : decode cL_add 256 = .ok (.bipush 9, 2) := by decide +kernel
theorem dL_add_258 : decode cL_add 258 = .ok (.invokestatic 18, 3) := by decide +kernel
theorem dL_add_261 : decode cL_add 261 = .ok (.iload_n 2, 1) := by decide +kernel
theorem dL_add_262 : decode cL_add 262 = .ok (.iconst 5, 1) := by decide +kernel
theorem dL_add_263 : decode cL_add 263 = .ok (.ishr, 1) := by decide +kernel
theorem dL_add_264 : decode cL_add 264 = .ok (.bipush 9, 2) := by decide +kernel
theorem dL_add_266 : decode cL_add 266 = .ok (.invokestatic 18, 3) := by decide +kernel
theorem dL_add_269 : decode cL_add 269 = .ok (.iload_n 2, 1) := by decide +kernel
theorem dL_add_270 : decode cL_add 270 = .ok (.bipush 7, 2) := by decide +kernel
theorem dL_add_272 : decode cL_add 272 = .ok (.ishr, 1) := by decide +kernel
theorem dL_add_273 : decode cL_add 273 = .ok (.iconst 4, 1) := by decide +kernel
theorem dL_add_274 : decode cL_add 274 = .ok (.invokestatic 18, 3) := by decide +kernel
theorem dL_add_277 : decode cL_add 277 = .ok (.invokevirtual 134, 3) := by decide +kernel
theorem dL_add_280 : decode cL_add 280 = .ok (.pop, 1) := by decide +kernel
theorem dL_add_281 : decode cL_add 281 = .ok (.goto 38, 3) := by decide +kernel
theorem dL_add_284 : decode cL_add 284 = .ok (.iload_n 3, 1) := by decide +kernel
theorem dL_add_285 : decode cL_add 285 = .ok (.iload 4, 2) := by decide +kernel
theorem dL_add_287 : decode cL_add 287 = .ok (.if_icmp .ne 15, 3) := by decide +kernel
theorem dL_add_290 : decode cL_add 290 = .ok (.aload_n 0, 1) := by decide +kernel
theorem dL_add_291 : decode cL_add 291 = .ok (.iload_n 3, 1) := by decide +kernel
theorem dL_add_292 : decode cL_add 292 = .ok (.iconst 0, 1) := by decide +kernel
theorem dL_add_293 : decode cL_add 293 = .ok (.ldc 130, 2) := by decide +kernel
theorem dL_add_295 : decode cL_add 295 = .ok (.invokevirtual 131, 3) := by decide +kernel
theorem dL_add_298 : decode cL_add 298 = .ok (.pop, 1) := by decide +kernel
theorem dL_add_299 : decode cL_add 299 = .ok (.goto 20, 3) := by decide +kernel
theorem dL_add_302 : decode cL_add 302 = .ok (.aload_n 0, 1) := by decide +kernel
theorem dL_add_303 : decode cL_add 303 = .ok (.iload_n 3, 1) := by decide +kernel
theorem dL_add_304 : decode cL_add 304 = .ok (.iload 4, 2) := by decide +kernel
theorem dL_add_306 : decode cL_add 306 = .ok (.invokevirtual 137, 3) := by decide +kernel
theorem dL_add_309 : decode cL_add 309 = .ok (.pop, 1) := by decide +kernel
theorem dL_add_310 : decode cL_add 310 = .ok (.goto 9, 3) := by decide +kernel
theorem dL_add_0 : decode cL_add 0 = .ok (.iload_n 1, 1) := by decide +kernel
theorem dL_add_1 : decode cL_add 1 = .ok (.ifCond .ne 7, 3) := by decide +kernel
theorem dL_add_4 : decode cL_add 4 = .ok (.iconst 0, 1) := by decide +kernel
theorem dL_add_5 : decode cL_add 5 = .ok (.goto 10, 3) := by decide +kernel
theorem dL_add_15 : decode cL_add 15 = .ok (.istore_n 3, 1) := by decide +kernel
theorem dL_add_16 : decode cL_add 16 = .ok (.iload_n 1, 1) := by decide +kernel
theorem dL_add_17 : decode cL_add 17 = .ok (.ifCond .ne 7, 3) := by decide +kernel
theorem dL_add_20 : decode cL_add 20 = .ok (.iconst 0, 1) := by decide +kernel
theorem dL_add_21 : decode cL_add 21 = .ok (.goto 11, 3) := by decide +kernel
theorem dL_add_32 : decode cL_add 32 = .ok (.istore 4, 2) := by decide +kernel
theorem dL_add_34 : decode cL_add 34 = .ok (.iload_n 1, 1) := by decide +kernel
theorem dL_add_35 : decode cL_add 35 = .ok (.ifCond .eq 12, 3) := by decide +kernel
theorem dL_add_8 : decode cL_add 8 = .ok (.iload_n 2, 1) := by decide +kernel
theorem dL_add_9 : decode cL_add 9 = .ok (.iconst 4, 1) := by decide +kernel
theorem dL_add_10 : decode cL_add 10 = .ok (.ishr, 1) := by decide +kernel
theorem dL_add_11 : decode cL_add 11 = .ok (.iload_n 1, 1) := by decide +kernel
theorem dL_add_12 : decode cL_add 12 = .ok (.invokestatic 18, 3) := by decide +kernel
theorem dL_add_24 : decode cL_add 24 = .ok (.iload_n 2, 1) := by decide +kernel
theorem dL_add_25 : decode cL_add 25 = .ok (.bipush 8, 2) := by decide +kernel
theorem dL_add_27 : decode cL_add 27 = .ok (.ishr, 1) := by decide +kernel
theorem dL_add_28 : decode cL_add 28 = .ok (.iload_n 1, 1) := by decide +kernel
theorem dL_add_29 : decode cL_add 29 = .ok (.invokestatic 18, 3) := by decide +kernel
theorem dL_add_38 : decode cL_add 38 = .ok (.iload_n 2, 1) := by decide +kernel
theorem dL_add_39 : decode cL_add 39 = .ok (.bipush 7, 2) := by decide +kernel
theorem dL_add_41 : decode cL_add 41 = .ok (.invokestatic 18, 3) := by decide +kernel
theorem dL_add_44 : decode cL_add 44 = .ok (.ifCond .ne 17, 3) := by decide +kernel
