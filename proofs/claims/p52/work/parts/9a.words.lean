theorem wq269 : (Jvm.Cond.methodLink "WeirStreamLaw" (49 : Nat) ({ cls := "WeirStream", name := "work", desc := "(I)I" } : Jvm.MethodName)) ∈ lw_all := lw_in (lw_tb (List.mem_of_getElem? (i := 269) (by decide +kernel))) rfl
theorem wq270 : (Jvm.Cond.instanceMethod ({ cls := "WeirStream", name := "work", desc := "(I)I" } : Jvm.MethodName)) ∈ lw_all := lw_in (lw_tb (List.mem_of_getElem? (i := 270) (by decide +kernel))) rfl
theorem wq271 : (Jvm.Cond.selects "WeirStream" ({ cls := "WeirStream", name := "work", desc := "(I)I" } : Jvm.MethodName) ({ cls := "WeirStream", name := "work", desc := "(I)I" } : Jvm.MethodName)) ∈ lw_all := lw_in (lw_tb (List.mem_of_getElem? (i := 271) (by decide +kernel))) rfl
theorem wq272 : (Jvm.Cond.code ({ cls := "WeirStream", name := "work", desc := "(I)I" } : Jvm.MethodName) prog_1_method_14_code (3 : Nat) (Option.some Jvm.ClassFile.FieldType.int)) ∈ lw_all := lw_in (lw_tb (List.mem_of_getElem? (i := 272) (by decide +kernel))) rfl
theorem wq588 : (Jvm.Cond.methodLink "WeirStreamLaw" (52 : Nat) ({ cls := "WeirStream", name := "workAt", desc := "(I)Z" } : Jvm.MethodName)) ∈ lw_all := lw_in (lw_tb (List.mem_of_getElem? (i := 588) (by decide +kernel))) rfl
theorem wq589 : (Jvm.Cond.instanceMethod ({ cls := "WeirStream", name := "workAt", desc := "(I)Z" } : Jvm.MethodName)) ∈ lw_all := lw_in (lw_tb (List.mem_of_getElem? (i := 589) (by decide +kernel))) rfl
theorem wq590 : (Jvm.Cond.selects "WeirStream" ({ cls := "WeirStream", name := "workAt", desc := "(I)Z" } : Jvm.MethodName) ({ cls := "WeirStream", name := "workAt", desc := "(I)Z" } : Jvm.MethodName)) ∈ lw_all := lw_in (lw_tb (List.mem_of_getElem? (i := 590) (by decide +kernel))) rfl
theorem wq591 : (Jvm.Cond.code ({ cls := "WeirStream", name := "workAt", desc := "(I)Z" } : Jvm.MethodName) prog_1_method_15_code (3 : Nat) (Option.some Jvm.ClassFile.FieldType.boolean)) ∈ lw_all := lw_in (lw_tb (List.mem_of_getElem? (i := 591) (by decide +kernel))) rfl
theorem wq593 : (Jvm.Cond.methodLink "WeirStreamLaw" (59 : Nat) ({ cls := "WeirStream", name := "checkpoint", desc := "()I" } : Jvm.MethodName)) ∈ lw_all := lw_in (lw_tb (List.mem_of_getElem? (i := 593) (by decide +kernel))) rfl
theorem wq594 : (Jvm.Cond.instanceMethod ({ cls := "WeirStream", name := "checkpoint", desc := "()I" } : Jvm.MethodName)) ∈ lw_all := lw_in (lw_tb (List.mem_of_getElem? (i := 594) (by decide +kernel))) rfl
theorem wq595 : (Jvm.Cond.selects "WeirStream" ({ cls := "WeirStream", name := "checkpoint", desc := "()I" } : Jvm.MethodName) ({ cls := "WeirStream", name := "checkpoint", desc := "()I" } : Jvm.MethodName)) ∈ lw_all := lw_in (lw_tb (List.mem_of_getElem? (i := 595) (by decide +kernel))) rfl
theorem wq596 : (Jvm.Cond.code ({ cls := "WeirStream", name := "checkpoint", desc := "()I" } : Jvm.MethodName) prog_1_method_16_code (1 : Nat) (Option.some Jvm.ClassFile.FieldType.int)) ∈ lw_all := lw_in (lw_tb (List.mem_of_getElem? (i := 596) (by decide +kernel))) rfl
theorem wq601 : (Jvm.Cond.methodLink "WeirStreamLaw" (68 : Nat) ({ cls := "WeirStream", name := "crash", desc := "()I" } : Jvm.MethodName)) ∈ lw_all := lw_in (lw_tb (List.mem_of_getElem? (i := 601) (by decide +kernel))) rfl
theorem wq602 : (Jvm.Cond.instanceMethod ({ cls := "WeirStream", name := "crash", desc := "()I" } : Jvm.MethodName)) ∈ lw_all := lw_in (lw_tb (List.mem_of_getElem? (i := 602) (by decide +kernel))) rfl
theorem wq603 : (Jvm.Cond.selects "WeirStream" ({ cls := "WeirStream", name := "crash", desc := "()I" } : Jvm.MethodName) ({ cls := "WeirStream", name := "crash", desc := "()I" } : Jvm.MethodName)) ∈ lw_all := lw_in (lw_tb (List.mem_of_getElem? (i := 603) (by decide +kernel))) rfl
theorem wq604 : (Jvm.Cond.code ({ cls := "WeirStream", name := "crash", desc := "()I" } : Jvm.MethodName) prog_1_method_17_code (1 : Nat) (Option.some Jvm.ClassFile.FieldType.int)) ∈ lw_all := lw_in (lw_tb (List.mem_of_getElem? (i := 604) (by decide +kernel))) rfl
theorem wq802 : (Jvm.Cond.methodLink "WeirStreamLaw" (45 : Nat) ({ cls := "WeirStreamLaw", name := "offer", desc := "(LWeirStream;IIII)I" } : Jvm.MethodName)) ∈ lw_all := lw_in (lw_tb (List.mem_of_getElem? (i := 802) (by decide +kernel))) rfl
theorem wq803 : (Jvm.Cond.static ({ cls := "WeirStreamLaw", name := "offer", desc := "(LWeirStream;IIII)I" } : Jvm.MethodName)) ∈ lw_all := lw_in (lw_tb (List.mem_of_getElem? (i := 803) (by decide +kernel))) rfl
theorem wq804 : (Jvm.Cond.code ({ cls := "WeirStreamLaw", name := "offer", desc := "(LWeirStream;IIII)I" } : Jvm.MethodName) method_5_code (5 : Nat) (Option.some Jvm.ClassFile.FieldType.int)) ∈ lw_all := lw_in (lw_tb (List.mem_of_getElem? (i := 804) (by decide +kernel))) rfl
theorem wq1206 : (Jvm.Cond.arrayClass Jvm.ClassFile.FieldType.int) ∈ lw_all := lw_in (lw_tb (List.mem_of_getElem? (i := 1206) (by decide +kernel))) rfl
theorem dL_law_240 : decode cL_law 240 = .ok (.aload_n 1, 1) := by decide +kernel
theorem dL_law_241 : decode cL_law 241 = .ok (.iconst 1, 1) := by decide +kernel
theorem dL_law_242 : decode cL_law 242 = .ok (.iload 6, 2) := by decide +kernel
theorem dL_law_244 : decode cL_law 244 = .ok (.iconst 4, 1) := by decide +kernel
theorem dL_law_245 : decode cL_law 245 = .ok (.ishr, 1) := by decide +kernel
theorem dL_law_246 : decode cL_law 246 = .ok (.bipush 40, 2) := by decide +kernel
theorem dL_law_248 : decode cL_law 248 = .ok (.invokestatic 18, 3) := by decide +kernel
theorem dL_law_251 : decode cL_law 251 = .ok (.iadd, 1) := by decide +kernel
theorem dL_law_252 : decode cL_law 252 = .ok (.invokevirtual 49, 3) := by decide +kernel
theorem dL_law_255 : decode cL_law 255 = .ok (.pop, 1) := by decide +kernel
theorem dL_law_256 : decode cL_law 256 = .ok (.goto 166, 3) := by decide +kernel
theorem dL_law_266 : decode cL_law 266 = .ok (.aload_n 1, 1) := by decide +kernel
theorem dL_law_267 : decode cL_law 267 = .ok (.iload 6, 2) := by decide +kernel
theorem dL_law_269 : decode cL_law 269 = .ok (.iconst 4, 1) := by decide +kernel
theorem dL_law_270 : decode cL_law 270 = .ok (.ishr, 1) := by decide +kernel
theorem dL_law_271 : decode cL_law 271 = .ok (.iload_n 2, 1) := by decide +kernel
theorem dL_law_272 : decode cL_law 272 = .ok (.invokestatic 18, 3) := by decide +kernel
theorem dL_law_275 : decode cL_law 275 = .ok (.invokevirtual 52, 3) := by decide +kernel
theorem dL_law_278 : decode cL_law 278 = .ok (.pop, 1) := by decide +kernel
theorem dL_law_279 : decode cL_law 279 = .ok (.goto 143, 3) := by decide +kernel
theorem dL_law_289 : decode cL_law 289 = .ok (.aload_n 1, 1) := by decide +kernel
theorem dL_law_290 : decode cL_law 290 = .ok (.invokevirtual 56, 3) := by decide +kernel
theorem dL_law_293 : decode cL_law 293 = .ok (.ifCond .ne 11, 3) := by decide +kernel
theorem dL_law_304 : decode cL_law 304 = .ok (.iload 9, 2) := by decide +kernel
theorem dL_law_306 : decode cL_law 306 = .ok (.bipush 13, 2) := by decide +kernel
theorem dL_law_308 : decode cL_law 308 = .ok (.if_icmp .ne 114, 3) := by decide +kernel
theorem dL_law_296 : decode cL_law 296 = .ok (.aload_n 1, 1) := by decide +kernel
theorem dL_law_297 : decode cL_law 297 = .ok (.invokevirtual 59, 3) := by decide +kernel
theorem dL_law_300 : decode cL_law 300 = .ok (.pop, 1) := by decide +kernel
theorem dL_law_301 : decode cL_law 301 = .ok (.goto 121, 3) := by decide +kernel
theorem dL_law_311 : decode cL_law 311 = .ok (.iconst 1, 1) := by decide +kernel
theorem dL_law_312 : decode cL_law 312 = .ok (.istore 8, 2) := by decide +kernel
theorem dL_law_314 : decode cL_law 314 = .ok (.bipush 12, 2) := by decide +kernel
theorem dL_law_316 : decode cL_law 316 = .ok (.newarray .int, 2) := by decide +kernel
theorem dL_law_318 : decode cL_law 318 = .ok (.astore 10, 2) := by decide +kernel
theorem dL_law_320 : decode cL_law 320 = .ok (.iconst 0, 1) := by decide +kernel
theorem dL_law_321 : decode cL_law 321 = .ok (.istore 11, 2) := by decide +kernel
theorem dL_law_361 : decode cL_law 361 = .ok (.aload_n 1, 1) := by decide +kernel
theorem dL_law_362 : decode cL_law 362 = .ok (.invokevirtual 68, 3) := by decide +kernel
theorem dL_law_365 : decode cL_law 365 = .ok (.pop, 1) := by decide +kernel
theorem dL_law_366 : decode cL_law 366 = .ok (.iconst 0, 1) := by decide +kernel
theorem dL_law_367 : decode cL_law 367 = .ok (.istore 11, 2) := by decide +kernel
theorem dL_law_175 : decode cL_law 175 = .ok (.iload 4, 2) := by decide +kernel
theorem dL_law_177 : decode cL_law 177 = .ok (.aload_n 1, 1) := by decide +kernel
theorem dL_law_178 : decode cL_law 178 = .ok (.iload 6, 2) := by decide +kernel
theorem dL_law_180 : decode cL_law 180 = .ok (.iconst 3, 1) := by decide +kernel
theorem dL_law_181 : decode cL_law 181 = .ok (.ishr, 1) := by decide +kernel
theorem dL_law_182 : decode cL_law 182 = .ok (.iload_n 2, 1) := by decide +kernel
theorem dL_law_183 : decode cL_law 183 = .ok (.invokestatic 18, 3) := by decide +kernel
theorem dL_law_186 : decode cL_law 186 = .ok (.iload 6, 2) := by decide +kernel
theorem dL_law_188 : decode cL_law 188 = .ok (.bipush 6, 2) := by decide +kernel
theorem dL_law_190 : decode cL_law 190 = .ok (.ishr, 1) := by decide +kernel
theorem dL_law_191 : decode cL_law 191 = .ok (.iconst 4, 1) := by decide +kernel
theorem dL_law_192 : decode cL_law 192 = .ok (.invokestatic 18, 3) := by decide +kernel
theorem dL_law_195 : decode cL_law 195 = .ok (.iload 6, 2) := by decide +kernel
theorem dL_law_197 : decode cL_law 197 = .ok (.bipush 7, 2) := by decide +kernel
theorem dL_law_199 : decode cL_law 199 = .ok (.ishr, 1) := by decide +kernel
theorem dL_law_200 : decode cL_law 200 = .ok (.bipush 101, 2) := by decide +kernel
theorem dL_law_202 : decode cL_law 202 = .ok (.invokestatic 18, 3) := by decide +kernel
theorem dL_law_205 : decode cL_law 205 = .ok (.bipush 30, 2) := by decide +kernel
theorem dL_law_207 : decode cL_law 207 = .ok (.isub, 1) := by decide +kernel
theorem dL_law_208 : decode cL_law 208 = .ok (.iconst 0, 1) := by decide +kernel
theorem dL_law_209 : decode cL_law 209 = .ok (.iload_n 3, 1) := by decide +kernel
theorem dL_law_210 : decode cL_law 210 = .ok (.iload 6, 2) := by decide +kernel
theorem dL_law_212 : decode cL_law 212 = .ok (.bipush 9, 2) := by decide +kernel
theorem dL_law_214 : decode cL_law 214 = .ok (.ishr, 1) := by decide +kernel
theorem dL_law_215 : decode cL_law 215 = .ok (.bipush 30, 2) := by decide +kernel
theorem dL_law_217 : decode cL_law 217 = .ok (.invokestatic 18, 3) := by decide +kernel
theorem dL_law_220 : decode cL_law 220 = .ok (.isub, 1) := by decide +kernel
theorem dL_law_221 : decode cL_law 221 = .ok (.invokestatic 40, 3) := by decide +kernel
theorem dL_law_224 : decode cL_law 224 = .ok (.invokestatic 45, 3) := by decide +kernel
theorem dL_law_227 : decode cL_law 227 = .ok (.iadd, 1) := by decide +kernel
theorem dL_law_228 : decode cL_law 228 = .ok (.istore 4, 2) := by decide +kernel
theorem dL_law_230 : decode cL_law 230 = .ok (.goto 192, 3) := by decide +kernel
theorem dL_law_144 : decode cL_law 144 = .ok (.iload_n 3, 1) := by decide +kernel
theorem dL_law_145 : decode cL_law 145 = .ok (.iload 6, 2) := by decide +kernel
theorem dL_law_147 : decode cL_law 147 = .ok (.iconst 5, 1) := by decide +kernel
theorem dL_law_148 : decode cL_law 148 = .ok (.ishr, 1) := by decide +kernel
theorem dL_law_149 : decode cL_law 149 = .ok (.bipush 9, 2) := by decide +kernel
theorem dL_law_151 : decode cL_law 151 = .ok (.invokestatic 18, 3) := by decide +kernel
theorem dL_law_154 : decode cL_law 154 = .ok (.iadd, 1) := by decide +kernel
theorem dL_law_155 : decode cL_law 155 = .ok (.istore_n 3, 1) := by decide +kernel
theorem dL_law_156 : decode cL_law 156 = .ok (.iconst 0, 1) := by decide +kernel
theorem dL_law_157 : decode cL_law 157 = .ok (.istore 8, 2) := by decide +kernel
theorem dL_law_159 : decode cL_law 159 = .ok (.iload 6, 2) := by decide +kernel
theorem dL_law_161 : decode cL_law 161 = .ok (.bipush 14, 2) := by decide +kernel
theorem dL_law_163 : decode cL_law 163 = .ok (.invokestatic 18, 3) := by decide +kernel
theorem dL_law_166 : decode cL_law 166 = .ok (.istore 9, 2) := by decide +kernel
theorem dL_law_168 : decode cL_law 168 = .ok (.iload 9, 2) := by decide +kernel
theorem dL_law_170 : decode cL_law 170 = .ok (.bipush 6, 2) := by decide +kernel
theorem dL_law_172 : decode cL_law 172 = .ok (.if_icmp .ge 61, 3) := by decide +kernel
theorem dL_law_233 : decode cL_law 233 = .ok (.iload 9, 2) := by decide +kernel
theorem dL_law_235 : decode cL_law 235 = .ok (.bipush 10, 2) := by decide +kernel
theorem dL_law_237 : decode cL_law 237 = .ok (.if_icmp .ge 22, 3) := by decide +kernel
theorem dL_law_259 : decode cL_law 259 = .ok (.iload 9, 2) := by decide +kernel
theorem dL_law_261 : decode cL_law 261 = .ok (.bipush 10, 2) := by decide +kernel
theorem dL_law_263 : decode cL_law 263 = .ok (.if_icmp .ne 19, 3) := by decide +kernel
theorem dL_law_282 : decode cL_law 282 = .ok (.iload 9, 2) := by decide +kernel
theorem dL_law_284 : decode cL_law 284 = .ok (.bipush 13, 2) := by decide +kernel
theorem dL_law_286 : decode cL_law 286 = .ok (.if_icmp .ge 18, 3) := by decide +kernel
