theorem wm_109 : Cond.arrayClass .int ∈ wg := mem_wg (List.mem_append_right _ (List.mem_of_getElem? (i := 109) (by decide +kernel))) (by decide +kernel)
theorem wm_110 : Cond.arrayClass .boolean ∈ wg := mem_wg (List.mem_append_right _ (List.mem_of_getElem? (i := 110) (by decide +kernel))) (by decide +kernel)
theorem wm_735 : Cond.methodLink "NodeServicesModel" 1 objectInit ∈ wg := mem_wg (List.mem_append_right _ (List.mem_of_getElem? (i := 735) (by decide +kernel))) (by decide +kernel)
theorem dMo_init_0 : decode cMo_init 0 = .ok (.aload_n 0, 1) := by decide +kernel
theorem dMo_init_1 : decode cMo_init 1 = .ok (.invokespecial 1, 3) := by decide +kernel
theorem dMo_init_4 : decode cMo_init 4 = .ok (.aload_n 0, 1) := by decide +kernel
theorem dMo_init_5 : decode cMo_init 5 = .ok (.bipush 16, 2) := by decide +kernel
theorem dMo_init_7 : decode cMo_init 7 = .ok (.newarray .int, 2) := by decide +kernel
theorem dMo_init_9 : decode cMo_init 9 = .ok (.putfield 7, 3) := by decide +kernel
theorem dMo_init_12 : decode cMo_init 12 = .ok (.aload_n 0, 1) := by decide +kernel
theorem dMo_init_13 : decode cMo_init 13 = .ok (.bipush 16, 2) := by decide +kernel
theorem dMo_init_15 : decode cMo_init 15 = .ok (.newarray .int, 2) := by decide +kernel
theorem dMo_init_17 : decode cMo_init 17 = .ok (.putfield 13, 3) := by decide +kernel
theorem dMo_init_20 : decode cMo_init 20 = .ok (.aload_n 0, 1) := by decide +kernel
theorem dMo_init_21 : decode cMo_init 21 = .ok (.bipush 16, 2) := by decide +kernel
theorem dMo_init_23 : decode cMo_init 23 = .ok (.newarray .int, 2) := by decide +kernel
theorem dMo_init_25 : decode cMo_init 25 = .ok (.putfield 16, 3) := by decide +kernel
theorem dMo_init_28 : decode cMo_init 28 = .ok (.aload_n 0, 1) := by decide +kernel
theorem dMo_init_29 : decode cMo_init 29 = .ok (.sipush 700, 3) := by decide +kernel
theorem dMo_init_32 : decode cMo_init 32 = .ok (.newarray .int, 2) := by decide +kernel
theorem dMo_init_34 : decode cMo_init 34 = .ok (.putfield 19, 3) := by decide +kernel
theorem dMo_init_37 : decode cMo_init 37 = .ok (.aload_n 0, 1) := by decide +kernel
theorem dMo_init_38 : decode cMo_init 38 = .ok (.sipush 700, 3) := by decide +kernel
theorem dMo_init_41 : decode cMo_init 41 = .ok (.newarray .int, 2) := by decide +kernel
theorem dMo_init_43 : decode cMo_init 43 = .ok (.putfield 22, 3) := by decide +kernel
theorem dMo_init_46 : decode cMo_init 46 = .ok (.aload_n 0, 1) := by decide +kernel
theorem dMo_init_47 : decode cMo_init 47 = .ok (.sipush 700, 3) := by decide +kernel
theorem dMo_init_50 : decode cMo_init 50 = .ok (.newarray .int, 2) := by decide +kernel
theorem dMo_init_52 : decode cMo_init 52 = .ok (.putfield 25, 3) := by decide +kernel
theorem dMo_init_55 : decode cMo_init 55 = .ok (.aload_n 0, 1) := by decide +kernel
theorem dMo_init_56 : decode cMo_init 56 = .ok (.iconst (-1), 1) := by decide +kernel
theorem dMo_init_57 : decode cMo_init 57 = .ok (.putfield 28, 3) := by decide +kernel
theorem dMo_init_60 : decode cMo_init 60 = .ok (.aload_n 0, 1) := by decide +kernel
theorem dMo_init_61 : decode cMo_init 61 = .ok (.bipush 12, 2) := by decide +kernel
theorem dMo_init_63 : decode cMo_init 63 = .ok (.newarray .int, 2) := by decide +kernel
theorem dMo_init_65 : decode cMo_init 65 = .ok (.putfield 32, 3) := by decide +kernel
theorem dMo_init_68 : decode cMo_init 68 = .ok (.aload_n 0, 1) := by decide +kernel
theorem dMo_init_69 : decode cMo_init 69 = .ok (.iconst 4, 1) := by decide +kernel
theorem dMo_init_70 : decode cMo_init 70 = .ok (.newarray .int, 2) := by decide +kernel
theorem dMo_init_72 : decode cMo_init 72 = .ok (.putfield 35, 3) := by decide +kernel
theorem dMo_init_75 : decode cMo_init 75 = .ok (.aload_n 0, 1) := by decide +kernel
theorem dMo_init_76 : decode cMo_init 76 = .ok (.iconst 4, 1) := by decide +kernel
theorem dMo_init_77 : decode cMo_init 77 = .ok (.newarray .int, 2) := by decide +kernel
theorem dMo_init_79 : decode cMo_init 79 = .ok (.putfield 38, 3) := by decide +kernel
theorem dMo_init_82 : decode cMo_init 82 = .ok (.aload_n 0, 1) := by decide +kernel
theorem dMo_init_83 : decode cMo_init 83 = .ok (.iconst 4, 1) := by decide +kernel
theorem dMo_init_84 : decode cMo_init 84 = .ok (.newarray .int, 2) := by decide +kernel
theorem dMo_init_86 : decode cMo_init 86 = .ok (.putfield 41, 3) := by decide +kernel
theorem dMo_init_89 : decode cMo_init 89 = .ok (.aload_n 0, 1) := by decide +kernel
theorem dMo_init_90 : decode cMo_init 90 = .ok (.iconst 4, 1) := by decide +kernel
theorem dMo_init_91 : decode cMo_init 91 = .ok (.newarray .int, 2) := by decide +kernel
theorem dMo_init_93 : decode cMo_init 93 = .ok (.putfield 44, 3) := by decide +kernel
theorem dMo_init_96 : decode cMo_init 96 = .ok (.aload_n 0, 1) := by decide +kernel
theorem dMo_init_97 : decode cMo_init 97 = .ok (.bipush 16, 2) := by decide +kernel
theorem dMo_init_99 : decode cMo_init 99 = .ok (.newarray .int, 2) := by decide +kernel
theorem dMo_init_101 : decode cMo_init 101 = .ok (.putfield 47, 3) := by decide +kernel
theorem dMo_init_104 : decode cMo_init 104 = .ok (.aload_n 0, 1) := by decide +kernel
theorem dMo_init_105 : decode cMo_init 105 = .ok (.iconst 4, 1) := by decide +kernel
theorem dMo_init_106 : decode cMo_init 106 = .ok (.newarray .int, 2) := by decide +kernel
theorem dMo_init_108 : decode cMo_init 108 = .ok (.putfield 50, 3) := by decide +kernel
theorem dMo_init_111 : decode cMo_init 111 = .ok (.aload_n 0, 1) := by decide +kernel
theorem dMo_init_112 : decode cMo_init 112 = .ok (.iconst 4, 1) := by decide +kernel
theorem dMo_init_113 : decode cMo_init 113 = .ok (.newarray .int, 2) := by decide +kernel
theorem dMo_init_115 : decode cMo_init 115 = .ok (.putfield 53, 3) := by decide +kernel
theorem dMo_init_118 : decode cMo_init 118 = .ok (.aload_n 0, 1) := by decide +kernel
theorem dMo_init_119 : decode cMo_init 119 = .ok (.iconst 4, 1) := by decide +kernel
theorem dMo_init_120 : decode cMo_init 120 = .ok (.newarray .int, 2) := by decide +kernel
theorem dMo_init_122 : decode cMo_init 122 = .ok (.putfield 56, 3) := by decide +kernel
theorem dMo_init_125 : decode cMo_init 125 = .ok (.aload_n 0, 1) := by decide +kernel
theorem dMo_init_126 : decode cMo_init 126 = .ok (.iconst 4, 1) := by decide +kernel
theorem dMo_init_127 : decode cMo_init 127 = .ok (.newarray .int, 2) := by decide +kernel
theorem dMo_init_129 : decode cMo_init 129 = .ok (.putfield 59, 3) := by decide +kernel
theorem dMo_init_132 : decode cMo_init 132 = .ok (.aload_n 0, 1) := by decide +kernel
theorem dMo_init_133 : decode cMo_init 133 = .ok (.bipush 32, 2) := by decide +kernel
theorem dMo_init_135 : decode cMo_init 135 = .ok (.newarray .int, 2) := by decide +kernel
theorem dMo_init_137 : decode cMo_init 137 = .ok (.putfield 62, 3) := by decide +kernel
theorem dMo_init_140 : decode cMo_init 140 = .ok (.aload_n 0, 1) := by decide +kernel
theorem dMo_init_141 : decode cMo_init 141 = .ok (.iconst 4, 1) := by decide +kernel
theorem dMo_init_142 : decode cMo_init 142 = .ok (.newarray .boolean, 2) := by decide +kernel
theorem dMo_init_144 : decode cMo_init 144 = .ok (.putfield 65, 3) := by decide +kernel
theorem dMo_init_147 : decode cMo_init 147 = .ok (.aload_n 0, 1) := by decide +kernel
theorem dMo_init_148 : decode cMo_init 148 = .ok (.iconst 4, 1) := by decide +kernel
theorem dMo_init_149 : decode cMo_init 149 = .ok (.newarray .int, 2) := by decide +kernel
theorem dMo_init_151 : decode cMo_init 151 = .ok (.putfield 69, 3) := by decide +kernel
theorem dMo_init_154 : decode cMo_init 154 = .ok (.aload_n 0, 1) := by decide +kernel
theorem dMo_init_155 : decode cMo_init 155 = .ok (.iconst 4, 1) := by decide +kernel
theorem dMo_init_156 : decode cMo_init 156 = .ok (.newarray .int, 2) := by decide +kernel
theorem dMo_init_158 : decode cMo_init 158 = .ok (.putfield 72, 3) := by decide +kernel
theorem dMo_init_161 : decode cMo_init 161 = .ok (.aload_n 0, 1) := by decide +kernel
theorem dMo_init_162 : decode cMo_init 162 = .ok (.iconst 4, 1) := by decide +kernel
theorem dMo_init_163 : decode cMo_init 163 = .ok (.newarray .boolean, 2) := by decide +kernel
theorem dMo_init_165 : decode cMo_init 165 = .ok (.putfield 75, 3) := by decide +kernel
theorem dMo_init_168 : decode cMo_init 168 = .ok (.aload_n 0, 1) := by decide +kernel
theorem dMo_init_169 : decode cMo_init 169 = .ok (.iconst (-1), 1) := by decide +kernel
theorem dMo_init_170 : decode cMo_init 170 = .ok (.putfield 78, 3) := by decide +kernel
theorem dMo_init_173 : decode cMo_init 173 = .ok (.aload_n 0, 1) := by decide +kernel
theorem dMo_init_174 : decode cMo_init 174 = .ok (.iconst 4, 1) := by decide +kernel
theorem dMo_init_175 : decode cMo_init 175 = .ok (.newarray .boolean, 2) := by decide +kernel
theorem dMo_init_177 : decode cMo_init 177 = .ok (.putfield 81, 3) := by decide +kernel
theorem dMo_init_180 : decode cMo_init 180 = .ok (.aload_n 0, 1) := by decide +kernel
theorem dMo_init_181 : decode cMo_init 181 = .ok (.iconst 4, 1) := by decide +kernel
theorem dMo_init_182 : decode cMo_init 182 = .ok (.newarray .int, 2) := by decide +kernel
theorem dMo_init_184 : decode cMo_init 184 = .ok (.putfield 84, 3) := by decide +kernel
theorem dMo_init_187 : decode cMo_init 187 = .ok (.aload_n 0, 1) := by decide +kernel
theorem dMo_init_188 : decode cMo_init 188 = .ok (.iconst 4, 1) := by decide +kernel
theorem dMo_init_189 : decode cMo_init 189 = .ok (.newarray .int, 2) := by decide +kernel
theorem dMo_init_191 : decode cMo_init 191 = .ok (.putfield 87, 3) := by decide +kernel
theorem dMo_init_194 : decode cMo_init 194 = .ok (.iload_n 1, 1) := by decide +kernel
theorem dMo_init_195 : decode cMo_init 195 = .ok (.bipush 101, 2) := by decide +kernel
theorem dMo_init_197 : decode cMo_init 197 = .ok (.irem, 1) := by decide +kernel
theorem dMo_init_198 : decode cMo_init 198 = .ok (.ifCond .ge 11, 3) := by decide +kernel
theorem dMo_init_201 : decode cMo_init 201 = .ok (.iload_n 1, 1) := by decide +kernel
theorem dMo_init_202 : decode cMo_init 202 = .ok (.bipush 101, 2) := by decide +kernel
theorem dMo_init_204 : decode cMo_init 204 = .ok (.irem, 1) := by decide +kernel
theorem dMo_init_205 : decode cMo_init 205 = .ok (.ineg, 1) := by decide +kernel
theorem dMo_init_206 : decode cMo_init 206 = .ok (.goto 7, 3) := by decide +kernel
theorem dMo_init_209 : decode cMo_init 209 = .ok (.iload_n 1, 1) := by decide +kernel
theorem dMo_init_210 : decode cMo_init 210 = .ok (.bipush 101, 2) := by decide +kernel
theorem dMo_init_212 : decode cMo_init 212 = .ok (.irem, 1) := by decide +kernel
theorem dMo_init_213 : decode cMo_init 213 = .ok (.istore_n 3, 1) := by decide +kernel
theorem dMo_init_214 : decode cMo_init 214 = .ok (.iload_n 2, 1) := by decide +kernel
theorem dMo_init_215 : decode cMo_init 215 = .ok (.bipush 101, 2) := by decide +kernel
theorem dMo_init_217 : decode cMo_init 217 = .ok (.irem, 1) := by decide +kernel
theorem dMo_init_218 : decode cMo_init 218 = .ok (.ifCond .ge 11, 3) := by decide +kernel
theorem dMo_init_221 : decode cMo_init 221 = .ok (.iload_n 2, 1) := by decide +kernel
theorem dMo_init_222 : decode cMo_init 222 = .ok (.bipush 101, 2) := by decide +kernel
theorem dMo_init_224 : decode cMo_init 224 = .ok (.irem, 1) := by decide +kernel
theorem dMo_init_225 : decode cMo_init 225 = .ok (.ineg, 1) := by decide +kernel
theorem dMo_init_226 : decode cMo_init 226 = .ok (.goto 7, 3) := by decide +kernel
theorem dMo_init_229 : decode cMo_init 229 = .ok (.iload_n 2, 1) := by decide +kernel
theorem dMo_init_230 : decode cMo_init 230 = .ok (.bipush 101, 2) := by decide +kernel
theorem dMo_init_232 : decode cMo_init 232 = .ok (.irem, 1) := by decide +kernel
theorem dMo_init_233 : decode cMo_init 233 = .ok (.istore 4, 2) := by decide +kernel
theorem dMo_init_235 : decode cMo_init 235 = .ok (.iconst 0, 1) := by decide +kernel
theorem dMo_init_236 : decode cMo_init 236 = .ok (.istore 5, 2) := by decide +kernel
theorem dMo_init_238 : decode cMo_init 238 = .ok (.iload 5, 2) := by decide +kernel
theorem dMo_init_240 : decode cMo_init 240 = .ok (.iconst 4, 1) := by decide +kernel
theorem dMo_init_241 : decode cMo_init 241 = .ok (.if_icmp .ge 52, 3) := by decide +kernel
theorem dMo_init_244 : decode cMo_init 244 = .ok (.aload_n 0, 1) := by decide +kernel
theorem dMo_init_245 : decode cMo_init 245 = .ok (.getfield 69, 3) := by decide +kernel
theorem dMo_init_248 : decode cMo_init 248 = .ok (.iload 5, 2) := by decide +kernel
theorem dMo_init_250 : decode cMo_init 250 = .ok (.iload 4, 2) := by decide +kernel
theorem dMo_init_252 : decode cMo_init 252 = .ok (.ifCond .ne 8, 3) := by decide +kernel
theorem dMo_init_255 : decode cMo_init 255 = .ok (.iload 5, 2) := by decide +kernel
theorem dMo_init_257 : decode cMo_init 257 = .ok (.goto 13, 3) := by decide +kernel
theorem dMo_init_260 : decode cMo_init 260 = .ok (.iload_n 3, 1) := by decide +kernel
theorem dMo_init_261 : decode cMo_init 261 = .ok (.iload 5, 2) := by decide +kernel
theorem dMo_init_263 : decode cMo_init 263 = .ok (.iload 4, 2) := by decide +kernel
theorem dMo_init_265 : decode cMo_init 265 = .ok (.imul, 1) := by decide +kernel
theorem dMo_init_266 : decode cMo_init 266 = .ok (.iadd, 1) := by decide +kernel
theorem dMo_init_267 : decode cMo_init 267 = .ok (.bipush 101, 2) := by decide +kernel
theorem dMo_init_269 : decode cMo_init 269 = .ok (.irem, 1) := by decide +kernel
theorem dMo_init_270 : decode cMo_init 270 = .ok (.iastore, 1) := by decide +kernel
theorem dMo_init_271 : decode cMo_init 271 = .ok (.aload_n 0, 1) := by decide +kernel
theorem dMo_init_272 : decode cMo_init 272 = .ok (.getfield 72, 3) := by decide +kernel
theorem dMo_init_275 : decode cMo_init 275 = .ok (.iload 5, 2) := by decide +kernel
theorem dMo_init_277 : decode cMo_init 277 = .ok (.iconst (-1), 1) := by decide +kernel
theorem dMo_init_278 : decode cMo_init 278 = .ok (.iastore, 1) := by decide +kernel
theorem dMo_init_279 : decode cMo_init 279 = .ok (.aload_n 0, 1) := by decide +kernel
theorem dMo_init_280 : decode cMo_init 280 = .ok (.getfield 84, 3) := by decide +kernel
theorem dMo_init_283 : decode cMo_init 283 = .ok (.iload 5, 2) := by decide +kernel
theorem dMo_init_285 : decode cMo_init 285 = .ok (.iconst (-1), 1) := by decide +kernel
theorem dMo_init_286 : decode cMo_init 286 = .ok (.iastore, 1) := by decide +kernel
theorem dMo_init_287 : decode cMo_init 287 = .ok (.iinc 5 1, 3) := by decide +kernel
theorem dMo_init_290 : decode cMo_init 290 = .ok (.goto (-52), 3) := by decide +kernel
theorem dMo_init_293 : decode cMo_init 293 = .ok (.aload_n 0, 1) := by decide +kernel
theorem dMo_init_294 : decode cMo_init 294 = .ok (.getfield 56, 3) := by decide +kernel
theorem dMo_init_297 : decode cMo_init 297 = .ok (.iconst 3, 1) := by decide +kernel
theorem dMo_init_298 : decode cMo_init 298 = .ok (.iconst 1, 1) := by decide +kernel
theorem dMo_init_299 : decode cMo_init 299 = .ok (.iastore, 1) := by decide +kernel
theorem dMo_init_300 : decode cMo_init 300 = .ok (.iconst 0, 1) := by decide +kernel
theorem dMo_init_301 : decode cMo_init 301 = .ok (.istore 5, 2) := by decide +kernel
theorem dMo_init_303 : decode cMo_init 303 = .ok (.iload 5, 2) := by decide +kernel
theorem dMo_init_305 : decode cMo_init 305 = .ok (.bipush 16, 2) := by decide +kernel
theorem dMo_init_307 : decode cMo_init 307 = .ok (.if_icmp .ge 25, 3) := by decide +kernel
theorem dMo_init_310 : decode cMo_init 310 = .ok (.aload_n 0, 1) := by decide +kernel
theorem dMo_init_311 : decode cMo_init 311 = .ok (.getfield 7, 3) := by decide +kernel
theorem dMo_init_314 : decode cMo_init 314 = .ok (.iload 5, 2) := by decide +kernel
theorem dMo_init_316 : decode cMo_init 316 = .ok (.iconst (-1), 1) := by decide +kernel
theorem dMo_init_317 : decode cMo_init 317 = .ok (.iastore, 1) := by decide +kernel
theorem dMo_init_318 : decode cMo_init 318 = .ok (.aload_n 0, 1) := by decide +kernel
theorem dMo_init_319 : decode cMo_init 319 = .ok (.getfield 13, 3) := by decide +kernel
theorem dMo_init_322 : decode cMo_init 322 = .ok (.iload 5, 2) := by decide +kernel
theorem dMo_init_324 : decode cMo_init 324 = .ok (.iconst (-1), 1) := by decide +kernel
theorem dMo_init_325 : decode cMo_init 325 = .ok (.iastore, 1) := by decide +kernel
theorem dMo_init_326 : decode cMo_init 326 = .ok (.iinc 5 1, 3) := by decide +kernel
theorem dMo_init_329 : decode cMo_init 329 = .ok (.goto (-26), 3) := by decide +kernel
theorem dMo_init_332 : decode cMo_init 332 = .ok (.return_, 1) := by decide +kernel
-- public NodeServicesModel(int, int)
def mo0 : MS := fun k => cond (Nat.beq k 7 || Nat.beq k 27) (fun _ => -1) (fun _ => 0)
def wM_init_303_step (K303 : MS → Int32 → Int32 → Int32 → Int32 → Int32 → Prop) (R : MS → Prop) (σ : MS) (y1 : Int32) (y2 : Int32) (y3 : Int32) (y4 : Int32) (y5 : Int32) : Prop :=
  (((16 ≤ y5) → R σ) ∧ ((¬ 16 ≤ y5) → (vp_in y5 16 ∧ (∀ σ3 : MS, σ3 = up2 σ 0 y5.toNatClampNeg (-1) → (vp_in y5 16 ∧ (∀ σ5 : MS, σ5 = up2 σ3 1 y5.toNatClampNeg (-1) → K303 σ5 y1 y2 y3 y4 (y5 + 1)))))))
def wM_init_303 (R : MS → Prop) : Nat → MS → Int32 → Int32 → Int32 → Int32 → Int32 → Prop
  | 0 => fun _ _ _ _ _ _ => False
  | k + 1 => fun σ y1 y2 y3 y4 y5 => wM_init_303_step  (wM_init_303  R k) R σ y1 y2 y3 y4 y5
def wM_init_270 (K238 : MS → Int32 → Int32 → Int32 → Int32 → Int32 → Prop) (R : MS → Prop) (σ : MS) (y1 : Int32) (y2 : Int32) (y3 : Int32) (y4 : Int32) (y5 : Int32) (z1 : Int32) (z2 : Int32) : Prop :=
  (vp_in z1 4 ∧ (∀ σ7 : MS, σ7 = up2 σ 24 z1.toNatClampNeg z2 → (vp_in y5 4 ∧ (∀ σ9 : MS, σ9 = up2 σ7 25 y5.toNatClampNeg (-1) → (vp_in y5 4 ∧ (∀ σ11 : MS, σ11 = up2 σ9 30 y5.toNatClampNeg (-1) → K238 σ11 y1 y2 y3 y4 (y5 + 1)))))))
def wM_init_238_step (K238 : MS → Int32 → Int32 → Int32 → Int32 → Int32 → Prop) (R : MS → Prop) (σ : MS) (y1 : Int32) (y2 : Int32) (y3 : Int32) (y4 : Int32) (y5 : Int32) : Prop :=
  (((4 ≤ y5) → (∀ σ13 : MS, σ13 = up2 σ 20 (3 : Int32).toNatClampNeg 1 → wM_init_303 R 17 σ13 y1 y2 y3 y4 0)) ∧ ((¬ 4 ≤ y5) → (((¬ y4 = 0) → wM_init_270 K238 R σ y1 y2 y3 y4 y5 y5 ((y3 + (y5 * y4)) - (y3 + (y5 * y4)) / 101 * 101)) ∧ ((y4 = 0) → wM_init_270 K238 R σ y1 y2 y3 y4 y5 y5 y5))))
def wM_init_238 (R : MS → Prop) : Nat → MS → Int32 → Int32 → Int32 → Int32 → Int32 → Prop
  | 0 => fun _ _ _ _ _ _ => False
  | k + 1 => fun σ y1 y2 y3 y4 y5 => wM_init_238_step  (wM_init_238  R k) R σ y1 y2 y3 y4 y5
def wM_init_233 (R : MS → Prop) (σ : MS) (y1 : Int32) (y2 : Int32) (y3 : Int32) (z0 : Int32) : Prop :=
  wM_init_238 R 5 σ y1 y2 y3 z0 0
def wM_init_213 (R : MS → Prop) (σ : MS) (y1 : Int32) (y2 : Int32) (z0 : Int32) : Prop :=
  (((0 ≤ (y2 - y2 / 101 * 101)) → wM_init_233 R σ y1 y2 z0 (y2 - y2 / 101 * 101)) ∧ ((¬ 0 ≤ (y2 - y2 / 101 * 101)) → wM_init_233 R σ y1 y2 z0 (-(y2 - y2 / 101 * 101))))
def wM_init (R : MS → Prop) (σ : MS) (x1 x2 : Int32) : Prop :=
  (((0 ≤ (x1 - x1 / 101 * 101)) → wM_init_213 R σ x1 x2 (x1 - x1 / 101 * 101)) ∧ ((¬ 0 ≤ (x1 - x1 / 101 * 101)) → wM_init_213 R σ x1 x2 (-(x1 - x1 / 101 * 101))))
abbrev wsMo_init : List Cond := .code yMo_init cMo_init 6 none :: wg
abbrev rmM_init : Room := { frames := 1, cells := 24, slots := 2268, locals := 20 }
abbrev mIv (D : va_G) (A : Nat → Prop) (u : (Nat → Nat) × ClassId × ClassId × MS) (U : State) : Prop := va_P D clA (mw u.1 u.2.1 u.2.2.1 u.2.2.2) U.heap ∧ va_K D clA (mT u.2.1 u.2.2.1) U ∧ va_D A (mw u.1 u.2.1 u.2.2.1 u.2.2.2)
abbrev mObj : List Value := [.null, .null, .null, .null, .null, .null, .int 0, .int 0, .null, .int 0, .int 0, .null, .null, .null, .null, .null, .null, .int 0, .int 0, .null, .null, .null, .null, .null, .null, .null, .null, .int 0, .int 0, .null, .null, .null, .int 0]
set_option maxHeartbeats 8000000 in
set_option maxRecDepth 100000 in
theorem kM_init (l : Launch) (D : va_G) (A : Nat → Prop) (h : Nat) (x1 x2 : Int32) (R : MS → Prop) (hwp : wM_init R mo0 x1 x2) : Met l yMo_init wsMo_init rmM_init (va_Pc [.ref h, .int x1, .int x2] (fun U => va_P D clA [(h, .inr (0, mObj))] U.heap ∧ va_K D clA [] U ∧ va_D A [(h, .inr (0, mObj))] ∧ ∀ q, U.heap.size ≤ q → A q)) (va_Qv (fun u : (Nat → Nat) × ClassId × ClassId × MS => R u.2.2.2 ∧ u.1 0 = h) (mIv D A) A) 24 2268 A := by
  refine Met.ofW (cc := cMo_init) (maxL := 6) (ret := none) (by decide) rfl ?_
  intro p e s m args below meth c s₁ B hml hv
  obtain ⟨rfl, hP, hK, hD, hA0⟩ := hv
  have hA : true = true → ∀ q, s.heap.size ≤ q → A q := fun _ => hA0
  have hx := B.exec
  have hb := B.bytes
  have hr := B.returns
  have hts := atoms_spec (ws := wsMo_init) B.pre
  have hown : s.vm.findClass RMo = some m.cls := findClass_of_methodNamed B.named
  have hlocks := B.notSynchronized
  have hin : meth.name = "<init>" := (name_of_methodNamed B.named B.method).1
  have hin0 : ∀ w ∈ u_ws RMo TMo 33, w ∈ wsMo_init := fun w h => List.mem_cons_of_mem _ (inMo w h)
  have k13 := hts _ (List.mem_cons_of_mem _ wm_737)
  have k56 := hts _ (List.mem_cons_of_mem _ wm_756)
  have k69 := hts _ (List.mem_cons_of_mem _ wm_760)
  have k7 := hts _ (List.mem_cons_of_mem _ wm_736)
  have k72 := hts _ (List.mem_cons_of_mem _ wm_761)
  have k84 := hts _ (List.mem_cons_of_mem _ wm_766)
  have lk13 := hts _ (List.mem_cons_of_mem _ wm_737)
  have lk16 := hts _ (List.mem_cons_of_mem _ wm_738)
  have lk19 := hts _ (List.mem_cons_of_mem _ wm_739)
  have lk22 := hts _ (List.mem_cons_of_mem _ wm_740)
  have lk25 := hts _ (List.mem_cons_of_mem _ wm_741)
  have lk28 := hts _ (List.mem_cons_of_mem _ wm_743)
  have lk32 := hts _ (List.mem_cons_of_mem _ wm_744)
  have lk35 := hts _ (List.mem_cons_of_mem _ wm_747)
  have lk38 := hts _ (List.mem_cons_of_mem _ wm_748)
  have lk41 := hts _ (List.mem_cons_of_mem _ wm_749)
  have lk44 := hts _ (List.mem_cons_of_mem _ wm_750)
  have lk47 := hts _ (List.mem_cons_of_mem _ wm_751)
  have lk50 := hts _ (List.mem_cons_of_mem _ wm_752)
  have lk53 := hts _ (List.mem_cons_of_mem _ wm_755)
  have lk56 := hts _ (List.mem_cons_of_mem _ wm_756)
  have lk59 := hts _ (List.mem_cons_of_mem _ wm_757)
  have lk62 := hts _ (List.mem_cons_of_mem _ wm_758)
  have lk65 := hts _ (List.mem_cons_of_mem _ wm_759)
  have lk69 := hts _ (List.mem_cons_of_mem _ wm_760)
  have lk7 := hts _ (List.mem_cons_of_mem _ wm_736)
  have lk72 := hts _ (List.mem_cons_of_mem _ wm_761)
  have lk75 := hts _ (List.mem_cons_of_mem _ wm_762)
  have lk78 := hts _ (List.mem_cons_of_mem _ wm_763)
  have lk81 := hts _ (List.mem_cons_of_mem _ wm_765)
  have lk84 := hts _ (List.mem_cons_of_mem _ wm_766)
  have lk87 := hts _ (List.mem_cons_of_mem _ wm_767)
  have cut194 : ∀ (a : Nat → Nat) (tI tZ : ClassId), a 0 = h → va_K D clA (mT tI tZ) s → ∀ (H : Heap) (locs : List Loc) (ls : Array Slot), wM_init R mo0 x1 x2 → va_P D clA (mw a tI tZ mo0) H → va_D A (mw a tI tZ mo0) → va_S A s.heap H locs → lv_has ls 6 [(0, .ref (a 0)), (1, .int x1), (2, .int x2)] → W p l e (headSpec wsMo_init rmM_init).room s m ([.ref h, .int x1, .int x2] : List Value).toArray below meth c H locs 24 2268 (MQ below (va_Qv (fun u : (Nat → Nat) × ClassId × ClassId × MS => R u.2.2.2 ∧ u.1 0 = h) (mIv D A) A) ([.ref h, .int x1, .int x2] : List Value).toArray s 24 2268 A) (F0 m 194 ls []) := by
    intro a tI tZ ha0 hK
    have cut303 : ∀ (k303 : Nat) (σ : MS) (y1 : Int32) (y2 : Int32) (y3 : Int32) (y4 : Int32) (y5 : Int32) (H : Heap) (locs : List Loc) (ls : Array Slot), wM_init_303 R k303 σ y1 y2 y3 y4 y5 → va_P D clA (mw a tI tZ σ) H → va_D A (mw a tI tZ σ) → va_S A s.heap H locs → lv_has ls 6 [(0, .ref (a 0)), (1, .int y1), (2, .int y2), (3, .int y3), (4, .int y4), (5, .int y5)] → W p l e (headSpec wsMo_init rmM_init).room s m ([.ref h, .int x1, .int x2] : List Value).toArray below meth c H locs 24 2268 (MQ below (va_Qv (fun u : (Nat → Nat) × ClassId × ClassId × MS => R u.2.2.2 ∧ u.1 0 = h) (mIv D A) A) ([.ref h, .int x1, .int x2] : List Value).toArray s 24 2268 A) (F0 m 303 ls []) := by
      intro k303
      induction k303 with
      | zero => intro σ y1 y2 y3 y4 y5 H locs ls hwp hP hD hS hl; exact False.elim hwp
      | succ k303 ih303 =>
        intro σ y1 y2 y3 y4 y5 H locs ls hwp hP hD hS hl
        have hwp : wM_init_303_step (wM_init_303 R k303) R σ y1 y2 y3 y4 y5 := hwp
        refine lv_iload hx hb dMo_init_303 (lv_at hl 5 rfl) ?_
        refine lv_bipush (v := 16) hx hb dMo_init_305 (by decide) ?_
        refine lv_icmp_ge hx hb dMo_init_307 rfl (fun h1 => ?_) (fun h1 => ?_)
        · have hwp := hwp.1 h1
          exact W.vret hx hb hr (fun t ht hW => ⟨⟨(a, tI, tZ, σ), rfl, ⟨hwp, ha0⟩, ⟨by rw [ht]; exact hP, va_K.moved hW.alike hK, hD⟩⟩, hS.F ht⟩) hS.2.2 dMo_init_332
        · have hwp := hwp.2 h1
          refine lv_aload_n hx hb dMo_init_310 rfl (lv_at hl 0 rfl) ?_
          refine va_get (D := D) (ci := 0) (C := RMo) (T := TMo) (N := 33) hx hb hts hin0 hown hK hP 0 rfl rfl 0 (by decide) k7 (fun _ h9 => h9) rfl dMo_init_311 ?_
          refine lv_iload hx hb dMo_init_314 (lv_at hl 5 rfl) ?_
          refine lv_iconst (v := (-1)) hx hb dMo_init_316 (by decide) ?_
          obtain ⟨hi2, hwp⟩ := hwp
          refine va_iast hx hb hK hP hD hS 1 0 rfl rfl hi2 dMo_init_317 (fun H locs hP hD hS => ?_)
          obtain ⟨σ3, eσ3⟩ : ∃ z, z = up2 σ 0 y5.toNatClampNeg (-1) := ⟨_, rfl⟩
          have hwp := hwp σ3 eσ3
          have hP : va_P D clA (mw a tI tZ σ3) H := by rw [eσ3]; exact hP
          have hD : va_D A (mw a tI tZ σ3) := by rw [eσ3]; exact hD
          refine lv_aload_n hx hb dMo_init_318 rfl (lv_at hl 0 rfl) ?_
          refine va_get (D := D) (ci := 0) (C := RMo) (T := TMo) (N := 33) hx hb hts hin0 hown hK hP 0 rfl rfl 1 (by decide) k13 (fun _ h9 => h9) rfl dMo_init_319 ?_
          refine lv_iload hx hb dMo_init_322 (lv_at hl 5 rfl) ?_
          refine lv_iconst (v := (-1)) hx hb dMo_init_324 (by decide) ?_
          obtain ⟨hi4, hwp⟩ := hwp
          refine va_iast hx hb hK hP hD hS 2 0 rfl rfl hi4 dMo_init_325 (fun H locs hP hD hS => ?_)
          obtain ⟨σ5, eσ5⟩ : ∃ z, z = up2 σ3 1 y5.toNatClampNeg (-1) := ⟨_, rfl⟩
          have hwp := hwp σ5 eσ5
          have hP : va_P D clA (mw a tI tZ σ5) H := by rw [eσ5]; exact hP
          have hD : va_D A (mw a tI tZ σ5) := by rw [eσ5]; exact hD
          refine lv_iinc (k := 5) hx hb dMo_init_326 hl rfl (fx_inc1 _) (by decide) rfl (fun ls hl => ?_)
          have hl : lv_has ls 6 [(5, .int (y5 + 1)), (0, .ref (a 0)), (1, .int y1), (2, .int y2), (3, .int y3), (4, .int y4)] := hl
          refine lv_goto hx hb dMo_init_329 rfl ?_
          exact ih303 σ5 y1 y2 y3 y4 (y5 + 1) _ _ _ hwp hP hD hS (lv_sub hl [1, 2, 3, 4, 5, 0] rfl)
    have cut238 : ∀ (k238 : Nat) (σ : MS) (y1 : Int32) (y2 : Int32) (y3 : Int32) (y4 : Int32) (y5 : Int32) (H : Heap) (locs : List Loc) (ls : Array Slot), wM_init_238 R k238 σ y1 y2 y3 y4 y5 → va_P D clA (mw a tI tZ σ) H → va_D A (mw a tI tZ σ) → va_S A s.heap H locs → lv_has ls 6 [(0, .ref (a 0)), (1, .int y1), (2, .int y2), (3, .int y3), (4, .int y4), (5, .int y5)] → W p l e (headSpec wsMo_init rmM_init).room s m ([.ref h, .int x1, .int x2] : List Value).toArray below meth c H locs 24 2268 (MQ below (va_Qv (fun u : (Nat → Nat) × ClassId × ClassId × MS => R u.2.2.2 ∧ u.1 0 = h) (mIv D A) A) ([.ref h, .int x1, .int x2] : List Value).toArray s 24 2268 A) (F0 m 238 ls []) := by
      intro k238
      induction k238 with
      | zero => intro σ y1 y2 y3 y4 y5 H locs ls hwp hP hD hS hl; exact False.elim hwp
      | succ k238 ih238 =>
        intro σ y1 y2 y3 y4 y5 H locs ls hwp hP hD hS hl
        have cut270 : ∀ (σ : MS) (y1 : Int32) (y2 : Int32) (y3 : Int32) (y4 : Int32) (y5 : Int32) (z1 : Int32) (z2 : Int32) (H : Heap) (locs : List Loc) (ls : Array Slot), wM_init_270 (wM_init_238 R k238) R σ y1 y2 y3 y4 y5 z1 z2 → va_P D clA (mw a tI tZ σ) H → va_D A (mw a tI tZ σ) → va_S A s.heap H locs → lv_has ls 6 [(0, .ref (a 0)), (1, .int y1), (2, .int y2), (3, .int y3), (4, .int y4), (5, .int y5)] → W p l e (headSpec wsMo_init rmM_init).room s m ([.ref h, .int x1, .int x2] : List Value).toArray below meth c H locs 24 2268 (MQ below (va_Qv (fun u : (Nat → Nat) × ClassId × ClassId × MS => R u.2.2.2 ∧ u.1 0 = h) (mIv D A) A) ([.ref h, .int x1, .int x2] : List Value).toArray s 24 2268 A) (F0 m 270 ls [.int z2, .int z1, .ref (a 19)]) := by
          intro σ y1 y2 y3 y4 y5 z1 z2 H locs ls hwp hP hD hS hl
          obtain ⟨hi6, hwp⟩ := hwp
          refine va_iast hx hb hK hP hD hS 19 0 rfl rfl hi6 dMo_init_270 (fun H locs hP hD hS => ?_)
          obtain ⟨σ7, eσ7⟩ : ∃ z, z = up2 σ 24 z1.toNatClampNeg z2 := ⟨_, rfl⟩
          have hwp := hwp σ7 eσ7
          have hP : va_P D clA (mw a tI tZ σ7) H := by rw [eσ7]; exact hP
          have hD : va_D A (mw a tI tZ σ7) := by rw [eσ7]; exact hD
          refine lv_aload_n hx hb dMo_init_271 rfl (lv_at hl 0 rfl) ?_
          refine va_get (D := D) (ci := 0) (C := RMo) (T := TMo) (N := 33) hx hb hts hin0 hown hK hP 0 rfl rfl 25 (by decide) k72 (fun _ h9 => h9) rfl dMo_init_272 ?_
          refine lv_iload hx hb dMo_init_275 (lv_at hl 5 rfl) ?_
          refine lv_iconst (v := (-1)) hx hb dMo_init_277 (by decide) ?_
          obtain ⟨hi8, hwp⟩ := hwp
          refine va_iast hx hb hK hP hD hS 20 0 rfl rfl hi8 dMo_init_278 (fun H locs hP hD hS => ?_)
          obtain ⟨σ9, eσ9⟩ : ∃ z, z = up2 σ7 25 y5.toNatClampNeg (-1) := ⟨_, rfl⟩
          have hwp := hwp σ9 eσ9
          have hP : va_P D clA (mw a tI tZ σ9) H := by rw [eσ9]; exact hP
          have hD : va_D A (mw a tI tZ σ9) := by rw [eσ9]; exact hD
          refine lv_aload_n hx hb dMo_init_279 rfl (lv_at hl 0 rfl) ?_
          refine va_get (D := D) (ci := 0) (C := RMo) (T := TMo) (N := 33) hx hb hts hin0 hown hK hP 0 rfl rfl 30 (by decide) k84 (fun _ h9 => h9) rfl dMo_init_280 ?_
          refine lv_iload hx hb dMo_init_283 (lv_at hl 5 rfl) ?_
          refine lv_iconst (v := (-1)) hx hb dMo_init_285 (by decide) ?_
          obtain ⟨hi10, hwp⟩ := hwp
          refine va_iast hx hb hK hP hD hS 23 0 rfl rfl hi10 dMo_init_286 (fun H locs hP hD hS => ?_)
          obtain ⟨σ11, eσ11⟩ : ∃ z, z = up2 σ9 30 y5.toNatClampNeg (-1) := ⟨_, rfl⟩
          have hwp := hwp σ11 eσ11
          have hP : va_P D clA (mw a tI tZ σ11) H := by rw [eσ11]; exact hP
          have hD : va_D A (mw a tI tZ σ11) := by rw [eσ11]; exact hD
          refine lv_iinc (k := 5) hx hb dMo_init_287 hl rfl (fx_inc1 _) (by decide) rfl (fun ls hl => ?_)
          have hl : lv_has ls 6 [(5, .int (y5 + 1)), (0, .ref (a 0)), (1, .int y1), (2, .int y2), (3, .int y3), (4, .int y4)] := hl
          refine lv_goto hx hb dMo_init_290 rfl ?_
          exact ih238 σ11 y1 y2 y3 y4 (y5 + 1) _ _ _ hwp hP hD hS (lv_sub hl [1, 2, 3, 4, 5, 0] rfl)
        have hwp : wM_init_238_step (wM_init_238 R k238) R σ y1 y2 y3 y4 y5 := hwp
        refine lv_iload hx hb dMo_init_238 (lv_at hl 5 rfl) ?_
        refine lv_iconst (v := 4) hx hb dMo_init_240 (by decide) ?_
        refine lv_icmp_ge hx hb dMo_init_241 rfl (fun h12 => ?_) (fun h12 => ?_)
        · have hwp := hwp.1 h12
          refine lv_aload_n hx hb dMo_init_293 rfl (lv_at hl 0 rfl) ?_
          refine va_get (D := D) (ci := 0) (C := RMo) (T := TMo) (N := 33) hx hb hts hin0 hown hK hP 0 rfl rfl 20 (by decide) k56 (fun _ h9 => h9) rfl dMo_init_294 ?_
          refine lv_iconst (v := 3) hx hb dMo_init_297 (by decide) ?_
          refine lv_iconst (v := 1) hx hb dMo_init_298 (by decide) ?_
          refine va_iast hx hb hK hP hD hS 15 0 rfl rfl (by unfold vp_in; decide) dMo_init_299 (fun H locs hP hD hS => ?_)
          obtain ⟨σ13, eσ13⟩ : ∃ z, z = up2 σ 20 (3 : Int32).toNatClampNeg 1 := ⟨_, rfl⟩
          have hwp := hwp σ13 eσ13
          have hP : va_P D clA (mw a tI tZ σ13) H := by rw [eσ13]; exact hP
          have hD : va_D A (mw a tI tZ σ13) := by rw [eσ13]; exact hD
          refine lv_iconst (v := 0) hx hb dMo_init_300 (by decide) ?_
          refine lv_istore hx hb dMo_init_301 hl (by decide) rfl (fun ls hl => ?_)
          have hl : lv_has ls 6 [(5, .int 0), (0, .ref (a 0)), (1, .int y1), (2, .int y2), (3, .int y3), (4, .int y4)] := hl
          exact cut303 17 σ13 y1 y2 y3 y4 0 _ _ _ hwp hP hD hS (lv_sub hl [1, 2, 3, 4, 5, 0] rfl)
        · have hwp := hwp.2 h12
          refine lv_aload_n hx hb dMo_init_244 rfl (lv_at hl 0 rfl) ?_
          refine va_get (D := D) (ci := 0) (C := RMo) (T := TMo) (N := 33) hx hb hts hin0 hown hK hP 0 rfl rfl 24 (by decide) k69 (fun _ h9 => h9) rfl dMo_init_245 ?_
          refine lv_iload hx hb dMo_init_248 (lv_at hl 5 rfl) ?_
          refine lv_iload hx hb dMo_init_250 (lv_at hl 4 rfl) ?_
          refine lv_if_ne hx hb dMo_init_252 rfl (fun h14 => ?_) (fun h14 => ?_)
          · have hwp := hwp.1 h14
            refine lv_iload_n hx hb dMo_init_260 rfl (lv_at hl 3 rfl) ?_
            refine lv_iload hx hb dMo_init_261 (lv_at hl 5 rfl) ?_
            refine lv_iload hx hb dMo_init_263 (lv_at hl 4 rfl) ?_
            refine lv_imul hx hb dMo_init_265 ?_
            refine lv_iadd hx hb dMo_init_266 ?_
            refine lv_bipush (v := 101) hx hb dMo_init_267 (by decide) ?_
            refine lv_irem hx hb dMo_init_269 (by decide) ?_
            exact cut270 σ y1 y2 y3 y4 y5 y5 ((y3 + (y5 * y4)) - (y3 + (y5 * y4)) / 101 * 101) _ _ _ hwp hP hD hS (lv_sub hl [0, 1, 2, 3, 4, 5] rfl)
          · have hwp := hwp.2 h14
            refine lv_iload hx hb dMo_init_255 (lv_at hl 5 rfl) ?_
            refine lv_goto hx hb dMo_init_257 rfl ?_
            exact cut270 σ y1 y2 y3 y4 y5 y5 y5 _ _ _ hwp hP hD hS (lv_sub hl [0, 1, 2, 3, 4, 5] rfl)
    have cut233 : ∀ (σ : MS) (y1 : Int32) (y2 : Int32) (y3 : Int32) (z0 : Int32) (H : Heap) (locs : List Loc) (ls : Array Slot), wM_init_233 R σ y1 y2 y3 z0 → va_P D clA (mw a tI tZ σ) H → va_D A (mw a tI tZ σ) → va_S A s.heap H locs → lv_has ls 6 [(0, .ref (a 0)), (1, .int y1), (2, .int y2), (3, .int y3)] → W p l e (headSpec wsMo_init rmM_init).room s m ([.ref h, .int x1, .int x2] : List Value).toArray below meth c H locs 24 2268 (MQ below (va_Qv (fun u : (Nat → Nat) × ClassId × ClassId × MS => R u.2.2.2 ∧ u.1 0 = h) (mIv D A) A) ([.ref h, .int x1, .int x2] : List Value).toArray s 24 2268 A) (F0 m 233 ls [.int z0]) := by
      intro σ y1 y2 y3 z0 H locs ls hwp hP hD hS hl
      refine lv_istore hx hb dMo_init_233 hl (by decide) rfl (fun ls hl => ?_)
      have hl : lv_has ls 6 [(4, .int z0), (0, .ref (a 0)), (1, .int y1), (2, .int y2), (3, .int y3)] := hl
      refine lv_iconst (v := 0) hx hb dMo_init_235 (by decide) ?_
      refine lv_istore hx hb dMo_init_236 hl (by decide) rfl (fun ls hl => ?_)
      have hl : lv_has ls 6 [(5, .int 0), (4, .int z0), (0, .ref (a 0)), (1, .int y1), (2, .int y2), (3, .int y3)] := hl
      exact cut238 5 σ y1 y2 y3 z0 0 _ _ _ hwp hP hD hS (lv_sub hl [2, 3, 4, 5, 1, 0] rfl)
    have cut213 : ∀ (σ : MS) (y1 : Int32) (y2 : Int32) (z0 : Int32) (H : Heap) (locs : List Loc) (ls : Array Slot), wM_init_213 R σ y1 y2 z0 → va_P D clA (mw a tI tZ σ) H → va_D A (mw a tI tZ σ) → va_S A s.heap H locs → lv_has ls 6 [(0, .ref (a 0)), (1, .int y1), (2, .int y2)] → W p l e (headSpec wsMo_init rmM_init).room s m ([.ref h, .int x1, .int x2] : List Value).toArray below meth c H locs 24 2268 (MQ below (va_Qv (fun u : (Nat → Nat) × ClassId × ClassId × MS => R u.2.2.2 ∧ u.1 0 = h) (mIv D A) A) ([.ref h, .int x1, .int x2] : List Value).toArray s 24 2268 A) (F0 m 213 ls [.int z0]) := by
      intro σ y1 y2 z0 H locs ls hwp hP hD hS hl
      refine lv_istore_n hx hb dMo_init_213 rfl hl (by decide) rfl (fun ls hl => ?_)
      have hl : lv_has ls 6 [(3, .int z0), (0, .ref (a 0)), (1, .int y1), (2, .int y2)] := hl
      refine lv_iload_n hx hb dMo_init_214 rfl (lv_at hl 3 rfl) ?_
      refine lv_bipush (v := 101) hx hb dMo_init_215 (by decide) ?_
      refine lv_irem hx hb dMo_init_217 (by decide) ?_
      refine lv_if_ge hx hb dMo_init_218 rfl (fun h15 => ?_) (fun h15 => ?_)
      · have hwp := hwp.1 h15
        refine lv_iload_n hx hb dMo_init_229 rfl (lv_at hl 3 rfl) ?_
        refine lv_bipush (v := 101) hx hb dMo_init_230 (by decide) ?_
        refine lv_irem hx hb dMo_init_232 (by decide) ?_
        exact cut233 σ y1 y2 z0 (y2 - y2 / 101 * 101) _ _ _ hwp hP hD hS (lv_sub hl [1, 2, 3, 0] rfl)
      · have hwp := hwp.2 h15
        refine lv_iload_n hx hb dMo_init_221 rfl (lv_at hl 3 rfl) ?_
        refine lv_bipush (v := 101) hx hb dMo_init_222 (by decide) ?_
        refine lv_irem hx hb dMo_init_224 (by decide) ?_
        refine lv_ineg hx hb dMo_init_225 ?_
        refine lv_goto hx hb dMo_init_226 rfl ?_
        exact cut233 σ y1 y2 z0 (-(y2 - y2 / 101 * 101)) _ _ _ hwp hP hD hS (lv_sub hl [1, 2, 3, 0] rfl)
    intro H locs ls hwp hP hD hS hl
    obtain ⟨σ, eσ⟩ : ∃ z, z = mo0 := ⟨_, rfl⟩
    rw [← eσ] at hwp hP hD
    refine lv_iload_n hx hb dMo_init_194 rfl (lv_at hl 1 rfl) ?_
    refine lv_bipush (v := 101) hx hb dMo_init_195 (by decide) ?_
    refine lv_irem hx hb dMo_init_197 (by decide) ?_
    refine lv_if_ge hx hb dMo_init_198 rfl (fun h16 => ?_) (fun h16 => ?_)
    · have hwp := hwp.1 h16
      refine lv_iload_n hx hb dMo_init_209 rfl (lv_at hl 1 rfl) ?_
      refine lv_bipush (v := 101) hx hb dMo_init_210 (by decide) ?_
      refine lv_irem hx hb dMo_init_212 (by decide) ?_
      exact cut213 σ x1 x2 (x1 - x1 / 101 * 101) _ _ _ hwp hP hD hS (lv_sub hl [0, 1, 2] rfl)
    · have hwp := hwp.2 h16
      refine lv_iload_n hx hb dMo_init_201 rfl (lv_at hl 1 rfl) ?_
      refine lv_bipush (v := 101) hx hb dMo_init_202 (by decide) ?_
      refine lv_irem hx hb dMo_init_204 (by decide) ?_
      refine lv_ineg hx hb dMo_init_205 ?_
      refine lv_goto hx hb dMo_init_206 rfl ?_
      exact cut213 σ x1 x2 (-(x1 - x1 / 101 * 101)) _ _ _ hwp hP hD hS (lv_sub hl [0, 1, 2] rfl)
  have hS : va_S A s.heap s.heap [] := va_S.rf
  have hl := lv_entry ([.ref h, .int x1, .int x2]) (n := 6) (Nat.le_of_ble_eq_true rfl)
  rw [lg_entry_eq]
  generalize (lg_sl ([.ref h, .int x1, .int x2]) ++ List.replicate (6 - (lg_sl ([.ref h, .int x1, .int x2])).length) Slot.unset).toArray = ls at hl ⊢
  have hl : lv_has ls 6 [(0, .ref h), (1, .int x1), (2, .int x2)] := hl
  refine lv_aload_n hx hb dMo_init_0 rfl (lv_at hl 0 rfl) ?_
  refine W.objInit hx hb hown (hts _ (List.mem_cons_of_mem _ wm_735)) (hts _ (List.mem_cons_of_mem _ wm_27)) (hts _ (List.mem_cons_of_mem _ wm_28)) rfl (by rw [hml]; exact hl.1) rfl dMo_init_1 (Nat.le_of_ble_eq_true rfl) (Nat.le_of_ble_eq_true rfl) ?_
  refine W.eq (g2 := F0 m 4 ls []) rfl ?_
  refine lv_aload_n hx hb dMo_init_4 rfl (lv_at hl 0 rfl) ?_
  refine lv_bipush (v := 16) hx hb dMo_init_5 (by decide) ?_
  refine va_newa (atype := .int) (ty := .int) (N' := 16) (a0 := (16, .inl (fun _ => 0))) hx hb (hts _ (List.mem_cons_of_mem _ wm_109)) rfl hK hP hD hS (hA rfl) (fun _ => rfl) (by decide) (by decide) (by decide) (Nat.le_of_ble_eq_true rfl) (Nat.le_of_ble_eq_true rfl) dMo_init_7 (fun q1 tq H hK hP hD hS => ?_)
  obtain ⟨tI, etI⟩ : ∃ z, z = tq := ⟨_, rfl⟩
  subst etI
  have hK : va_K D clA [(tI, .int)] s := hK
  have hP : va_P D clA [(h, .inr (0, [.null, .null, .null, .null, .null, .null, .int 0, .int 0, .null, .int 0, .int 0, .null, .null, .null, .null, .null, .null, .int 0, .int 0, .null, .null, .null, .null, .null, .null, .null, .null, .int 0, .int 0, .null, .null, .null, .int 0])), (q1, .inl (tI, 16, .inl (fun _ => 0)))] H := hP
  have hD : va_D A [(h, .inr (0, [.null, .null, .null, .null, .null, .null, .int 0, .int 0, .null, .int 0, .int 0, .null, .null, .null, .null, .null, .null, .int 0, .int 0, .null, .null, .null, .null, .null, .null, .null, .null, .int 0, .int 0, .null, .null, .null, .int 0])), (q1, .inl (tI, 16, .inl (fun _ => 0)))] := hD
  refine W.widen (k := 1) (n := 16) (by omega) (by omega) ?_
  refine va_putF (v := .ref q1) (ty := .array .int) (D := D) (ci := 0) (C := RMo) (T := TMo) (N := 33) hx hb hts hin0 tyMo tyMo_ok nmMo hown hK hP hD hS 0 rfl rfl 0 (by decide) lk7 (fun _ h9 => h9) rfl hin rfl (by decide +kernel) rfl rfl (Nat.le_of_ble_eq_true rfl) dMo_init_9 (fun H locs hP hD hS => ?_)
  have hP : va_P D clA [(h, .inr (0, [.ref q1, .null, .null, .null, .null, .null, .int 0, .int 0, .null, .int 0, .int 0, .null, .null, .null, .null, .null, .null, .int 0, .int 0, .null, .null, .null, .null, .null, .null, .null, .null, .int 0, .int 0, .null, .null, .null, .int 0])), (q1, .inl (tI, 16, .inl (fun _ => 0)))] H := hP
  have hD : va_D A [(h, .inr (0, [.ref q1, .null, .null, .null, .null, .null, .int 0, .int 0, .null, .int 0, .int 0, .null, .null, .null, .null, .null, .null, .int 0, .int 0, .null, .null, .null, .null, .null, .null, .null, .null, .int 0, .int 0, .null, .null, .null, .int 0])), (q1, .inl (tI, 16, .inl (fun _ => 0)))] := hD
  refine lv_aload_n hx hb dMo_init_12 rfl (lv_at hl 0 rfl) ?_
  refine lv_bipush (v := 16) hx hb dMo_init_13 (by decide) ?_
  refine va_newa (atype := .int) (ty := .int) (N' := 16) (a0 := (16, .inl (fun _ => 0))) hx hb (hts _ (List.mem_cons_of_mem _ wm_109)) rfl hK hP hD hS (hA rfl) (fun _ => rfl) (by decide) (by decide) (by decide) (Nat.le_of_ble_eq_true rfl) (Nat.le_of_ble_eq_true rfl) dMo_init_15 (fun q2 tq H hK hP hD hS => ?_)
  have hK9 : va_K D clA [(tI, .int), (tq, .int)] s := hK
  have etq : tI = tq := Option.some.inj ((va_nm_int (hK9.2 0 _ rfl).2).symm.trans (va_nm_int (hK9.2 1 _ rfl).2))
  subst etq
  have hK : va_K D clA [(tI, .int)] s := hK9.sub [0] rfl
  have hP : va_P D clA [(h, .inr (0, [.ref q1, .null, .null, .null, .null, .null, .int 0, .int 0, .null, .int 0, .int 0, .null, .null, .null, .null, .null, .null, .int 0, .int 0, .null, .null, .null, .null, .null, .null, .null, .null, .int 0, .int 0, .null, .null, .null, .int 0])), (q1, .inl (tI, 16, .inl (fun _ => 0))), (q2, .inl (tI, 16, .inl (fun _ => 0)))] H := hP
  have hD : va_D A [(h, .inr (0, [.ref q1, .null, .null, .null, .null, .null, .int 0, .int 0, .null, .int 0, .int 0, .null, .null, .null, .null, .null, .null, .int 0, .int 0, .null, .null, .null, .null, .null, .null, .null, .null, .int 0, .int 0, .null, .null, .null, .int 0])), (q1, .inl (tI, 16, .inl (fun _ => 0))), (q2, .inl (tI, 16, .inl (fun _ => 0)))] := hD
  refine W.widen (k := 2) (n := 32) (by omega) (by omega) ?_
  refine va_putF (v := .ref q2) (ty := .array .int) (D := D) (ci := 0) (C := RMo) (T := TMo) (N := 33) hx hb hts hin0 tyMo tyMo_ok nmMo hown hK hP hD hS 0 rfl rfl 1 (by decide) lk13 (fun _ h9 => h9) rfl hin rfl (by decide +kernel) rfl rfl (Nat.le_of_ble_eq_true rfl) dMo_init_17 (fun H locs hP hD hS => ?_)
  have hP : va_P D clA [(h, .inr (0, [.ref q1, .ref q2, .null, .null, .null, .null, .int 0, .int 0, .null, .int 0, .int 0, .null, .null, .null, .null, .null, .null, .int 0, .int 0, .null, .null, .null, .null, .null, .null, .null, .null, .int 0, .int 0, .null, .null, .null, .int 0])), (q1, .inl (tI, 16, .inl (fun _ => 0))), (q2, .inl (tI, 16, .inl (fun _ => 0)))] H := hP
  have hD : va_D A [(h, .inr (0, [.ref q1, .ref q2, .null, .null, .null, .null, .int 0, .int 0, .null, .int 0, .int 0, .null, .null, .null, .null, .null, .null, .int 0, .int 0, .null, .null, .null, .null, .null, .null, .null, .null, .int 0, .int 0, .null, .null, .null, .int 0])), (q1, .inl (tI, 16, .inl (fun _ => 0))), (q2, .inl (tI, 16, .inl (fun _ => 0)))] := hD
  refine lv_aload_n hx hb dMo_init_20 rfl (lv_at hl 0 rfl) ?_
  refine lv_bipush (v := 16) hx hb dMo_init_21 (by decide) ?_
  refine va_newa (atype := .int) (ty := .int) (N' := 16) (a0 := (16, .inl (fun _ => 0))) hx hb (hts _ (List.mem_cons_of_mem _ wm_109)) rfl hK hP hD hS (hA rfl) (fun _ => rfl) (by decide) (by decide) (by decide) (Nat.le_of_ble_eq_true rfl) (Nat.le_of_ble_eq_true rfl) dMo_init_23 (fun q3 tq H hK hP hD hS => ?_)
  have hK9 : va_K D clA [(tI, .int), (tq, .int)] s := hK
  have etq : tI = tq := Option.some.inj ((va_nm_int (hK9.2 0 _ rfl).2).symm.trans (va_nm_int (hK9.2 1 _ rfl).2))
  subst etq
  have hK : va_K D clA [(tI, .int)] s := hK9.sub [0] rfl
  have hP : va_P D clA [(h, .inr (0, [.ref q1, .ref q2, .null, .null, .null, .null, .int 0, .int 0, .null, .int 0, .int 0, .null, .null, .null, .null, .null, .null, .int 0, .int 0, .null, .null, .null, .null, .null, .null, .null, .null, .int 0, .int 0, .null, .null, .null, .int 0])), (q1, .inl (tI, 16, .inl (fun _ => 0))), (q2, .inl (tI, 16, .inl (fun _ => 0))), (q3, .inl (tI, 16, .inl (fun _ => 0)))] H := hP
  have hD : va_D A [(h, .inr (0, [.ref q1, .ref q2, .null, .null, .null, .null, .int 0, .int 0, .null, .int 0, .int 0, .null, .null, .null, .null, .null, .null, .int 0, .int 0, .null, .null, .null, .null, .null, .null, .null, .null, .int 0, .int 0, .null, .null, .null, .int 0])), (q1, .inl (tI, 16, .inl (fun _ => 0))), (q2, .inl (tI, 16, .inl (fun _ => 0))), (q3, .inl (tI, 16, .inl (fun _ => 0)))] := hD
  refine W.widen (k := 3) (n := 48) (by omega) (by omega) ?_
  refine va_putF (v := .ref q3) (ty := .array .int) (D := D) (ci := 0) (C := RMo) (T := TMo) (N := 33) hx hb hts hin0 tyMo tyMo_ok nmMo hown hK hP hD hS 0 rfl rfl 2 (by decide) lk16 (fun _ h9 => h9) rfl hin rfl (by decide +kernel) rfl rfl (Nat.le_of_ble_eq_true rfl) dMo_init_25 (fun H locs hP hD hS => ?_)
  have hP : va_P D clA [(h, .inr (0, [.ref q1, .ref q2, .ref q3, .null, .null, .null, .int 0, .int 0, .null, .int 0, .int 0, .null, .null, .null, .null, .null, .null, .int 0, .int 0, .null, .null, .null, .null, .null, .null, .null, .null, .int 0, .int 0, .null, .null, .null, .int 0])), (q1, .inl (tI, 16, .inl (fun _ => 0))), (q2, .inl (tI, 16, .inl (fun _ => 0))), (q3, .inl (tI, 16, .inl (fun _ => 0)))] H := hP
  have hD : va_D A [(h, .inr (0, [.ref q1, .ref q2, .ref q3, .null, .null, .null, .int 0, .int 0, .null, .int 0, .int 0, .null, .null, .null, .null, .null, .null, .int 0, .int 0, .null, .null, .null, .null, .null, .null, .null, .null, .int 0, .int 0, .null, .null, .null, .int 0])), (q1, .inl (tI, 16, .inl (fun _ => 0))), (q2, .inl (tI, 16, .inl (fun _ => 0))), (q3, .inl (tI, 16, .inl (fun _ => 0)))] := hD
  refine lv_aload_n hx hb dMo_init_28 rfl (lv_at hl 0 rfl) ?_
  refine lv_sipush (v := 700) hx hb dMo_init_29 (by decide) ?_
  refine va_newa (atype := .int) (ty := .int) (N' := 700) (a0 := (700, .inl (fun _ => 0))) hx hb (hts _ (List.mem_cons_of_mem _ wm_109)) rfl hK hP hD hS (hA rfl) (fun _ => rfl) (by decide) (by decide) (by decide) (Nat.le_of_ble_eq_true rfl) (Nat.le_of_ble_eq_true rfl) dMo_init_32 (fun q4 tq H hK hP hD hS => ?_)
  have hK9 : va_K D clA [(tI, .int), (tq, .int)] s := hK
  have etq : tI = tq := Option.some.inj ((va_nm_int (hK9.2 0 _ rfl).2).symm.trans (va_nm_int (hK9.2 1 _ rfl).2))
  subst etq
  have hK : va_K D clA [(tI, .int)] s := hK9.sub [0] rfl
  have hP : va_P D clA [(h, .inr (0, [.ref q1, .ref q2, .ref q3, .null, .null, .null, .int 0, .int 0, .null, .int 0, .int 0, .null, .null, .null, .null, .null, .null, .int 0, .int 0, .null, .null, .null, .null, .null, .null, .null, .null, .int 0, .int 0, .null, .null, .null, .int 0])), (q1, .inl (tI, 16, .inl (fun _ => 0))), (q2, .inl (tI, 16, .inl (fun _ => 0))), (q3, .inl (tI, 16, .inl (fun _ => 0))), (q4, .inl (tI, 700, .inl (fun _ => 0)))] H := hP
  have hD : va_D A [(h, .inr (0, [.ref q1, .ref q2, .ref q3, .null, .null, .null, .int 0, .int 0, .null, .int 0, .int 0, .null, .null, .null, .null, .null, .null, .int 0, .int 0, .null, .null, .null, .null, .null, .null, .null, .null, .int 0, .int 0, .null, .null, .null, .int 0])), (q1, .inl (tI, 16, .inl (fun _ => 0))), (q2, .inl (tI, 16, .inl (fun _ => 0))), (q3, .inl (tI, 16, .inl (fun _ => 0))), (q4, .inl (tI, 700, .inl (fun _ => 0)))] := hD
  refine W.widen (k := 4) (n := 748) (by omega) (by omega) ?_
  refine va_putF (v := .ref q4) (ty := .array .int) (D := D) (ci := 0) (C := RMo) (T := TMo) (N := 33) hx hb hts hin0 tyMo tyMo_ok nmMo hown hK hP hD hS 0 rfl rfl 3 (by decide) lk19 (fun _ h9 => h9) rfl hin rfl (by decide +kernel) rfl rfl (Nat.le_of_ble_eq_true rfl) dMo_init_34 (fun H locs hP hD hS => ?_)
  have hP : va_P D clA [(h, .inr (0, [.ref q1, .ref q2, .ref q3, .ref q4, .null, .null, .int 0, .int 0, .null, .int 0, .int 0, .null, .null, .null, .null, .null, .null, .int 0, .int 0, .null, .null, .null, .null, .null, .null, .null, .null, .int 0, .int 0, .null, .null, .null, .int 0])), (q1, .inl (tI, 16, .inl (fun _ => 0))), (q2, .inl (tI, 16, .inl (fun _ => 0))), (q3, .inl (tI, 16, .inl (fun _ => 0))), (q4, .inl (tI, 700, .inl (fun _ => 0)))] H := hP
  have hD : va_D A [(h, .inr (0, [.ref q1, .ref q2, .ref q3, .ref q4, .null, .null, .int 0, .int 0, .null, .int 0, .int 0, .null, .null, .null, .null, .null, .null, .int 0, .int 0, .null, .null, .null, .null, .null, .null, .null, .null, .int 0, .int 0, .null, .null, .null, .int 0])), (q1, .inl (tI, 16, .inl (fun _ => 0))), (q2, .inl (tI, 16, .inl (fun _ => 0))), (q3, .inl (tI, 16, .inl (fun _ => 0))), (q4, .inl (tI, 700, .inl (fun _ => 0)))] := hD
  refine lv_aload_n hx hb dMo_init_37 rfl (lv_at hl 0 rfl) ?_
  refine lv_sipush (v := 700) hx hb dMo_init_38 (by decide) ?_
  refine va_newa (atype := .int) (ty := .int) (N' := 700) (a0 := (700, .inl (fun _ => 0))) hx hb (hts _ (List.mem_cons_of_mem _ wm_109)) rfl hK hP hD hS (hA rfl) (fun _ => rfl) (by decide) (by decide) (by decide) (Nat.le_of_ble_eq_true rfl) (Nat.le_of_ble_eq_true rfl) dMo_init_41 (fun q5 tq H hK hP hD hS => ?_)
  have hK9 : va_K D clA [(tI, .int), (tq, .int)] s := hK
  have etq : tI = tq := Option.some.inj ((va_nm_int (hK9.2 0 _ rfl).2).symm.trans (va_nm_int (hK9.2 1 _ rfl).2))
  subst etq
  have hK : va_K D clA [(tI, .int)] s := hK9.sub [0] rfl
  have hP : va_P D clA [(h, .inr (0, [.ref q1, .ref q2, .ref q3, .ref q4, .null, .null, .int 0, .int 0, .null, .int 0, .int 0, .null, .null, .null, .null, .null, .null, .int 0, .int 0, .null, .null, .null, .null, .null, .null, .null, .null, .int 0, .int 0, .null, .null, .null, .int 0])), (q1, .inl (tI, 16, .inl (fun _ => 0))), (q2, .inl (tI, 16, .inl (fun _ => 0))), (q3, .inl (tI, 16, .inl (fun _ => 0))), (q4, .inl (tI, 700, .inl (fun _ => 0))), (q5, .inl (tI, 700, .inl (fun _ => 0)))] H := hP
  have hD : va_D A [(h, .inr (0, [.ref q1, .ref q2, .ref q3, .ref q4, .null, .null, .int 0, .int 0, .null, .int 0, .int 0, .null, .null, .null, .null, .null, .null, .int 0, .int 0, .null, .null, .null, .null, .null, .null, .null, .null, .int 0, .int 0, .null, .null, .null, .int 0])), (q1, .inl (tI, 16, .inl (fun _ => 0))), (q2, .inl (tI, 16, .inl (fun _ => 0))), (q3, .inl (tI, 16, .inl (fun _ => 0))), (q4, .inl (tI, 700, .inl (fun _ => 0))), (q5, .inl (tI, 700, .inl (fun _ => 0)))] := hD
  refine W.widen (k := 5) (n := 1448) (by omega) (by omega) ?_
  refine va_putF (v := .ref q5) (ty := .array .int) (D := D) (ci := 0) (C := RMo) (T := TMo) (N := 33) hx hb hts hin0 tyMo tyMo_ok nmMo hown hK hP hD hS 0 rfl rfl 4 (by decide) lk22 (fun _ h9 => h9) rfl hin rfl (by decide +kernel) rfl rfl (Nat.le_of_ble_eq_true rfl) dMo_init_43 (fun H locs hP hD hS => ?_)
  have hP : va_P D clA [(h, .inr (0, [.ref q1, .ref q2, .ref q3, .ref q4, .ref q5, .null, .int 0, .int 0, .null, .int 0, .int 0, .null, .null, .null, .null, .null, .null, .int 0, .int 0, .null, .null, .null, .null, .null, .null, .null, .null, .int 0, .int 0, .null, .null, .null, .int 0])), (q1, .inl (tI, 16, .inl (fun _ => 0))), (q2, .inl (tI, 16, .inl (fun _ => 0))), (q3, .inl (tI, 16, .inl (fun _ => 0))), (q4, .inl (tI, 700, .inl (fun _ => 0))), (q5, .inl (tI, 700, .inl (fun _ => 0)))] H := hP
  have hD : va_D A [(h, .inr (0, [.ref q1, .ref q2, .ref q3, .ref q4, .ref q5, .null, .int 0, .int 0, .null, .int 0, .int 0, .null, .null, .null, .null, .null, .null, .int 0, .int 0, .null, .null, .null, .null, .null, .null, .null, .null, .int 0, .int 0, .null, .null, .null, .int 0])), (q1, .inl (tI, 16, .inl (fun _ => 0))), (q2, .inl (tI, 16, .inl (fun _ => 0))), (q3, .inl (tI, 16, .inl (fun _ => 0))), (q4, .inl (tI, 700, .inl (fun _ => 0))), (q5, .inl (tI, 700, .inl (fun _ => 0)))] := hD
  refine lv_aload_n hx hb dMo_init_46 rfl (lv_at hl 0 rfl) ?_
  refine lv_sipush (v := 700) hx hb dMo_init_47 (by decide) ?_
  refine va_newa (atype := .int) (ty := .int) (N' := 700) (a0 := (700, .inl (fun _ => 0))) hx hb (hts _ (List.mem_cons_of_mem _ wm_109)) rfl hK hP hD hS (hA rfl) (fun _ => rfl) (by decide) (by decide) (by decide) (Nat.le_of_ble_eq_true rfl) (Nat.le_of_ble_eq_true rfl) dMo_init_50 (fun q6 tq H hK hP hD hS => ?_)
  have hK9 : va_K D clA [(tI, .int), (tq, .int)] s := hK
  have etq : tI = tq := Option.some.inj ((va_nm_int (hK9.2 0 _ rfl).2).symm.trans (va_nm_int (hK9.2 1 _ rfl).2))
  subst etq
  have hK : va_K D clA [(tI, .int)] s := hK9.sub [0] rfl
  have hP : va_P D clA [(h, .inr (0, [.ref q1, .ref q2, .ref q3, .ref q4, .ref q5, .null, .int 0, .int 0, .null, .int 0, .int 0, .null, .null, .null, .null, .null, .null, .int 0, .int 0, .null, .null, .null, .null, .null, .null, .null, .null, .int 0, .int 0, .null, .null, .null, .int 0])), (q1, .inl (tI, 16, .inl (fun _ => 0))), (q2, .inl (tI, 16, .inl (fun _ => 0))), (q3, .inl (tI, 16, .inl (fun _ => 0))), (q4, .inl (tI, 700, .inl (fun _ => 0))), (q5, .inl (tI, 700, .inl (fun _ => 0))), (q6, .inl (tI, 700, .inl (fun _ => 0)))] H := hP
  have hD : va_D A [(h, .inr (0, [.ref q1, .ref q2, .ref q3, .ref q4, .ref q5, .null, .int 0, .int 0, .null, .int 0, .int 0, .null, .null, .null, .null, .null, .null, .int 0, .int 0, .null, .null, .null, .null, .null, .null, .null, .null, .int 0, .int 0, .null, .null, .null, .int 0])), (q1, .inl (tI, 16, .inl (fun _ => 0))), (q2, .inl (tI, 16, .inl (fun _ => 0))), (q3, .inl (tI, 16, .inl (fun _ => 0))), (q4, .inl (tI, 700, .inl (fun _ => 0))), (q5, .inl (tI, 700, .inl (fun _ => 0))), (q6, .inl (tI, 700, .inl (fun _ => 0)))] := hD
  refine W.widen (k := 6) (n := 2148) (by omega) (by omega) ?_
  refine va_putF (v := .ref q6) (ty := .array .int) (D := D) (ci := 0) (C := RMo) (T := TMo) (N := 33) hx hb hts hin0 tyMo tyMo_ok nmMo hown hK hP hD hS 0 rfl rfl 5 (by decide) lk25 (fun _ h9 => h9) rfl hin rfl (by decide +kernel) rfl rfl (Nat.le_of_ble_eq_true rfl) dMo_init_52 (fun H locs hP hD hS => ?_)
  have hP : va_P D clA [(h, .inr (0, [.ref q1, .ref q2, .ref q3, .ref q4, .ref q5, .ref q6, .int 0, .int 0, .null, .int 0, .int 0, .null, .null, .null, .null, .null, .null, .int 0, .int 0, .null, .null, .null, .null, .null, .null, .null, .null, .int 0, .int 0, .null, .null, .null, .int 0])), (q1, .inl (tI, 16, .inl (fun _ => 0))), (q2, .inl (tI, 16, .inl (fun _ => 0))), (q3, .inl (tI, 16, .inl (fun _ => 0))), (q4, .inl (tI, 700, .inl (fun _ => 0))), (q5, .inl (tI, 700, .inl (fun _ => 0))), (q6, .inl (tI, 700, .inl (fun _ => 0)))] H := hP
  have hD : va_D A [(h, .inr (0, [.ref q1, .ref q2, .ref q3, .ref q4, .ref q5, .ref q6, .int 0, .int 0, .null, .int 0, .int 0, .null, .null, .null, .null, .null, .null, .int 0, .int 0, .null, .null, .null, .null, .null, .null, .null, .null, .int 0, .int 0, .null, .null, .null, .int 0])), (q1, .inl (tI, 16, .inl (fun _ => 0))), (q2, .inl (tI, 16, .inl (fun _ => 0))), (q3, .inl (tI, 16, .inl (fun _ => 0))), (q4, .inl (tI, 700, .inl (fun _ => 0))), (q5, .inl (tI, 700, .inl (fun _ => 0))), (q6, .inl (tI, 700, .inl (fun _ => 0)))] := hD
  refine lv_aload_n hx hb dMo_init_55 rfl (lv_at hl 0 rfl) ?_
  refine lv_iconst (v := (-1)) hx hb dMo_init_56 (by decide) ?_
  refine va_put (ty := .int) (D := D) (ci := 0) (C := RMo) (T := TMo) (N := 33) hx hb hts hin0 tyMo tyMo_ok nmMo hown hK hP hD hS 0 rfl rfl 7 (by decide) lk28 (fun _ h9 => h9) rfl (by decide +kernel) rfl rfl (Nat.le_of_ble_eq_true rfl) dMo_init_57 (fun H locs hP hD hS => ?_)
  have hP : va_P D clA [(h, .inr (0, [.ref q1, .ref q2, .ref q3, .ref q4, .ref q5, .ref q6, .int 0, .int (-1), .null, .int 0, .int 0, .null, .null, .null, .null, .null, .null, .int 0, .int 0, .null, .null, .null, .null, .null, .null, .null, .null, .int 0, .int 0, .null, .null, .null, .int 0])), (q1, .inl (tI, 16, .inl (fun _ => 0))), (q2, .inl (tI, 16, .inl (fun _ => 0))), (q3, .inl (tI, 16, .inl (fun _ => 0))), (q4, .inl (tI, 700, .inl (fun _ => 0))), (q5, .inl (tI, 700, .inl (fun _ => 0))), (q6, .inl (tI, 700, .inl (fun _ => 0)))] H := hP
  have hD : va_D A [(h, .inr (0, [.ref q1, .ref q2, .ref q3, .ref q4, .ref q5, .ref q6, .int 0, .int (-1), .null, .int 0, .int 0, .null, .null, .null, .null, .null, .null, .int 0, .int 0, .null, .null, .null, .null, .null, .null, .null, .null, .int 0, .int 0, .null, .null, .null, .int 0])), (q1, .inl (tI, 16, .inl (fun _ => 0))), (q2, .inl (tI, 16, .inl (fun _ => 0))), (q3, .inl (tI, 16, .inl (fun _ => 0))), (q4, .inl (tI, 700, .inl (fun _ => 0))), (q5, .inl (tI, 700, .inl (fun _ => 0))), (q6, .inl (tI, 700, .inl (fun _ => 0)))] := hD
  refine lv_aload_n hx hb dMo_init_60 rfl (lv_at hl 0 rfl) ?_
  refine lv_bipush (v := 12) hx hb dMo_init_61 (by decide) ?_
  refine va_newa (atype := .int) (ty := .int) (N' := 12) (a0 := (12, .inl (fun _ => 0))) hx hb (hts _ (List.mem_cons_of_mem _ wm_109)) rfl hK hP hD hS (hA rfl) (fun _ => rfl) (by decide) (by decide) (by decide) (Nat.le_of_ble_eq_true rfl) (Nat.le_of_ble_eq_true rfl) dMo_init_63 (fun q7 tq H hK hP hD hS => ?_)
  have hK9 : va_K D clA [(tI, .int), (tq, .int)] s := hK
  have etq : tI = tq := Option.some.inj ((va_nm_int (hK9.2 0 _ rfl).2).symm.trans (va_nm_int (hK9.2 1 _ rfl).2))
  subst etq
  have hK : va_K D clA [(tI, .int)] s := hK9.sub [0] rfl
  have hP : va_P D clA [(h, .inr (0, [.ref q1, .ref q2, .ref q3, .ref q4, .ref q5, .ref q6, .int 0, .int (-1), .null, .int 0, .int 0, .null, .null, .null, .null, .null, .null, .int 0, .int 0, .null, .null, .null, .null, .null, .null, .null, .null, .int 0, .int 0, .null, .null, .null, .int 0])), (q1, .inl (tI, 16, .inl (fun _ => 0))), (q2, .inl (tI, 16, .inl (fun _ => 0))), (q3, .inl (tI, 16, .inl (fun _ => 0))), (q4, .inl (tI, 700, .inl (fun _ => 0))), (q5, .inl (tI, 700, .inl (fun _ => 0))), (q6, .inl (tI, 700, .inl (fun _ => 0))), (q7, .inl (tI, 12, .inl (fun _ => 0)))] H := hP
  have hD : va_D A [(h, .inr (0, [.ref q1, .ref q2, .ref q3, .ref q4, .ref q5, .ref q6, .int 0, .int (-1), .null, .int 0, .int 0, .null, .null, .null, .null, .null, .null, .int 0, .int 0, .null, .null, .null, .null, .null, .null, .null, .null, .int 0, .int 0, .null, .null, .null, .int 0])), (q1, .inl (tI, 16, .inl (fun _ => 0))), (q2, .inl (tI, 16, .inl (fun _ => 0))), (q3, .inl (tI, 16, .inl (fun _ => 0))), (q4, .inl (tI, 700, .inl (fun _ => 0))), (q5, .inl (tI, 700, .inl (fun _ => 0))), (q6, .inl (tI, 700, .inl (fun _ => 0))), (q7, .inl (tI, 12, .inl (fun _ => 0)))] := hD
  refine W.widen (k := 7) (n := 2160) (by omega) (by omega) ?_
  refine va_putF (v := .ref q7) (ty := .array .int) (D := D) (ci := 0) (C := RMo) (T := TMo) (N := 33) hx hb hts hin0 tyMo tyMo_ok nmMo hown hK hP hD hS 0 rfl rfl 8 (by decide) lk32 (fun _ h9 => h9) rfl hin rfl (by decide +kernel) rfl rfl (Nat.le_of_ble_eq_true rfl) dMo_init_65 (fun H locs hP hD hS => ?_)
  have hP : va_P D clA [(h, .inr (0, [.ref q1, .ref q2, .ref q3, .ref q4, .ref q5, .ref q6, .int 0, .int (-1), .ref q7, .int 0, .int 0, .null, .null, .null, .null, .null, .null, .int 0, .int 0, .null, .null, .null, .null, .null, .null, .null, .null, .int 0, .int 0, .null, .null, .null, .int 0])), (q1, .inl (tI, 16, .inl (fun _ => 0))), (q2, .inl (tI, 16, .inl (fun _ => 0))), (q3, .inl (tI, 16, .inl (fun _ => 0))), (q4, .inl (tI, 700, .inl (fun _ => 0))), (q5, .inl (tI, 700, .inl (fun _ => 0))), (q6, .inl (tI, 700, .inl (fun _ => 0))), (q7, .inl (tI, 12, .inl (fun _ => 0)))] H := hP
  have hD : va_D A [(h, .inr (0, [.ref q1, .ref q2, .ref q3, .ref q4, .ref q5, .ref q6, .int 0, .int (-1), .ref q7, .int 0, .int 0, .null, .null, .null, .null, .null, .null, .int 0, .int 0, .null, .null, .null, .null, .null, .null, .null, .null, .int 0, .int 0, .null, .null, .null, .int 0])), (q1, .inl (tI, 16, .inl (fun _ => 0))), (q2, .inl (tI, 16, .inl (fun _ => 0))), (q3, .inl (tI, 16, .inl (fun _ => 0))), (q4, .inl (tI, 700, .inl (fun _ => 0))), (q5, .inl (tI, 700, .inl (fun _ => 0))), (q6, .inl (tI, 700, .inl (fun _ => 0))), (q7, .inl (tI, 12, .inl (fun _ => 0)))] := hD
  refine lv_aload_n hx hb dMo_init_68 rfl (lv_at hl 0 rfl) ?_
  refine lv_iconst (v := 4) hx hb dMo_init_69 (by decide) ?_
  refine va_newa (atype := .int) (ty := .int) (N' := 4) (a0 := (4, .inl (fun _ => 0))) hx hb (hts _ (List.mem_cons_of_mem _ wm_109)) rfl hK hP hD hS (hA rfl) (fun _ => rfl) (by decide) (by decide) (by decide) (Nat.le_of_ble_eq_true rfl) (Nat.le_of_ble_eq_true rfl) dMo_init_70 (fun q8 tq H hK hP hD hS => ?_)
  have hK9 : va_K D clA [(tI, .int), (tq, .int)] s := hK
  have etq : tI = tq := Option.some.inj ((va_nm_int (hK9.2 0 _ rfl).2).symm.trans (va_nm_int (hK9.2 1 _ rfl).2))
  subst etq
  have hK : va_K D clA [(tI, .int)] s := hK9.sub [0] rfl
  have hP : va_P D clA [(h, .inr (0, [.ref q1, .ref q2, .ref q3, .ref q4, .ref q5, .ref q6, .int 0, .int (-1), .ref q7, .int 0, .int 0, .null, .null, .null, .null, .null, .null, .int 0, .int 0, .null, .null, .null, .null, .null, .null, .null, .null, .int 0, .int 0, .null, .null, .null, .int 0])), (q1, .inl (tI, 16, .inl (fun _ => 0))), (q2, .inl (tI, 16, .inl (fun _ => 0))), (q3, .inl (tI, 16, .inl (fun _ => 0))), (q4, .inl (tI, 700, .inl (fun _ => 0))), (q5, .inl (tI, 700, .inl (fun _ => 0))), (q6, .inl (tI, 700, .inl (fun _ => 0))), (q7, .inl (tI, 12, .inl (fun _ => 0))), (q8, .inl (tI, 4, .inl (fun _ => 0)))] H := hP
  have hD : va_D A [(h, .inr (0, [.ref q1, .ref q2, .ref q3, .ref q4, .ref q5, .ref q6, .int 0, .int (-1), .ref q7, .int 0, .int 0, .null, .null, .null, .null, .null, .null, .int 0, .int 0, .null, .null, .null, .null, .null, .null, .null, .null, .int 0, .int 0, .null, .null, .null, .int 0])), (q1, .inl (tI, 16, .inl (fun _ => 0))), (q2, .inl (tI, 16, .inl (fun _ => 0))), (q3, .inl (tI, 16, .inl (fun _ => 0))), (q4, .inl (tI, 700, .inl (fun _ => 0))), (q5, .inl (tI, 700, .inl (fun _ => 0))), (q6, .inl (tI, 700, .inl (fun _ => 0))), (q7, .inl (tI, 12, .inl (fun _ => 0))), (q8, .inl (tI, 4, .inl (fun _ => 0)))] := hD
  refine W.widen (k := 8) (n := 2164) (by omega) (by omega) ?_
  refine va_putF (v := .ref q8) (ty := .array .int) (D := D) (ci := 0) (C := RMo) (T := TMo) (N := 33) hx hb hts hin0 tyMo tyMo_ok nmMo hown hK hP hD hS 0 rfl rfl 11 (by decide) lk35 (fun _ h9 => h9) rfl hin rfl (by decide +kernel) rfl rfl (Nat.le_of_ble_eq_true rfl) dMo_init_72 (fun H locs hP hD hS => ?_)
  have hP : va_P D clA [(h, .inr (0, [.ref q1, .ref q2, .ref q3, .ref q4, .ref q5, .ref q6, .int 0, .int (-1), .ref q7, .int 0, .int 0, .ref q8, .null, .null, .null, .null, .null, .int 0, .int 0, .null, .null, .null, .null, .null, .null, .null, .null, .int 0, .int 0, .null, .null, .null, .int 0])), (q1, .inl (tI, 16, .inl (fun _ => 0))), (q2, .inl (tI, 16, .inl (fun _ => 0))), (q3, .inl (tI, 16, .inl (fun _ => 0))), (q4, .inl (tI, 700, .inl (fun _ => 0))), (q5, .inl (tI, 700, .inl (fun _ => 0))), (q6, .inl (tI, 700, .inl (fun _ => 0))), (q7, .inl (tI, 12, .inl (fun _ => 0))), (q8, .inl (tI, 4, .inl (fun _ => 0)))] H := hP
  have hD : va_D A [(h, .inr (0, [.ref q1, .ref q2, .ref q3, .ref q4, .ref q5, .ref q6, .int 0, .int (-1), .ref q7, .int 0, .int 0, .ref q8, .null, .null, .null, .null, .null, .int 0, .int 0, .null, .null, .null, .null, .null, .null, .null, .null, .int 0, .int 0, .null, .null, .null, .int 0])), (q1, .inl (tI, 16, .inl (fun _ => 0))), (q2, .inl (tI, 16, .inl (fun _ => 0))), (q3, .inl (tI, 16, .inl (fun _ => 0))), (q4, .inl (tI, 700, .inl (fun _ => 0))), (q5, .inl (tI, 700, .inl (fun _ => 0))), (q6, .inl (tI, 700, .inl (fun _ => 0))), (q7, .inl (tI, 12, .inl (fun _ => 0))), (q8, .inl (tI, 4, .inl (fun _ => 0)))] := hD
  refine lv_aload_n hx hb dMo_init_75 rfl (lv_at hl 0 rfl) ?_
  refine lv_iconst (v := 4) hx hb dMo_init_76 (by decide) ?_
  refine va_newa (atype := .int) (ty := .int) (N' := 4) (a0 := (4, .inl (fun _ => 0))) hx hb (hts _ (List.mem_cons_of_mem _ wm_109)) rfl hK hP hD hS (hA rfl) (fun _ => rfl) (by decide) (by decide) (by decide) (Nat.le_of_ble_eq_true rfl) (Nat.le_of_ble_eq_true rfl) dMo_init_77 (fun q9 tq H hK hP hD hS => ?_)
  have hK9 : va_K D clA [(tI, .int), (tq, .int)] s := hK
  have etq : tI = tq := Option.some.inj ((va_nm_int (hK9.2 0 _ rfl).2).symm.trans (va_nm_int (hK9.2 1 _ rfl).2))
  subst etq
  have hK : va_K D clA [(tI, .int)] s := hK9.sub [0] rfl
  have hP : va_P D clA [(h, .inr (0, [.ref q1, .ref q2, .ref q3, .ref q4, .ref q5, .ref q6, .int 0, .int (-1), .ref q7, .int 0, .int 0, .ref q8, .null, .null, .null, .null, .null, .int 0, .int 0, .null, .null, .null, .null, .null, .null, .null, .null, .int 0, .int 0, .null, .null, .null, .int 0])), (q1, .inl (tI, 16, .inl (fun _ => 0))), (q2, .inl (tI, 16, .inl (fun _ => 0))), (q3, .inl (tI, 16, .inl (fun _ => 0))), (q4, .inl (tI, 700, .inl (fun _ => 0))), (q5, .inl (tI, 700, .inl (fun _ => 0))), (q6, .inl (tI, 700, .inl (fun _ => 0))), (q7, .inl (tI, 12, .inl (fun _ => 0))), (q8, .inl (tI, 4, .inl (fun _ => 0))), (q9, .inl (tI, 4, .inl (fun _ => 0)))] H := hP
  have hD : va_D A [(h, .inr (0, [.ref q1, .ref q2, .ref q3, .ref q4, .ref q5, .ref q6, .int 0, .int (-1), .ref q7, .int 0, .int 0, .ref q8, .null, .null, .null, .null, .null, .int 0, .int 0, .null, .null, .null, .null, .null, .null, .null, .null, .int 0, .int 0, .null, .null, .null, .int 0])), (q1, .inl (tI, 16, .inl (fun _ => 0))), (q2, .inl (tI, 16, .inl (fun _ => 0))), (q3, .inl (tI, 16, .inl (fun _ => 0))), (q4, .inl (tI, 700, .inl (fun _ => 0))), (q5, .inl (tI, 700, .inl (fun _ => 0))), (q6, .inl (tI, 700, .inl (fun _ => 0))), (q7, .inl (tI, 12, .inl (fun _ => 0))), (q8, .inl (tI, 4, .inl (fun _ => 0))), (q9, .inl (tI, 4, .inl (fun _ => 0)))] := hD
  refine W.widen (k := 9) (n := 2168) (by omega) (by omega) ?_
  refine va_putF (v := .ref q9) (ty := .array .int) (D := D) (ci := 0) (C := RMo) (T := TMo) (N := 33) hx hb hts hin0 tyMo tyMo_ok nmMo hown hK hP hD hS 0 rfl rfl 12 (by decide) lk38 (fun _ h9 => h9) rfl hin rfl (by decide +kernel) rfl rfl (Nat.le_of_ble_eq_true rfl) dMo_init_79 (fun H locs hP hD hS => ?_)
  have hP : va_P D clA [(h, .inr (0, [.ref q1, .ref q2, .ref q3, .ref q4, .ref q5, .ref q6, .int 0, .int (-1), .ref q7, .int 0, .int 0, .ref q8, .ref q9, .null, .null, .null, .null, .int 0, .int 0, .null, .null, .null, .null, .null, .null, .null, .null, .int 0, .int 0, .null, .null, .null, .int 0])), (q1, .inl (tI, 16, .inl (fun _ => 0))), (q2, .inl (tI, 16, .inl (fun _ => 0))), (q3, .inl (tI, 16, .inl (fun _ => 0))), (q4, .inl (tI, 700, .inl (fun _ => 0))), (q5, .inl (tI, 700, .inl (fun _ => 0))), (q6, .inl (tI, 700, .inl (fun _ => 0))), (q7, .inl (tI, 12, .inl (fun _ => 0))), (q8, .inl (tI, 4, .inl (fun _ => 0))), (q9, .inl (tI, 4, .inl (fun _ => 0)))] H := hP
  have hD : va_D A [(h, .inr (0, [.ref q1, .ref q2, .ref q3, .ref q4, .ref q5, .ref q6, .int 0, .int (-1), .ref q7, .int 0, .int 0, .ref q8, .ref q9, .null, .null, .null, .null, .int 0, .int 0, .null, .null, .null, .null, .null, .null, .null, .null, .int 0, .int 0, .null, .null, .null, .int 0])), (q1, .inl (tI, 16, .inl (fun _ => 0))), (q2, .inl (tI, 16, .inl (fun _ => 0))), (q3, .inl (tI, 16, .inl (fun _ => 0))), (q4, .inl (tI, 700, .inl (fun _ => 0))), (q5, .inl (tI, 700, .inl (fun _ => 0))), (q6, .inl (tI, 700, .inl (fun _ => 0))), (q7, .inl (tI, 12, .inl (fun _ => 0))), (q8, .inl (tI, 4, .inl (fun _ => 0))), (q9, .inl (tI, 4, .inl (fun _ => 0)))] := hD
  refine lv_aload_n hx hb dMo_init_82 rfl (lv_at hl 0 rfl) ?_
  refine lv_iconst (v := 4) hx hb dMo_init_83 (by decide) ?_
  refine va_newa (atype := .int) (ty := .int) (N' := 4) (a0 := (4, .inl (fun _ => 0))) hx hb (hts _ (List.mem_cons_of_mem _ wm_109)) rfl hK hP hD hS (hA rfl) (fun _ => rfl) (by decide) (by decide) (by decide) (Nat.le_of_ble_eq_true rfl) (Nat.le_of_ble_eq_true rfl) dMo_init_84 (fun q10 tq H hK hP hD hS => ?_)
  have hK9 : va_K D clA [(tI, .int), (tq, .int)] s := hK
  have etq : tI = tq := Option.some.inj ((va_nm_int (hK9.2 0 _ rfl).2).symm.trans (va_nm_int (hK9.2 1 _ rfl).2))
  subst etq
  have hK : va_K D clA [(tI, .int)] s := hK9.sub [0] rfl
  have hP : va_P D clA [(h, .inr (0, [.ref q1, .ref q2, .ref q3, .ref q4, .ref q5, .ref q6, .int 0, .int (-1), .ref q7, .int 0, .int 0, .ref q8, .ref q9, .null, .null, .null, .null, .int 0, .int 0, .null, .null, .null, .null, .null, .null, .null, .null, .int 0, .int 0, .null, .null, .null, .int 0])), (q1, .inl (tI, 16, .inl (fun _ => 0))), (q2, .inl (tI, 16, .inl (fun _ => 0))), (q3, .inl (tI, 16, .inl (fun _ => 0))), (q4, .inl (tI, 700, .inl (fun _ => 0))), (q5, .inl (tI, 700, .inl (fun _ => 0))), (q6, .inl (tI, 700, .inl (fun _ => 0))), (q7, .inl (tI, 12, .inl (fun _ => 0))), (q8, .inl (tI, 4, .inl (fun _ => 0))), (q9, .inl (tI, 4, .inl (fun _ => 0))), (q10, .inl (tI, 4, .inl (fun _ => 0)))] H := hP
  have hD : va_D A [(h, .inr (0, [.ref q1, .ref q2, .ref q3, .ref q4, .ref q5, .ref q6, .int 0, .int (-1), .ref q7, .int 0, .int 0, .ref q8, .ref q9, .null, .null, .null, .null, .int 0, .int 0, .null, .null, .null, .null, .null, .null, .null, .null, .int 0, .int 0, .null, .null, .null, .int 0])), (q1, .inl (tI, 16, .inl (fun _ => 0))), (q2, .inl (tI, 16, .inl (fun _ => 0))), (q3, .inl (tI, 16, .inl (fun _ => 0))), (q4, .inl (tI, 700, .inl (fun _ => 0))), (q5, .inl (tI, 700, .inl (fun _ => 0))), (q6, .inl (tI, 700, .inl (fun _ => 0))), (q7, .inl (tI, 12, .inl (fun _ => 0))), (q8, .inl (tI, 4, .inl (fun _ => 0))), (q9, .inl (tI, 4, .inl (fun _ => 0))), (q10, .inl (tI, 4, .inl (fun _ => 0)))] := hD
  refine W.widen (k := 10) (n := 2172) (by omega) (by omega) ?_
  refine va_putF (v := .ref q10) (ty := .array .int) (D := D) (ci := 0) (C := RMo) (T := TMo) (N := 33) hx hb hts hin0 tyMo tyMo_ok nmMo hown hK hP hD hS 0 rfl rfl 13 (by decide) lk41 (fun _ h9 => h9) rfl hin rfl (by decide +kernel) rfl rfl (Nat.le_of_ble_eq_true rfl) dMo_init_86 (fun H locs hP hD hS => ?_)
  have hP : va_P D clA [(h, .inr (0, [.ref q1, .ref q2, .ref q3, .ref q4, .ref q5, .ref q6, .int 0, .int (-1), .ref q7, .int 0, .int 0, .ref q8, .ref q9, .ref q10, .null, .null, .null, .int 0, .int 0, .null, .null, .null, .null, .null, .null, .null, .null, .int 0, .int 0, .null, .null, .null, .int 0])), (q1, .inl (tI, 16, .inl (fun _ => 0))), (q2, .inl (tI, 16, .inl (fun _ => 0))), (q3, .inl (tI, 16, .inl (fun _ => 0))), (q4, .inl (tI, 700, .inl (fun _ => 0))), (q5, .inl (tI, 700, .inl (fun _ => 0))), (q6, .inl (tI, 700, .inl (fun _ => 0))), (q7, .inl (tI, 12, .inl (fun _ => 0))), (q8, .inl (tI, 4, .inl (fun _ => 0))), (q9, .inl (tI, 4, .inl (fun _ => 0))), (q10, .inl (tI, 4, .inl (fun _ => 0)))] H := hP
  have hD : va_D A [(h, .inr (0, [.ref q1, .ref q2, .ref q3, .ref q4, .ref q5, .ref q6, .int 0, .int (-1), .ref q7, .int 0, .int 0, .ref q8, .ref q9, .ref q10, .null, .null, .null, .int 0, .int 0, .null, .null, .null, .null, .null, .null, .null, .null, .int 0, .int 0, .null, .null, .null, .int 0])), (q1, .inl (tI, 16, .inl (fun _ => 0))), (q2, .inl (tI, 16, .inl (fun _ => 0))), (q3, .inl (tI, 16, .inl (fun _ => 0))), (q4, .inl (tI, 700, .inl (fun _ => 0))), (q5, .inl (tI, 700, .inl (fun _ => 0))), (q6, .inl (tI, 700, .inl (fun _ => 0))), (q7, .inl (tI, 12, .inl (fun _ => 0))), (q8, .inl (tI, 4, .inl (fun _ => 0))), (q9, .inl (tI, 4, .inl (fun _ => 0))), (q10, .inl (tI, 4, .inl (fun _ => 0)))] := hD
  refine lv_aload_n hx hb dMo_init_89 rfl (lv_at hl 0 rfl) ?_
  refine lv_iconst (v := 4) hx hb dMo_init_90 (by decide) ?_
  refine va_newa (atype := .int) (ty := .int) (N' := 4) (a0 := (4, .inl (fun _ => 0))) hx hb (hts _ (List.mem_cons_of_mem _ wm_109)) rfl hK hP hD hS (hA rfl) (fun _ => rfl) (by decide) (by decide) (by decide) (Nat.le_of_ble_eq_true rfl) (Nat.le_of_ble_eq_true rfl) dMo_init_91 (fun q11 tq H hK hP hD hS => ?_)
  have hK9 : va_K D clA [(tI, .int), (tq, .int)] s := hK
  have etq : tI = tq := Option.some.inj ((va_nm_int (hK9.2 0 _ rfl).2).symm.trans (va_nm_int (hK9.2 1 _ rfl).2))
  subst etq
  have hK : va_K D clA [(tI, .int)] s := hK9.sub [0] rfl
  have hP : va_P D clA [(h, .inr (0, [.ref q1, .ref q2, .ref q3, .ref q4, .ref q5, .ref q6, .int 0, .int (-1), .ref q7, .int 0, .int 0, .ref q8, .ref q9, .ref q10, .null, .null, .null, .int 0, .int 0, .null, .null, .null, .null, .null, .null, .null, .null, .int 0, .int 0, .null, .null, .null, .int 0])), (q1, .inl (tI, 16, .inl (fun _ => 0))), (q2, .inl (tI, 16, .inl (fun _ => 0))), (q3, .inl (tI, 16, .inl (fun _ => 0))), (q4, .inl (tI, 700, .inl (fun _ => 0))), (q5, .inl (tI, 700, .inl (fun _ => 0))), (q6, .inl (tI, 700, .inl (fun _ => 0))), (q7, .inl (tI, 12, .inl (fun _ => 0))), (q8, .inl (tI, 4, .inl (fun _ => 0))), (q9, .inl (tI, 4, .inl (fun _ => 0))), (q10, .inl (tI, 4, .inl (fun _ => 0))), (q11, .inl (tI, 4, .inl (fun _ => 0)))] H := hP
  have hD : va_D A [(h, .inr (0, [.ref q1, .ref q2, .ref q3, .ref q4, .ref q5, .ref q6, .int 0, .int (-1), .ref q7, .int 0, .int 0, .ref q8, .ref q9, .ref q10, .null, .null, .null, .int 0, .int 0, .null, .null, .null, .null, .null, .null, .null, .null, .int 0, .int 0, .null, .null, .null, .int 0])), (q1, .inl (tI, 16, .inl (fun _ => 0))), (q2, .inl (tI, 16, .inl (fun _ => 0))), (q3, .inl (tI, 16, .inl (fun _ => 0))), (q4, .inl (tI, 700, .inl (fun _ => 0))), (q5, .inl (tI, 700, .inl (fun _ => 0))), (q6, .inl (tI, 700, .inl (fun _ => 0))), (q7, .inl (tI, 12, .inl (fun _ => 0))), (q8, .inl (tI, 4, .inl (fun _ => 0))), (q9, .inl (tI, 4, .inl (fun _ => 0))), (q10, .inl (tI, 4, .inl (fun _ => 0))), (q11, .inl (tI, 4, .inl (fun _ => 0)))] := hD
  refine W.widen (k := 11) (n := 2176) (by omega) (by omega) ?_
  refine va_putF (v := .ref q11) (ty := .array .int) (D := D) (ci := 0) (C := RMo) (T := TMo) (N := 33) hx hb hts hin0 tyMo tyMo_ok nmMo hown hK hP hD hS 0 rfl rfl 14 (by decide) lk44 (fun _ h9 => h9) rfl hin rfl (by decide +kernel) rfl rfl (Nat.le_of_ble_eq_true rfl) dMo_init_93 (fun H locs hP hD hS => ?_)
  have hP : va_P D clA [(h, .inr (0, [.ref q1, .ref q2, .ref q3, .ref q4, .ref q5, .ref q6, .int 0, .int (-1), .ref q7, .int 0, .int 0, .ref q8, .ref q9, .ref q10, .ref q11, .null, .null, .int 0, .int 0, .null, .null, .null, .null, .null, .null, .null, .null, .int 0, .int 0, .null, .null, .null, .int 0])), (q1, .inl (tI, 16, .inl (fun _ => 0))), (q2, .inl (tI, 16, .inl (fun _ => 0))), (q3, .inl (tI, 16, .inl (fun _ => 0))), (q4, .inl (tI, 700, .inl (fun _ => 0))), (q5, .inl (tI, 700, .inl (fun _ => 0))), (q6, .inl (tI, 700, .inl (fun _ => 0))), (q7, .inl (tI, 12, .inl (fun _ => 0))), (q8, .inl (tI, 4, .inl (fun _ => 0))), (q9, .inl (tI, 4, .inl (fun _ => 0))), (q10, .inl (tI, 4, .inl (fun _ => 0))), (q11, .inl (tI, 4, .inl (fun _ => 0)))] H := hP
  have hD : va_D A [(h, .inr (0, [.ref q1, .ref q2, .ref q3, .ref q4, .ref q5, .ref q6, .int 0, .int (-1), .ref q7, .int 0, .int 0, .ref q8, .ref q9, .ref q10, .ref q11, .null, .null, .int 0, .int 0, .null, .null, .null, .null, .null, .null, .null, .null, .int 0, .int 0, .null, .null, .null, .int 0])), (q1, .inl (tI, 16, .inl (fun _ => 0))), (q2, .inl (tI, 16, .inl (fun _ => 0))), (q3, .inl (tI, 16, .inl (fun _ => 0))), (q4, .inl (tI, 700, .inl (fun _ => 0))), (q5, .inl (tI, 700, .inl (fun _ => 0))), (q6, .inl (tI, 700, .inl (fun _ => 0))), (q7, .inl (tI, 12, .inl (fun _ => 0))), (q8, .inl (tI, 4, .inl (fun _ => 0))), (q9, .inl (tI, 4, .inl (fun _ => 0))), (q10, .inl (tI, 4, .inl (fun _ => 0))), (q11, .inl (tI, 4, .inl (fun _ => 0)))] := hD
  refine lv_aload_n hx hb dMo_init_96 rfl (lv_at hl 0 rfl) ?_
  refine lv_bipush (v := 16) hx hb dMo_init_97 (by decide) ?_
  refine va_newa (atype := .int) (ty := .int) (N' := 16) (a0 := (16, .inl (fun _ => 0))) hx hb (hts _ (List.mem_cons_of_mem _ wm_109)) rfl hK hP hD hS (hA rfl) (fun _ => rfl) (by decide) (by decide) (by decide) (Nat.le_of_ble_eq_true rfl) (Nat.le_of_ble_eq_true rfl) dMo_init_99 (fun q12 tq H hK hP hD hS => ?_)
  have hK9 : va_K D clA [(tI, .int), (tq, .int)] s := hK
  have etq : tI = tq := Option.some.inj ((va_nm_int (hK9.2 0 _ rfl).2).symm.trans (va_nm_int (hK9.2 1 _ rfl).2))
  subst etq
  have hK : va_K D clA [(tI, .int)] s := hK9.sub [0] rfl
  have hP : va_P D clA [(h, .inr (0, [.ref q1, .ref q2, .ref q3, .ref q4, .ref q5, .ref q6, .int 0, .int (-1), .ref q7, .int 0, .int 0, .ref q8, .ref q9, .ref q10, .ref q11, .null, .null, .int 0, .int 0, .null, .null, .null, .null, .null, .null, .null, .null, .int 0, .int 0, .null, .null, .null, .int 0])), (q1, .inl (tI, 16, .inl (fun _ => 0))), (q2, .inl (tI, 16, .inl (fun _ => 0))), (q3, .inl (tI, 16, .inl (fun _ => 0))), (q4, .inl (tI, 700, .inl (fun _ => 0))), (q5, .inl (tI, 700, .inl (fun _ => 0))), (q6, .inl (tI, 700, .inl (fun _ => 0))), (q7, .inl (tI, 12, .inl (fun _ => 0))), (q8, .inl (tI, 4, .inl (fun _ => 0))), (q9, .inl (tI, 4, .inl (fun _ => 0))), (q10, .inl (tI, 4, .inl (fun _ => 0))), (q11, .inl (tI, 4, .inl (fun _ => 0))), (q12, .inl (tI, 16, .inl (fun _ => 0)))] H := hP
  have hD : va_D A [(h, .inr (0, [.ref q1, .ref q2, .ref q3, .ref q4, .ref q5, .ref q6, .int 0, .int (-1), .ref q7, .int 0, .int 0, .ref q8, .ref q9, .ref q10, .ref q11, .null, .null, .int 0, .int 0, .null, .null, .null, .null, .null, .null, .null, .null, .int 0, .int 0, .null, .null, .null, .int 0])), (q1, .inl (tI, 16, .inl (fun _ => 0))), (q2, .inl (tI, 16, .inl (fun _ => 0))), (q3, .inl (tI, 16, .inl (fun _ => 0))), (q4, .inl (tI, 700, .inl (fun _ => 0))), (q5, .inl (tI, 700, .inl (fun _ => 0))), (q6, .inl (tI, 700, .inl (fun _ => 0))), (q7, .inl (tI, 12, .inl (fun _ => 0))), (q8, .inl (tI, 4, .inl (fun _ => 0))), (q9, .inl (tI, 4, .inl (fun _ => 0))), (q10, .inl (tI, 4, .inl (fun _ => 0))), (q11, .inl (tI, 4, .inl (fun _ => 0))), (q12, .inl (tI, 16, .inl (fun _ => 0)))] := hD
  refine W.widen (k := 12) (n := 2192) (by omega) (by omega) ?_
  refine va_putF (v := .ref q12) (ty := .array .int) (D := D) (ci := 0) (C := RMo) (T := TMo) (N := 33) hx hb hts hin0 tyMo tyMo_ok nmMo hown hK hP hD hS 0 rfl rfl 15 (by decide) lk47 (fun _ h9 => h9) rfl hin rfl (by decide +kernel) rfl rfl (Nat.le_of_ble_eq_true rfl) dMo_init_101 (fun H locs hP hD hS => ?_)
  have hP : va_P D clA [(h, .inr (0, [.ref q1, .ref q2, .ref q3, .ref q4, .ref q5, .ref q6, .int 0, .int (-1), .ref q7, .int 0, .int 0, .ref q8, .ref q9, .ref q10, .ref q11, .ref q12, .null, .int 0, .int 0, .null, .null, .null, .null, .null, .null, .null, .null, .int 0, .int 0, .null, .null, .null, .int 0])), (q1, .inl (tI, 16, .inl (fun _ => 0))), (q2, .inl (tI, 16, .inl (fun _ => 0))), (q3, .inl (tI, 16, .inl (fun _ => 0))), (q4, .inl (tI, 700, .inl (fun _ => 0))), (q5, .inl (tI, 700, .inl (fun _ => 0))), (q6, .inl (tI, 700, .inl (fun _ => 0))), (q7, .inl (tI, 12, .inl (fun _ => 0))), (q8, .inl (tI, 4, .inl (fun _ => 0))), (q9, .inl (tI, 4, .inl (fun _ => 0))), (q10, .inl (tI, 4, .inl (fun _ => 0))), (q11, .inl (tI, 4, .inl (fun _ => 0))), (q12, .inl (tI, 16, .inl (fun _ => 0)))] H := hP
  have hD : va_D A [(h, .inr (0, [.ref q1, .ref q2, .ref q3, .ref q4, .ref q5, .ref q6, .int 0, .int (-1), .ref q7, .int 0, .int 0, .ref q8, .ref q9, .ref q10, .ref q11, .ref q12, .null, .int 0, .int 0, .null, .null, .null, .null, .null, .null, .null, .null, .int 0, .int 0, .null, .null, .null, .int 0])), (q1, .inl (tI, 16, .inl (fun _ => 0))), (q2, .inl (tI, 16, .inl (fun _ => 0))), (q3, .inl (tI, 16, .inl (fun _ => 0))), (q4, .inl (tI, 700, .inl (fun _ => 0))), (q5, .inl (tI, 700, .inl (fun _ => 0))), (q6, .inl (tI, 700, .inl (fun _ => 0))), (q7, .inl (tI, 12, .inl (fun _ => 0))), (q8, .inl (tI, 4, .inl (fun _ => 0))), (q9, .inl (tI, 4, .inl (fun _ => 0))), (q10, .inl (tI, 4, .inl (fun _ => 0))), (q11, .inl (tI, 4, .inl (fun _ => 0))), (q12, .inl (tI, 16, .inl (fun _ => 0)))] := hD
  refine lv_aload_n hx hb dMo_init_104 rfl (lv_at hl 0 rfl) ?_
  refine lv_iconst (v := 4) hx hb dMo_init_105 (by decide) ?_
  refine va_newa (atype := .int) (ty := .int) (N' := 4) (a0 := (4, .inl (fun _ => 0))) hx hb (hts _ (List.mem_cons_of_mem _ wm_109)) rfl hK hP hD hS (hA rfl) (fun _ => rfl) (by decide) (by decide) (by decide) (Nat.le_of_ble_eq_true rfl) (Nat.le_of_ble_eq_true rfl) dMo_init_106 (fun q13 tq H hK hP hD hS => ?_)
  have hK9 : va_K D clA [(tI, .int), (tq, .int)] s := hK
  have etq : tI = tq := Option.some.inj ((va_nm_int (hK9.2 0 _ rfl).2).symm.trans (va_nm_int (hK9.2 1 _ rfl).2))
  subst etq
  have hK : va_K D clA [(tI, .int)] s := hK9.sub [0] rfl
  have hP : va_P D clA [(h, .inr (0, [.ref q1, .ref q2, .ref q3, .ref q4, .ref q5, .ref q6, .int 0, .int (-1), .ref q7, .int 0, .int 0, .ref q8, .ref q9, .ref q10, .ref q11, .ref q12, .null, .int 0, .int 0, .null, .null, .null, .null, .null, .null, .null, .null, .int 0, .int 0, .null, .null, .null, .int 0])), (q1, .inl (tI, 16, .inl (fun _ => 0))), (q2, .inl (tI, 16, .inl (fun _ => 0))), (q3, .inl (tI, 16, .inl (fun _ => 0))), (q4, .inl (tI, 700, .inl (fun _ => 0))), (q5, .inl (tI, 700, .inl (fun _ => 0))), (q6, .inl (tI, 700, .inl (fun _ => 0))), (q7, .inl (tI, 12, .inl (fun _ => 0))), (q8, .inl (tI, 4, .inl (fun _ => 0))), (q9, .inl (tI, 4, .inl (fun _ => 0))), (q10, .inl (tI, 4, .inl (fun _ => 0))), (q11, .inl (tI, 4, .inl (fun _ => 0))), (q12, .inl (tI, 16, .inl (fun _ => 0))), (q13, .inl (tI, 4, .inl (fun _ => 0)))] H := hP
  have hD : va_D A [(h, .inr (0, [.ref q1, .ref q2, .ref q3, .ref q4, .ref q5, .ref q6, .int 0, .int (-1), .ref q7, .int 0, .int 0, .ref q8, .ref q9, .ref q10, .ref q11, .ref q12, .null, .int 0, .int 0, .null, .null, .null, .null, .null, .null, .null, .null, .int 0, .int 0, .null, .null, .null, .int 0])), (q1, .inl (tI, 16, .inl (fun _ => 0))), (q2, .inl (tI, 16, .inl (fun _ => 0))), (q3, .inl (tI, 16, .inl (fun _ => 0))), (q4, .inl (tI, 700, .inl (fun _ => 0))), (q5, .inl (tI, 700, .inl (fun _ => 0))), (q6, .inl (tI, 700, .inl (fun _ => 0))), (q7, .inl (tI, 12, .inl (fun _ => 0))), (q8, .inl (tI, 4, .inl (fun _ => 0))), (q9, .inl (tI, 4, .inl (fun _ => 0))), (q10, .inl (tI, 4, .inl (fun _ => 0))), (q11, .inl (tI, 4, .inl (fun _ => 0))), (q12, .inl (tI, 16, .inl (fun _ => 0))), (q13, .inl (tI, 4, .inl (fun _ => 0)))] := hD
  refine W.widen (k := 13) (n := 2196) (by omega) (by omega) ?_
  refine va_putF (v := .ref q13) (ty := .array .int) (D := D) (ci := 0) (C := RMo) (T := TMo) (N := 33) hx hb hts hin0 tyMo tyMo_ok nmMo hown hK hP hD hS 0 rfl rfl 16 (by decide) lk50 (fun _ h9 => h9) rfl hin rfl (by decide +kernel) rfl rfl (Nat.le_of_ble_eq_true rfl) dMo_init_108 (fun H locs hP hD hS => ?_)
  have hP : va_P D clA [(h, .inr (0, [.ref q1, .ref q2, .ref q3, .ref q4, .ref q5, .ref q6, .int 0, .int (-1), .ref q7, .int 0, .int 0, .ref q8, .ref q9, .ref q10, .ref q11, .ref q12, .ref q13, .int 0, .int 0, .null, .null, .null, .null, .null, .null, .null, .null, .int 0, .int 0, .null, .null, .null, .int 0])), (q1, .inl (tI, 16, .inl (fun _ => 0))), (q2, .inl (tI, 16, .inl (fun _ => 0))), (q3, .inl (tI, 16, .inl (fun _ => 0))), (q4, .inl (tI, 700, .inl (fun _ => 0))), (q5, .inl (tI, 700, .inl (fun _ => 0))), (q6, .inl (tI, 700, .inl (fun _ => 0))), (q7, .inl (tI, 12, .inl (fun _ => 0))), (q8, .inl (tI, 4, .inl (fun _ => 0))), (q9, .inl (tI, 4, .inl (fun _ => 0))), (q10, .inl (tI, 4, .inl (fun _ => 0))), (q11, .inl (tI, 4, .inl (fun _ => 0))), (q12, .inl (tI, 16, .inl (fun _ => 0))), (q13, .inl (tI, 4, .inl (fun _ => 0)))] H := hP
  have hD : va_D A [(h, .inr (0, [.ref q1, .ref q2, .ref q3, .ref q4, .ref q5, .ref q6, .int 0, .int (-1), .ref q7, .int 0, .int 0, .ref q8, .ref q9, .ref q10, .ref q11, .ref q12, .ref q13, .int 0, .int 0, .null, .null, .null, .null, .null, .null, .null, .null, .int 0, .int 0, .null, .null, .null, .int 0])), (q1, .inl (tI, 16, .inl (fun _ => 0))), (q2, .inl (tI, 16, .inl (fun _ => 0))), (q3, .inl (tI, 16, .inl (fun _ => 0))), (q4, .inl (tI, 700, .inl (fun _ => 0))), (q5, .inl (tI, 700, .inl (fun _ => 0))), (q6, .inl (tI, 700, .inl (fun _ => 0))), (q7, .inl (tI, 12, .inl (fun _ => 0))), (q8, .inl (tI, 4, .inl (fun _ => 0))), (q9, .inl (tI, 4, .inl (fun _ => 0))), (q10, .inl (tI, 4, .inl (fun _ => 0))), (q11, .inl (tI, 4, .inl (fun _ => 0))), (q12, .inl (tI, 16, .inl (fun _ => 0))), (q13, .inl (tI, 4, .inl (fun _ => 0)))] := hD
  refine lv_aload_n hx hb dMo_init_111 rfl (lv_at hl 0 rfl) ?_
  refine lv_iconst (v := 4) hx hb dMo_init_112 (by decide) ?_
  refine va_newa (atype := .int) (ty := .int) (N' := 4) (a0 := (4, .inl (fun _ => 0))) hx hb (hts _ (List.mem_cons_of_mem _ wm_109)) rfl hK hP hD hS (hA rfl) (fun _ => rfl) (by decide) (by decide) (by decide) (Nat.le_of_ble_eq_true rfl) (Nat.le_of_ble_eq_true rfl) dMo_init_113 (fun q14 tq H hK hP hD hS => ?_)
  have hK9 : va_K D clA [(tI, .int), (tq, .int)] s := hK
  have etq : tI = tq := Option.some.inj ((va_nm_int (hK9.2 0 _ rfl).2).symm.trans (va_nm_int (hK9.2 1 _ rfl).2))
  subst etq
  have hK : va_K D clA [(tI, .int)] s := hK9.sub [0] rfl
  have hP : va_P D clA [(h, .inr (0, [.ref q1, .ref q2, .ref q3, .ref q4, .ref q5, .ref q6, .int 0, .int (-1), .ref q7, .int 0, .int 0, .ref q8, .ref q9, .ref q10, .ref q11, .ref q12, .ref q13, .int 0, .int 0, .null, .null, .null, .null, .null, .null, .null, .null, .int 0, .int 0, .null, .null, .null, .int 0])), (q1, .inl (tI, 16, .inl (fun _ => 0))), (q2, .inl (tI, 16, .inl (fun _ => 0))), (q3, .inl (tI, 16, .inl (fun _ => 0))), (q4, .inl (tI, 700, .inl (fun _ => 0))), (q5, .inl (tI, 700, .inl (fun _ => 0))), (q6, .inl (tI, 700, .inl (fun _ => 0))), (q7, .inl (tI, 12, .inl (fun _ => 0))), (q8, .inl (tI, 4, .inl (fun _ => 0))), (q9, .inl (tI, 4, .inl (fun _ => 0))), (q10, .inl (tI, 4, .inl (fun _ => 0))), (q11, .inl (tI, 4, .inl (fun _ => 0))), (q12, .inl (tI, 16, .inl (fun _ => 0))), (q13, .inl (tI, 4, .inl (fun _ => 0))), (q14, .inl (tI, 4, .inl (fun _ => 0)))] H := hP
  have hD : va_D A [(h, .inr (0, [.ref q1, .ref q2, .ref q3, .ref q4, .ref q5, .ref q6, .int 0, .int (-1), .ref q7, .int 0, .int 0, .ref q8, .ref q9, .ref q10, .ref q11, .ref q12, .ref q13, .int 0, .int 0, .null, .null, .null, .null, .null, .null, .null, .null, .int 0, .int 0, .null, .null, .null, .int 0])), (q1, .inl (tI, 16, .inl (fun _ => 0))), (q2, .inl (tI, 16, .inl (fun _ => 0))), (q3, .inl (tI, 16, .inl (fun _ => 0))), (q4, .inl (tI, 700, .inl (fun _ => 0))), (q5, .inl (tI, 700, .inl (fun _ => 0))), (q6, .inl (tI, 700, .inl (fun _ => 0))), (q7, .inl (tI, 12, .inl (fun _ => 0))), (q8, .inl (tI, 4, .inl (fun _ => 0))), (q9, .inl (tI, 4, .inl (fun _ => 0))), (q10, .inl (tI, 4, .inl (fun _ => 0))), (q11, .inl (tI, 4, .inl (fun _ => 0))), (q12, .inl (tI, 16, .inl (fun _ => 0))), (q13, .inl (tI, 4, .inl (fun _ => 0))), (q14, .inl (tI, 4, .inl (fun _ => 0)))] := hD
  refine W.widen (k := 14) (n := 2200) (by omega) (by omega) ?_
  refine va_putF (v := .ref q14) (ty := .array .int) (D := D) (ci := 0) (C := RMo) (T := TMo) (N := 33) hx hb hts hin0 tyMo tyMo_ok nmMo hown hK hP hD hS 0 rfl rfl 19 (by decide) lk53 (fun _ h9 => h9) rfl hin rfl (by decide +kernel) rfl rfl (Nat.le_of_ble_eq_true rfl) dMo_init_115 (fun H locs hP hD hS => ?_)
  have hP : va_P D clA [(h, .inr (0, [.ref q1, .ref q2, .ref q3, .ref q4, .ref q5, .ref q6, .int 0, .int (-1), .ref q7, .int 0, .int 0, .ref q8, .ref q9, .ref q10, .ref q11, .ref q12, .ref q13, .int 0, .int 0, .ref q14, .null, .null, .null, .null, .null, .null, .null, .int 0, .int 0, .null, .null, .null, .int 0])), (q1, .inl (tI, 16, .inl (fun _ => 0))), (q2, .inl (tI, 16, .inl (fun _ => 0))), (q3, .inl (tI, 16, .inl (fun _ => 0))), (q4, .inl (tI, 700, .inl (fun _ => 0))), (q5, .inl (tI, 700, .inl (fun _ => 0))), (q6, .inl (tI, 700, .inl (fun _ => 0))), (q7, .inl (tI, 12, .inl (fun _ => 0))), (q8, .inl (tI, 4, .inl (fun _ => 0))), (q9, .inl (tI, 4, .inl (fun _ => 0))), (q10, .inl (tI, 4, .inl (fun _ => 0))), (q11, .inl (tI, 4, .inl (fun _ => 0))), (q12, .inl (tI, 16, .inl (fun _ => 0))), (q13, .inl (tI, 4, .inl (fun _ => 0))), (q14, .inl (tI, 4, .inl (fun _ => 0)))] H := hP
  have hD : va_D A [(h, .inr (0, [.ref q1, .ref q2, .ref q3, .ref q4, .ref q5, .ref q6, .int 0, .int (-1), .ref q7, .int 0, .int 0, .ref q8, .ref q9, .ref q10, .ref q11, .ref q12, .ref q13, .int 0, .int 0, .ref q14, .null, .null, .null, .null, .null, .null, .null, .int 0, .int 0, .null, .null, .null, .int 0])), (q1, .inl (tI, 16, .inl (fun _ => 0))), (q2, .inl (tI, 16, .inl (fun _ => 0))), (q3, .inl (tI, 16, .inl (fun _ => 0))), (q4, .inl (tI, 700, .inl (fun _ => 0))), (q5, .inl (tI, 700, .inl (fun _ => 0))), (q6, .inl (tI, 700, .inl (fun _ => 0))), (q7, .inl (tI, 12, .inl (fun _ => 0))), (q8, .inl (tI, 4, .inl (fun _ => 0))), (q9, .inl (tI, 4, .inl (fun _ => 0))), (q10, .inl (tI, 4, .inl (fun _ => 0))), (q11, .inl (tI, 4, .inl (fun _ => 0))), (q12, .inl (tI, 16, .inl (fun _ => 0))), (q13, .inl (tI, 4, .inl (fun _ => 0))), (q14, .inl (tI, 4, .inl (fun _ => 0)))] := hD
  refine lv_aload_n hx hb dMo_init_118 rfl (lv_at hl 0 rfl) ?_
  refine lv_iconst (v := 4) hx hb dMo_init_119 (by decide) ?_
  refine va_newa (atype := .int) (ty := .int) (N' := 4) (a0 := (4, .inl (fun _ => 0))) hx hb (hts _ (List.mem_cons_of_mem _ wm_109)) rfl hK hP hD hS (hA rfl) (fun _ => rfl) (by decide) (by decide) (by decide) (Nat.le_of_ble_eq_true rfl) (Nat.le_of_ble_eq_true rfl) dMo_init_120 (fun q15 tq H hK hP hD hS => ?_)
  have hK9 : va_K D clA [(tI, .int), (tq, .int)] s := hK
  have etq : tI = tq := Option.some.inj ((va_nm_int (hK9.2 0 _ rfl).2).symm.trans (va_nm_int (hK9.2 1 _ rfl).2))
  subst etq
  have hK : va_K D clA [(tI, .int)] s := hK9.sub [0] rfl
  have hP : va_P D clA [(h, .inr (0, [.ref q1, .ref q2, .ref q3, .ref q4, .ref q5, .ref q6, .int 0, .int (-1), .ref q7, .int 0, .int 0, .ref q8, .ref q9, .ref q10, .ref q11, .ref q12, .ref q13, .int 0, .int 0, .ref q14, .null, .null, .null, .null, .null, .null, .null, .int 0, .int 0, .null, .null, .null, .int 0])), (q1, .inl (tI, 16, .inl (fun _ => 0))), (q2, .inl (tI, 16, .inl (fun _ => 0))), (q3, .inl (tI, 16, .inl (fun _ => 0))), (q4, .inl (tI, 700, .inl (fun _ => 0))), (q5, .inl (tI, 700, .inl (fun _ => 0))), (q6, .inl (tI, 700, .inl (fun _ => 0))), (q7, .inl (tI, 12, .inl (fun _ => 0))), (q8, .inl (tI, 4, .inl (fun _ => 0))), (q9, .inl (tI, 4, .inl (fun _ => 0))), (q10, .inl (tI, 4, .inl (fun _ => 0))), (q11, .inl (tI, 4, .inl (fun _ => 0))), (q12, .inl (tI, 16, .inl (fun _ => 0))), (q13, .inl (tI, 4, .inl (fun _ => 0))), (q14, .inl (tI, 4, .inl (fun _ => 0))), (q15, .inl (tI, 4, .inl (fun _ => 0)))] H := hP
  have hD : va_D A [(h, .inr (0, [.ref q1, .ref q2, .ref q3, .ref q4, .ref q5, .ref q6, .int 0, .int (-1), .ref q7, .int 0, .int 0, .ref q8, .ref q9, .ref q10, .ref q11, .ref q12, .ref q13, .int 0, .int 0, .ref q14, .null, .null, .null, .null, .null, .null, .null, .int 0, .int 0, .null, .null, .null, .int 0])), (q1, .inl (tI, 16, .inl (fun _ => 0))), (q2, .inl (tI, 16, .inl (fun _ => 0))), (q3, .inl (tI, 16, .inl (fun _ => 0))), (q4, .inl (tI, 700, .inl (fun _ => 0))), (q5, .inl (tI, 700, .inl (fun _ => 0))), (q6, .inl (tI, 700, .inl (fun _ => 0))), (q7, .inl (tI, 12, .inl (fun _ => 0))), (q8, .inl (tI, 4, .inl (fun _ => 0))), (q9, .inl (tI, 4, .inl (fun _ => 0))), (q10, .inl (tI, 4, .inl (fun _ => 0))), (q11, .inl (tI, 4, .inl (fun _ => 0))), (q12, .inl (tI, 16, .inl (fun _ => 0))), (q13, .inl (tI, 4, .inl (fun _ => 0))), (q14, .inl (tI, 4, .inl (fun _ => 0))), (q15, .inl (tI, 4, .inl (fun _ => 0)))] := hD
  refine W.widen (k := 15) (n := 2204) (by omega) (by omega) ?_
  refine va_putF (v := .ref q15) (ty := .array .int) (D := D) (ci := 0) (C := RMo) (T := TMo) (N := 33) hx hb hts hin0 tyMo tyMo_ok nmMo hown hK hP hD hS 0 rfl rfl 20 (by decide) lk56 (fun _ h9 => h9) rfl hin rfl (by decide +kernel) rfl rfl (Nat.le_of_ble_eq_true rfl) dMo_init_122 (fun H locs hP hD hS => ?_)
  have hP : va_P D clA [(h, .inr (0, [.ref q1, .ref q2, .ref q3, .ref q4, .ref q5, .ref q6, .int 0, .int (-1), .ref q7, .int 0, .int 0, .ref q8, .ref q9, .ref q10, .ref q11, .ref q12, .ref q13, .int 0, .int 0, .ref q14, .ref q15, .null, .null, .null, .null, .null, .null, .int 0, .int 0, .null, .null, .null, .int 0])), (q1, .inl (tI, 16, .inl (fun _ => 0))), (q2, .inl (tI, 16, .inl (fun _ => 0))), (q3, .inl (tI, 16, .inl (fun _ => 0))), (q4, .inl (tI, 700, .inl (fun _ => 0))), (q5, .inl (tI, 700, .inl (fun _ => 0))), (q6, .inl (tI, 700, .inl (fun _ => 0))), (q7, .inl (tI, 12, .inl (fun _ => 0))), (q8, .inl (tI, 4, .inl (fun _ => 0))), (q9, .inl (tI, 4, .inl (fun _ => 0))), (q10, .inl (tI, 4, .inl (fun _ => 0))), (q11, .inl (tI, 4, .inl (fun _ => 0))), (q12, .inl (tI, 16, .inl (fun _ => 0))), (q13, .inl (tI, 4, .inl (fun _ => 0))), (q14, .inl (tI, 4, .inl (fun _ => 0))), (q15, .inl (tI, 4, .inl (fun _ => 0)))] H := hP
  have hD : va_D A [(h, .inr (0, [.ref q1, .ref q2, .ref q3, .ref q4, .ref q5, .ref q6, .int 0, .int (-1), .ref q7, .int 0, .int 0, .ref q8, .ref q9, .ref q10, .ref q11, .ref q12, .ref q13, .int 0, .int 0, .ref q14, .ref q15, .null, .null, .null, .null, .null, .null, .int 0, .int 0, .null, .null, .null, .int 0])), (q1, .inl (tI, 16, .inl (fun _ => 0))), (q2, .inl (tI, 16, .inl (fun _ => 0))), (q3, .inl (tI, 16, .inl (fun _ => 0))), (q4, .inl (tI, 700, .inl (fun _ => 0))), (q5, .inl (tI, 700, .inl (fun _ => 0))), (q6, .inl (tI, 700, .inl (fun _ => 0))), (q7, .inl (tI, 12, .inl (fun _ => 0))), (q8, .inl (tI, 4, .inl (fun _ => 0))), (q9, .inl (tI, 4, .inl (fun _ => 0))), (q10, .inl (tI, 4, .inl (fun _ => 0))), (q11, .inl (tI, 4, .inl (fun _ => 0))), (q12, .inl (tI, 16, .inl (fun _ => 0))), (q13, .inl (tI, 4, .inl (fun _ => 0))), (q14, .inl (tI, 4, .inl (fun _ => 0))), (q15, .inl (tI, 4, .inl (fun _ => 0)))] := hD
  refine lv_aload_n hx hb dMo_init_125 rfl (lv_at hl 0 rfl) ?_
  refine lv_iconst (v := 4) hx hb dMo_init_126 (by decide) ?_
  refine va_newa (atype := .int) (ty := .int) (N' := 4) (a0 := (4, .inl (fun _ => 0))) hx hb (hts _ (List.mem_cons_of_mem _ wm_109)) rfl hK hP hD hS (hA rfl) (fun _ => rfl) (by decide) (by decide) (by decide) (Nat.le_of_ble_eq_true rfl) (Nat.le_of_ble_eq_true rfl) dMo_init_127 (fun q16 tq H hK hP hD hS => ?_)
  have hK9 : va_K D clA [(tI, .int), (tq, .int)] s := hK
  have etq : tI = tq := Option.some.inj ((va_nm_int (hK9.2 0 _ rfl).2).symm.trans (va_nm_int (hK9.2 1 _ rfl).2))
  subst etq
  have hK : va_K D clA [(tI, .int)] s := hK9.sub [0] rfl
  have hP : va_P D clA [(h, .inr (0, [.ref q1, .ref q2, .ref q3, .ref q4, .ref q5, .ref q6, .int 0, .int (-1), .ref q7, .int 0, .int 0, .ref q8, .ref q9, .ref q10, .ref q11, .ref q12, .ref q13, .int 0, .int 0, .ref q14, .ref q15, .null, .null, .null, .null, .null, .null, .int 0, .int 0, .null, .null, .null, .int 0])), (q1, .inl (tI, 16, .inl (fun _ => 0))), (q2, .inl (tI, 16, .inl (fun _ => 0))), (q3, .inl (tI, 16, .inl (fun _ => 0))), (q4, .inl (tI, 700, .inl (fun _ => 0))), (q5, .inl (tI, 700, .inl (fun _ => 0))), (q6, .inl (tI, 700, .inl (fun _ => 0))), (q7, .inl (tI, 12, .inl (fun _ => 0))), (q8, .inl (tI, 4, .inl (fun _ => 0))), (q9, .inl (tI, 4, .inl (fun _ => 0))), (q10, .inl (tI, 4, .inl (fun _ => 0))), (q11, .inl (tI, 4, .inl (fun _ => 0))), (q12, .inl (tI, 16, .inl (fun _ => 0))), (q13, .inl (tI, 4, .inl (fun _ => 0))), (q14, .inl (tI, 4, .inl (fun _ => 0))), (q15, .inl (tI, 4, .inl (fun _ => 0))), (q16, .inl (tI, 4, .inl (fun _ => 0)))] H := hP
  have hD : va_D A [(h, .inr (0, [.ref q1, .ref q2, .ref q3, .ref q4, .ref q5, .ref q6, .int 0, .int (-1), .ref q7, .int 0, .int 0, .ref q8, .ref q9, .ref q10, .ref q11, .ref q12, .ref q13, .int 0, .int 0, .ref q14, .ref q15, .null, .null, .null, .null, .null, .null, .int 0, .int 0, .null, .null, .null, .int 0])), (q1, .inl (tI, 16, .inl (fun _ => 0))), (q2, .inl (tI, 16, .inl (fun _ => 0))), (q3, .inl (tI, 16, .inl (fun _ => 0))), (q4, .inl (tI, 700, .inl (fun _ => 0))), (q5, .inl (tI, 700, .inl (fun _ => 0))), (q6, .inl (tI, 700, .inl (fun _ => 0))), (q7, .inl (tI, 12, .inl (fun _ => 0))), (q8, .inl (tI, 4, .inl (fun _ => 0))), (q9, .inl (tI, 4, .inl (fun _ => 0))), (q10, .inl (tI, 4, .inl (fun _ => 0))), (q11, .inl (tI, 4, .inl (fun _ => 0))), (q12, .inl (tI, 16, .inl (fun _ => 0))), (q13, .inl (tI, 4, .inl (fun _ => 0))), (q14, .inl (tI, 4, .inl (fun _ => 0))), (q15, .inl (tI, 4, .inl (fun _ => 0))), (q16, .inl (tI, 4, .inl (fun _ => 0)))] := hD
  refine W.widen (k := 16) (n := 2208) (by omega) (by omega) ?_
  refine va_putF (v := .ref q16) (ty := .array .int) (D := D) (ci := 0) (C := RMo) (T := TMo) (N := 33) hx hb hts hin0 tyMo tyMo_ok nmMo hown hK hP hD hS 0 rfl rfl 21 (by decide) lk59 (fun _ h9 => h9) rfl hin rfl (by decide +kernel) rfl rfl (Nat.le_of_ble_eq_true rfl) dMo_init_129 (fun H locs hP hD hS => ?_)
  have hP : va_P D clA [(h, .inr (0, [.ref q1, .ref q2, .ref q3, .ref q4, .ref q5, .ref q6, .int 0, .int (-1), .ref q7, .int 0, .int 0, .ref q8, .ref q9, .ref q10, .ref q11, .ref q12, .ref q13, .int 0, .int 0, .ref q14, .ref q15, .ref q16, .null, .null, .null, .null, .null, .int 0, .int 0, .null, .null, .null, .int 0])), (q1, .inl (tI, 16, .inl (fun _ => 0))), (q2, .inl (tI, 16, .inl (fun _ => 0))), (q3, .inl (tI, 16, .inl (fun _ => 0))), (q4, .inl (tI, 700, .inl (fun _ => 0))), (q5, .inl (tI, 700, .inl (fun _ => 0))), (q6, .inl (tI, 700, .inl (fun _ => 0))), (q7, .inl (tI, 12, .inl (fun _ => 0))), (q8, .inl (tI, 4, .inl (fun _ => 0))), (q9, .inl (tI, 4, .inl (fun _ => 0))), (q10, .inl (tI, 4, .inl (fun _ => 0))), (q11, .inl (tI, 4, .inl (fun _ => 0))), (q12, .inl (tI, 16, .inl (fun _ => 0))), (q13, .inl (tI, 4, .inl (fun _ => 0))), (q14, .inl (tI, 4, .inl (fun _ => 0))), (q15, .inl (tI, 4, .inl (fun _ => 0))), (q16, .inl (tI, 4, .inl (fun _ => 0)))] H := hP
  have hD : va_D A [(h, .inr (0, [.ref q1, .ref q2, .ref q3, .ref q4, .ref q5, .ref q6, .int 0, .int (-1), .ref q7, .int 0, .int 0, .ref q8, .ref q9, .ref q10, .ref q11, .ref q12, .ref q13, .int 0, .int 0, .ref q14, .ref q15, .ref q16, .null, .null, .null, .null, .null, .int 0, .int 0, .null, .null, .null, .int 0])), (q1, .inl (tI, 16, .inl (fun _ => 0))), (q2, .inl (tI, 16, .inl (fun _ => 0))), (q3, .inl (tI, 16, .inl (fun _ => 0))), (q4, .inl (tI, 700, .inl (fun _ => 0))), (q5, .inl (tI, 700, .inl (fun _ => 0))), (q6, .inl (tI, 700, .inl (fun _ => 0))), (q7, .inl (tI, 12, .inl (fun _ => 0))), (q8, .inl (tI, 4, .inl (fun _ => 0))), (q9, .inl (tI, 4, .inl (fun _ => 0))), (q10, .inl (tI, 4, .inl (fun _ => 0))), (q11, .inl (tI, 4, .inl (fun _ => 0))), (q12, .inl (tI, 16, .inl (fun _ => 0))), (q13, .inl (tI, 4, .inl (fun _ => 0))), (q14, .inl (tI, 4, .inl (fun _ => 0))), (q15, .inl (tI, 4, .inl (fun _ => 0))), (q16, .inl (tI, 4, .inl (fun _ => 0)))] := hD
  refine lv_aload_n hx hb dMo_init_132 rfl (lv_at hl 0 rfl) ?_
  refine lv_bipush (v := 32) hx hb dMo_init_133 (by decide) ?_
  refine va_newa (atype := .int) (ty := .int) (N' := 32) (a0 := (32, .inl (fun _ => 0))) hx hb (hts _ (List.mem_cons_of_mem _ wm_109)) rfl hK hP hD hS (hA rfl) (fun _ => rfl) (by decide) (by decide) (by decide) (Nat.le_of_ble_eq_true rfl) (Nat.le_of_ble_eq_true rfl) dMo_init_135 (fun q17 tq H hK hP hD hS => ?_)
  have hK9 : va_K D clA [(tI, .int), (tq, .int)] s := hK
  have etq : tI = tq := Option.some.inj ((va_nm_int (hK9.2 0 _ rfl).2).symm.trans (va_nm_int (hK9.2 1 _ rfl).2))
  subst etq
  have hK : va_K D clA [(tI, .int)] s := hK9.sub [0] rfl
  have hP : va_P D clA [(h, .inr (0, [.ref q1, .ref q2, .ref q3, .ref q4, .ref q5, .ref q6, .int 0, .int (-1), .ref q7, .int 0, .int 0, .ref q8, .ref q9, .ref q10, .ref q11, .ref q12, .ref q13, .int 0, .int 0, .ref q14, .ref q15, .ref q16, .null, .null, .null, .null, .null, .int 0, .int 0, .null, .null, .null, .int 0])), (q1, .inl (tI, 16, .inl (fun _ => 0))), (q2, .inl (tI, 16, .inl (fun _ => 0))), (q3, .inl (tI, 16, .inl (fun _ => 0))), (q4, .inl (tI, 700, .inl (fun _ => 0))), (q5, .inl (tI, 700, .inl (fun _ => 0))), (q6, .inl (tI, 700, .inl (fun _ => 0))), (q7, .inl (tI, 12, .inl (fun _ => 0))), (q8, .inl (tI, 4, .inl (fun _ => 0))), (q9, .inl (tI, 4, .inl (fun _ => 0))), (q10, .inl (tI, 4, .inl (fun _ => 0))), (q11, .inl (tI, 4, .inl (fun _ => 0))), (q12, .inl (tI, 16, .inl (fun _ => 0))), (q13, .inl (tI, 4, .inl (fun _ => 0))), (q14, .inl (tI, 4, .inl (fun _ => 0))), (q15, .inl (tI, 4, .inl (fun _ => 0))), (q16, .inl (tI, 4, .inl (fun _ => 0))), (q17, .inl (tI, 32, .inl (fun _ => 0)))] H := hP
  have hD : va_D A [(h, .inr (0, [.ref q1, .ref q2, .ref q3, .ref q4, .ref q5, .ref q6, .int 0, .int (-1), .ref q7, .int 0, .int 0, .ref q8, .ref q9, .ref q10, .ref q11, .ref q12, .ref q13, .int 0, .int 0, .ref q14, .ref q15, .ref q16, .null, .null, .null, .null, .null, .int 0, .int 0, .null, .null, .null, .int 0])), (q1, .inl (tI, 16, .inl (fun _ => 0))), (q2, .inl (tI, 16, .inl (fun _ => 0))), (q3, .inl (tI, 16, .inl (fun _ => 0))), (q4, .inl (tI, 700, .inl (fun _ => 0))), (q5, .inl (tI, 700, .inl (fun _ => 0))), (q6, .inl (tI, 700, .inl (fun _ => 0))), (q7, .inl (tI, 12, .inl (fun _ => 0))), (q8, .inl (tI, 4, .inl (fun _ => 0))), (q9, .inl (tI, 4, .inl (fun _ => 0))), (q10, .inl (tI, 4, .inl (fun _ => 0))), (q11, .inl (tI, 4, .inl (fun _ => 0))), (q12, .inl (tI, 16, .inl (fun _ => 0))), (q13, .inl (tI, 4, .inl (fun _ => 0))), (q14, .inl (tI, 4, .inl (fun _ => 0))), (q15, .inl (tI, 4, .inl (fun _ => 0))), (q16, .inl (tI, 4, .inl (fun _ => 0))), (q17, .inl (tI, 32, .inl (fun _ => 0)))] := hD
  refine W.widen (k := 17) (n := 2240) (by omega) (by omega) ?_
  refine va_putF (v := .ref q17) (ty := .array .int) (D := D) (ci := 0) (C := RMo) (T := TMo) (N := 33) hx hb hts hin0 tyMo tyMo_ok nmMo hown hK hP hD hS 0 rfl rfl 22 (by decide) lk62 (fun _ h9 => h9) rfl hin rfl (by decide +kernel) rfl rfl (Nat.le_of_ble_eq_true rfl) dMo_init_137 (fun H locs hP hD hS => ?_)
  have hP : va_P D clA [(h, .inr (0, [.ref q1, .ref q2, .ref q3, .ref q4, .ref q5, .ref q6, .int 0, .int (-1), .ref q7, .int 0, .int 0, .ref q8, .ref q9, .ref q10, .ref q11, .ref q12, .ref q13, .int 0, .int 0, .ref q14, .ref q15, .ref q16, .ref q17, .null, .null, .null, .null, .int 0, .int 0, .null, .null, .null, .int 0])), (q1, .inl (tI, 16, .inl (fun _ => 0))), (q2, .inl (tI, 16, .inl (fun _ => 0))), (q3, .inl (tI, 16, .inl (fun _ => 0))), (q4, .inl (tI, 700, .inl (fun _ => 0))), (q5, .inl (tI, 700, .inl (fun _ => 0))), (q6, .inl (tI, 700, .inl (fun _ => 0))), (q7, .inl (tI, 12, .inl (fun _ => 0))), (q8, .inl (tI, 4, .inl (fun _ => 0))), (q9, .inl (tI, 4, .inl (fun _ => 0))), (q10, .inl (tI, 4, .inl (fun _ => 0))), (q11, .inl (tI, 4, .inl (fun _ => 0))), (q12, .inl (tI, 16, .inl (fun _ => 0))), (q13, .inl (tI, 4, .inl (fun _ => 0))), (q14, .inl (tI, 4, .inl (fun _ => 0))), (q15, .inl (tI, 4, .inl (fun _ => 0))), (q16, .inl (tI, 4, .inl (fun _ => 0))), (q17, .inl (tI, 32, .inl (fun _ => 0)))] H := hP
  have hD : va_D A [(h, .inr (0, [.ref q1, .ref q2, .ref q3, .ref q4, .ref q5, .ref q6, .int 0, .int (-1), .ref q7, .int 0, .int 0, .ref q8, .ref q9, .ref q10, .ref q11, .ref q12, .ref q13, .int 0, .int 0, .ref q14, .ref q15, .ref q16, .ref q17, .null, .null, .null, .null, .int 0, .int 0, .null, .null, .null, .int 0])), (q1, .inl (tI, 16, .inl (fun _ => 0))), (q2, .inl (tI, 16, .inl (fun _ => 0))), (q3, .inl (tI, 16, .inl (fun _ => 0))), (q4, .inl (tI, 700, .inl (fun _ => 0))), (q5, .inl (tI, 700, .inl (fun _ => 0))), (q6, .inl (tI, 700, .inl (fun _ => 0))), (q7, .inl (tI, 12, .inl (fun _ => 0))), (q8, .inl (tI, 4, .inl (fun _ => 0))), (q9, .inl (tI, 4, .inl (fun _ => 0))), (q10, .inl (tI, 4, .inl (fun _ => 0))), (q11, .inl (tI, 4, .inl (fun _ => 0))), (q12, .inl (tI, 16, .inl (fun _ => 0))), (q13, .inl (tI, 4, .inl (fun _ => 0))), (q14, .inl (tI, 4, .inl (fun _ => 0))), (q15, .inl (tI, 4, .inl (fun _ => 0))), (q16, .inl (tI, 4, .inl (fun _ => 0))), (q17, .inl (tI, 32, .inl (fun _ => 0)))] := hD
  refine lv_aload_n hx hb dMo_init_140 rfl (lv_at hl 0 rfl) ?_
  refine lv_iconst (v := 4) hx hb dMo_init_141 (by decide) ?_
  refine va_newa (atype := .boolean) (ty := .boolean) (N' := 4) (a0 := (4, .inl (fun _ => 0))) hx hb (hts _ (List.mem_cons_of_mem _ wm_110)) rfl hK hP hD hS (hA rfl) (fun _ => rfl) (by decide) (by decide) (by decide) (Nat.le_of_ble_eq_true rfl) (Nat.le_of_ble_eq_true rfl) dMo_init_142 (fun q18 tq H hK hP hD hS => ?_)
  obtain ⟨tZ, etZ⟩ : ∃ z, z = tq := ⟨_, rfl⟩
  subst etZ
  have hK : va_K D clA [(tI, .int), (tZ, .boolean)] s := hK
  have hP : va_P D clA [(h, .inr (0, [.ref q1, .ref q2, .ref q3, .ref q4, .ref q5, .ref q6, .int 0, .int (-1), .ref q7, .int 0, .int 0, .ref q8, .ref q9, .ref q10, .ref q11, .ref q12, .ref q13, .int 0, .int 0, .ref q14, .ref q15, .ref q16, .ref q17, .null, .null, .null, .null, .int 0, .int 0, .null, .null, .null, .int 0])), (q1, .inl (tI, 16, .inl (fun _ => 0))), (q2, .inl (tI, 16, .inl (fun _ => 0))), (q3, .inl (tI, 16, .inl (fun _ => 0))), (q4, .inl (tI, 700, .inl (fun _ => 0))), (q5, .inl (tI, 700, .inl (fun _ => 0))), (q6, .inl (tI, 700, .inl (fun _ => 0))), (q7, .inl (tI, 12, .inl (fun _ => 0))), (q8, .inl (tI, 4, .inl (fun _ => 0))), (q9, .inl (tI, 4, .inl (fun _ => 0))), (q10, .inl (tI, 4, .inl (fun _ => 0))), (q11, .inl (tI, 4, .inl (fun _ => 0))), (q12, .inl (tI, 16, .inl (fun _ => 0))), (q13, .inl (tI, 4, .inl (fun _ => 0))), (q14, .inl (tI, 4, .inl (fun _ => 0))), (q15, .inl (tI, 4, .inl (fun _ => 0))), (q16, .inl (tI, 4, .inl (fun _ => 0))), (q17, .inl (tI, 32, .inl (fun _ => 0))), (q18, .inl (tZ, 4, .inl (fun _ => 0)))] H := hP
  have hD : va_D A [(h, .inr (0, [.ref q1, .ref q2, .ref q3, .ref q4, .ref q5, .ref q6, .int 0, .int (-1), .ref q7, .int 0, .int 0, .ref q8, .ref q9, .ref q10, .ref q11, .ref q12, .ref q13, .int 0, .int 0, .ref q14, .ref q15, .ref q16, .ref q17, .null, .null, .null, .null, .int 0, .int 0, .null, .null, .null, .int 0])), (q1, .inl (tI, 16, .inl (fun _ => 0))), (q2, .inl (tI, 16, .inl (fun _ => 0))), (q3, .inl (tI, 16, .inl (fun _ => 0))), (q4, .inl (tI, 700, .inl (fun _ => 0))), (q5, .inl (tI, 700, .inl (fun _ => 0))), (q6, .inl (tI, 700, .inl (fun _ => 0))), (q7, .inl (tI, 12, .inl (fun _ => 0))), (q8, .inl (tI, 4, .inl (fun _ => 0))), (q9, .inl (tI, 4, .inl (fun _ => 0))), (q10, .inl (tI, 4, .inl (fun _ => 0))), (q11, .inl (tI, 4, .inl (fun _ => 0))), (q12, .inl (tI, 16, .inl (fun _ => 0))), (q13, .inl (tI, 4, .inl (fun _ => 0))), (q14, .inl (tI, 4, .inl (fun _ => 0))), (q15, .inl (tI, 4, .inl (fun _ => 0))), (q16, .inl (tI, 4, .inl (fun _ => 0))), (q17, .inl (tI, 32, .inl (fun _ => 0))), (q18, .inl (tZ, 4, .inl (fun _ => 0)))] := hD
  refine W.widen (k := 18) (n := 2244) (by omega) (by omega) ?_
  refine va_putF (v := .ref q18) (ty := .array .boolean) (D := D) (ci := 0) (C := RMo) (T := TMo) (N := 33) hx hb hts hin0 tyMo tyMo_ok nmMo hown hK hP hD hS 0 rfl rfl 23 (by decide) lk65 (fun _ h9 => h9) rfl hin rfl (by decide +kernel) rfl rfl (Nat.le_of_ble_eq_true rfl) dMo_init_144 (fun H locs hP hD hS => ?_)
  have hP : va_P D clA [(h, .inr (0, [.ref q1, .ref q2, .ref q3, .ref q4, .ref q5, .ref q6, .int 0, .int (-1), .ref q7, .int 0, .int 0, .ref q8, .ref q9, .ref q10, .ref q11, .ref q12, .ref q13, .int 0, .int 0, .ref q14, .ref q15, .ref q16, .ref q17, .ref q18, .null, .null, .null, .int 0, .int 0, .null, .null, .null, .int 0])), (q1, .inl (tI, 16, .inl (fun _ => 0))), (q2, .inl (tI, 16, .inl (fun _ => 0))), (q3, .inl (tI, 16, .inl (fun _ => 0))), (q4, .inl (tI, 700, .inl (fun _ => 0))), (q5, .inl (tI, 700, .inl (fun _ => 0))), (q6, .inl (tI, 700, .inl (fun _ => 0))), (q7, .inl (tI, 12, .inl (fun _ => 0))), (q8, .inl (tI, 4, .inl (fun _ => 0))), (q9, .inl (tI, 4, .inl (fun _ => 0))), (q10, .inl (tI, 4, .inl (fun _ => 0))), (q11, .inl (tI, 4, .inl (fun _ => 0))), (q12, .inl (tI, 16, .inl (fun _ => 0))), (q13, .inl (tI, 4, .inl (fun _ => 0))), (q14, .inl (tI, 4, .inl (fun _ => 0))), (q15, .inl (tI, 4, .inl (fun _ => 0))), (q16, .inl (tI, 4, .inl (fun _ => 0))), (q17, .inl (tI, 32, .inl (fun _ => 0))), (q18, .inl (tZ, 4, .inl (fun _ => 0)))] H := hP
  have hD : va_D A [(h, .inr (0, [.ref q1, .ref q2, .ref q3, .ref q4, .ref q5, .ref q6, .int 0, .int (-1), .ref q7, .int 0, .int 0, .ref q8, .ref q9, .ref q10, .ref q11, .ref q12, .ref q13, .int 0, .int 0, .ref q14, .ref q15, .ref q16, .ref q17, .ref q18, .null, .null, .null, .int 0, .int 0, .null, .null, .null, .int 0])), (q1, .inl (tI, 16, .inl (fun _ => 0))), (q2, .inl (tI, 16, .inl (fun _ => 0))), (q3, .inl (tI, 16, .inl (fun _ => 0))), (q4, .inl (tI, 700, .inl (fun _ => 0))), (q5, .inl (tI, 700, .inl (fun _ => 0))), (q6, .inl (tI, 700, .inl (fun _ => 0))), (q7, .inl (tI, 12, .inl (fun _ => 0))), (q8, .inl (tI, 4, .inl (fun _ => 0))), (q9, .inl (tI, 4, .inl (fun _ => 0))), (q10, .inl (tI, 4, .inl (fun _ => 0))), (q11, .inl (tI, 4, .inl (fun _ => 0))), (q12, .inl (tI, 16, .inl (fun _ => 0))), (q13, .inl (tI, 4, .inl (fun _ => 0))), (q14, .inl (tI, 4, .inl (fun _ => 0))), (q15, .inl (tI, 4, .inl (fun _ => 0))), (q16, .inl (tI, 4, .inl (fun _ => 0))), (q17, .inl (tI, 32, .inl (fun _ => 0))), (q18, .inl (tZ, 4, .inl (fun _ => 0)))] := hD
  refine lv_aload_n hx hb dMo_init_147 rfl (lv_at hl 0 rfl) ?_
  refine lv_iconst (v := 4) hx hb dMo_init_148 (by decide) ?_
  refine va_newa (atype := .int) (ty := .int) (N' := 4) (a0 := (4, .inl (fun _ => 0))) hx hb (hts _ (List.mem_cons_of_mem _ wm_109)) rfl hK hP hD hS (hA rfl) (fun _ => rfl) (by decide) (by decide) (by decide) (Nat.le_of_ble_eq_true rfl) (Nat.le_of_ble_eq_true rfl) dMo_init_149 (fun q19 tq H hK hP hD hS => ?_)
  have hK9 : va_K D clA [(tI, .int), (tZ, .boolean), (tq, .int)] s := hK
  have etq : tI = tq := Option.some.inj ((va_nm_int (hK9.2 0 _ rfl).2).symm.trans (va_nm_int (hK9.2 2 _ rfl).2))
  subst etq
  have hK : va_K D clA [(tI, .int), (tZ, .boolean)] s := hK9.sub [0, 1] rfl
  have hP : va_P D clA [(h, .inr (0, [.ref q1, .ref q2, .ref q3, .ref q4, .ref q5, .ref q6, .int 0, .int (-1), .ref q7, .int 0, .int 0, .ref q8, .ref q9, .ref q10, .ref q11, .ref q12, .ref q13, .int 0, .int 0, .ref q14, .ref q15, .ref q16, .ref q17, .ref q18, .null, .null, .null, .int 0, .int 0, .null, .null, .null, .int 0])), (q1, .inl (tI, 16, .inl (fun _ => 0))), (q2, .inl (tI, 16, .inl (fun _ => 0))), (q3, .inl (tI, 16, .inl (fun _ => 0))), (q4, .inl (tI, 700, .inl (fun _ => 0))), (q5, .inl (tI, 700, .inl (fun _ => 0))), (q6, .inl (tI, 700, .inl (fun _ => 0))), (q7, .inl (tI, 12, .inl (fun _ => 0))), (q8, .inl (tI, 4, .inl (fun _ => 0))), (q9, .inl (tI, 4, .inl (fun _ => 0))), (q10, .inl (tI, 4, .inl (fun _ => 0))), (q11, .inl (tI, 4, .inl (fun _ => 0))), (q12, .inl (tI, 16, .inl (fun _ => 0))), (q13, .inl (tI, 4, .inl (fun _ => 0))), (q14, .inl (tI, 4, .inl (fun _ => 0))), (q15, .inl (tI, 4, .inl (fun _ => 0))), (q16, .inl (tI, 4, .inl (fun _ => 0))), (q17, .inl (tI, 32, .inl (fun _ => 0))), (q18, .inl (tZ, 4, .inl (fun _ => 0))), (q19, .inl (tI, 4, .inl (fun _ => 0)))] H := hP
  have hD : va_D A [(h, .inr (0, [.ref q1, .ref q2, .ref q3, .ref q4, .ref q5, .ref q6, .int 0, .int (-1), .ref q7, .int 0, .int 0, .ref q8, .ref q9, .ref q10, .ref q11, .ref q12, .ref q13, .int 0, .int 0, .ref q14, .ref q15, .ref q16, .ref q17, .ref q18, .null, .null, .null, .int 0, .int 0, .null, .null, .null, .int 0])), (q1, .inl (tI, 16, .inl (fun _ => 0))), (q2, .inl (tI, 16, .inl (fun _ => 0))), (q3, .inl (tI, 16, .inl (fun _ => 0))), (q4, .inl (tI, 700, .inl (fun _ => 0))), (q5, .inl (tI, 700, .inl (fun _ => 0))), (q6, .inl (tI, 700, .inl (fun _ => 0))), (q7, .inl (tI, 12, .inl (fun _ => 0))), (q8, .inl (tI, 4, .inl (fun _ => 0))), (q9, .inl (tI, 4, .inl (fun _ => 0))), (q10, .inl (tI, 4, .inl (fun _ => 0))), (q11, .inl (tI, 4, .inl (fun _ => 0))), (q12, .inl (tI, 16, .inl (fun _ => 0))), (q13, .inl (tI, 4, .inl (fun _ => 0))), (q14, .inl (tI, 4, .inl (fun _ => 0))), (q15, .inl (tI, 4, .inl (fun _ => 0))), (q16, .inl (tI, 4, .inl (fun _ => 0))), (q17, .inl (tI, 32, .inl (fun _ => 0))), (q18, .inl (tZ, 4, .inl (fun _ => 0))), (q19, .inl (tI, 4, .inl (fun _ => 0)))] := hD
  refine W.widen (k := 19) (n := 2248) (by omega) (by omega) ?_
  refine va_putF (v := .ref q19) (ty := .array .int) (D := D) (ci := 0) (C := RMo) (T := TMo) (N := 33) hx hb hts hin0 tyMo tyMo_ok nmMo hown hK hP hD hS 0 rfl rfl 24 (by decide) lk69 (fun _ h9 => h9) rfl hin rfl (by decide +kernel) rfl rfl (Nat.le_of_ble_eq_true rfl) dMo_init_151 (fun H locs hP hD hS => ?_)
  have hP : va_P D clA [(h, .inr (0, [.ref q1, .ref q2, .ref q3, .ref q4, .ref q5, .ref q6, .int 0, .int (-1), .ref q7, .int 0, .int 0, .ref q8, .ref q9, .ref q10, .ref q11, .ref q12, .ref q13, .int 0, .int 0, .ref q14, .ref q15, .ref q16, .ref q17, .ref q18, .ref q19, .null, .null, .int 0, .int 0, .null, .null, .null, .int 0])), (q1, .inl (tI, 16, .inl (fun _ => 0))), (q2, .inl (tI, 16, .inl (fun _ => 0))), (q3, .inl (tI, 16, .inl (fun _ => 0))), (q4, .inl (tI, 700, .inl (fun _ => 0))), (q5, .inl (tI, 700, .inl (fun _ => 0))), (q6, .inl (tI, 700, .inl (fun _ => 0))), (q7, .inl (tI, 12, .inl (fun _ => 0))), (q8, .inl (tI, 4, .inl (fun _ => 0))), (q9, .inl (tI, 4, .inl (fun _ => 0))), (q10, .inl (tI, 4, .inl (fun _ => 0))), (q11, .inl (tI, 4, .inl (fun _ => 0))), (q12, .inl (tI, 16, .inl (fun _ => 0))), (q13, .inl (tI, 4, .inl (fun _ => 0))), (q14, .inl (tI, 4, .inl (fun _ => 0))), (q15, .inl (tI, 4, .inl (fun _ => 0))), (q16, .inl (tI, 4, .inl (fun _ => 0))), (q17, .inl (tI, 32, .inl (fun _ => 0))), (q18, .inl (tZ, 4, .inl (fun _ => 0))), (q19, .inl (tI, 4, .inl (fun _ => 0)))] H := hP
  have hD : va_D A [(h, .inr (0, [.ref q1, .ref q2, .ref q3, .ref q4, .ref q5, .ref q6, .int 0, .int (-1), .ref q7, .int 0, .int 0, .ref q8, .ref q9, .ref q10, .ref q11, .ref q12, .ref q13, .int 0, .int 0, .ref q14, .ref q15, .ref q16, .ref q17, .ref q18, .ref q19, .null, .null, .int 0, .int 0, .null, .null, .null, .int 0])), (q1, .inl (tI, 16, .inl (fun _ => 0))), (q2, .inl (tI, 16, .inl (fun _ => 0))), (q3, .inl (tI, 16, .inl (fun _ => 0))), (q4, .inl (tI, 700, .inl (fun _ => 0))), (q5, .inl (tI, 700, .inl (fun _ => 0))), (q6, .inl (tI, 700, .inl (fun _ => 0))), (q7, .inl (tI, 12, .inl (fun _ => 0))), (q8, .inl (tI, 4, .inl (fun _ => 0))), (q9, .inl (tI, 4, .inl (fun _ => 0))), (q10, .inl (tI, 4, .inl (fun _ => 0))), (q11, .inl (tI, 4, .inl (fun _ => 0))), (q12, .inl (tI, 16, .inl (fun _ => 0))), (q13, .inl (tI, 4, .inl (fun _ => 0))), (q14, .inl (tI, 4, .inl (fun _ => 0))), (q15, .inl (tI, 4, .inl (fun _ => 0))), (q16, .inl (tI, 4, .inl (fun _ => 0))), (q17, .inl (tI, 32, .inl (fun _ => 0))), (q18, .inl (tZ, 4, .inl (fun _ => 0))), (q19, .inl (tI, 4, .inl (fun _ => 0)))] := hD
  refine lv_aload_n hx hb dMo_init_154 rfl (lv_at hl 0 rfl) ?_
  refine lv_iconst (v := 4) hx hb dMo_init_155 (by decide) ?_
  refine va_newa (atype := .int) (ty := .int) (N' := 4) (a0 := (4, .inl (fun _ => 0))) hx hb (hts _ (List.mem_cons_of_mem _ wm_109)) rfl hK hP hD hS (hA rfl) (fun _ => rfl) (by decide) (by decide) (by decide) (Nat.le_of_ble_eq_true rfl) (Nat.le_of_ble_eq_true rfl) dMo_init_156 (fun q20 tq H hK hP hD hS => ?_)
  have hK9 : va_K D clA [(tI, .int), (tZ, .boolean), (tq, .int)] s := hK
  have etq : tI = tq := Option.some.inj ((va_nm_int (hK9.2 0 _ rfl).2).symm.trans (va_nm_int (hK9.2 2 _ rfl).2))
  subst etq
  have hK : va_K D clA [(tI, .int), (tZ, .boolean)] s := hK9.sub [0, 1] rfl
  have hP : va_P D clA [(h, .inr (0, [.ref q1, .ref q2, .ref q3, .ref q4, .ref q5, .ref q6, .int 0, .int (-1), .ref q7, .int 0, .int 0, .ref q8, .ref q9, .ref q10, .ref q11, .ref q12, .ref q13, .int 0, .int 0, .ref q14, .ref q15, .ref q16, .ref q17, .ref q18, .ref q19, .null, .null, .int 0, .int 0, .null, .null, .null, .int 0])), (q1, .inl (tI, 16, .inl (fun _ => 0))), (q2, .inl (tI, 16, .inl (fun _ => 0))), (q3, .inl (tI, 16, .inl (fun _ => 0))), (q4, .inl (tI, 700, .inl (fun _ => 0))), (q5, .inl (tI, 700, .inl (fun _ => 0))), (q6, .inl (tI, 700, .inl (fun _ => 0))), (q7, .inl (tI, 12, .inl (fun _ => 0))), (q8, .inl (tI, 4, .inl (fun _ => 0))), (q9, .inl (tI, 4, .inl (fun _ => 0))), (q10, .inl (tI, 4, .inl (fun _ => 0))), (q11, .inl (tI, 4, .inl (fun _ => 0))), (q12, .inl (tI, 16, .inl (fun _ => 0))), (q13, .inl (tI, 4, .inl (fun _ => 0))), (q14, .inl (tI, 4, .inl (fun _ => 0))), (q15, .inl (tI, 4, .inl (fun _ => 0))), (q16, .inl (tI, 4, .inl (fun _ => 0))), (q17, .inl (tI, 32, .inl (fun _ => 0))), (q18, .inl (tZ, 4, .inl (fun _ => 0))), (q19, .inl (tI, 4, .inl (fun _ => 0))), (q20, .inl (tI, 4, .inl (fun _ => 0)))] H := hP
  have hD : va_D A [(h, .inr (0, [.ref q1, .ref q2, .ref q3, .ref q4, .ref q5, .ref q6, .int 0, .int (-1), .ref q7, .int 0, .int 0, .ref q8, .ref q9, .ref q10, .ref q11, .ref q12, .ref q13, .int 0, .int 0, .ref q14, .ref q15, .ref q16, .ref q17, .ref q18, .ref q19, .null, .null, .int 0, .int 0, .null, .null, .null, .int 0])), (q1, .inl (tI, 16, .inl (fun _ => 0))), (q2, .inl (tI, 16, .inl (fun _ => 0))), (q3, .inl (tI, 16, .inl (fun _ => 0))), (q4, .inl (tI, 700, .inl (fun _ => 0))), (q5, .inl (tI, 700, .inl (fun _ => 0))), (q6, .inl (tI, 700, .inl (fun _ => 0))), (q7, .inl (tI, 12, .inl (fun _ => 0))), (q8, .inl (tI, 4, .inl (fun _ => 0))), (q9, .inl (tI, 4, .inl (fun _ => 0))), (q10, .inl (tI, 4, .inl (fun _ => 0))), (q11, .inl (tI, 4, .inl (fun _ => 0))), (q12, .inl (tI, 16, .inl (fun _ => 0))), (q13, .inl (tI, 4, .inl (fun _ => 0))), (q14, .inl (tI, 4, .inl (fun _ => 0))), (q15, .inl (tI, 4, .inl (fun _ => 0))), (q16, .inl (tI, 4, .inl (fun _ => 0))), (q17, .inl (tI, 32, .inl (fun _ => 0))), (q18, .inl (tZ, 4, .inl (fun _ => 0))), (q19, .inl (tI, 4, .inl (fun _ => 0))), (q20, .inl (tI, 4, .inl (fun _ => 0)))] := hD
  refine W.widen (k := 20) (n := 2252) (by omega) (by omega) ?_
  refine va_putF (v := .ref q20) (ty := .array .int) (D := D) (ci := 0) (C := RMo) (T := TMo) (N := 33) hx hb hts hin0 tyMo tyMo_ok nmMo hown hK hP hD hS 0 rfl rfl 25 (by decide) lk72 (fun _ h9 => h9) rfl hin rfl (by decide +kernel) rfl rfl (Nat.le_of_ble_eq_true rfl) dMo_init_158 (fun H locs hP hD hS => ?_)
  have hP : va_P D clA [(h, .inr (0, [.ref q1, .ref q2, .ref q3, .ref q4, .ref q5, .ref q6, .int 0, .int (-1), .ref q7, .int 0, .int 0, .ref q8, .ref q9, .ref q10, .ref q11, .ref q12, .ref q13, .int 0, .int 0, .ref q14, .ref q15, .ref q16, .ref q17, .ref q18, .ref q19, .ref q20, .null, .int 0, .int 0, .null, .null, .null, .int 0])), (q1, .inl (tI, 16, .inl (fun _ => 0))), (q2, .inl (tI, 16, .inl (fun _ => 0))), (q3, .inl (tI, 16, .inl (fun _ => 0))), (q4, .inl (tI, 700, .inl (fun _ => 0))), (q5, .inl (tI, 700, .inl (fun _ => 0))), (q6, .inl (tI, 700, .inl (fun _ => 0))), (q7, .inl (tI, 12, .inl (fun _ => 0))), (q8, .inl (tI, 4, .inl (fun _ => 0))), (q9, .inl (tI, 4, .inl (fun _ => 0))), (q10, .inl (tI, 4, .inl (fun _ => 0))), (q11, .inl (tI, 4, .inl (fun _ => 0))), (q12, .inl (tI, 16, .inl (fun _ => 0))), (q13, .inl (tI, 4, .inl (fun _ => 0))), (q14, .inl (tI, 4, .inl (fun _ => 0))), (q15, .inl (tI, 4, .inl (fun _ => 0))), (q16, .inl (tI, 4, .inl (fun _ => 0))), (q17, .inl (tI, 32, .inl (fun _ => 0))), (q18, .inl (tZ, 4, .inl (fun _ => 0))), (q19, .inl (tI, 4, .inl (fun _ => 0))), (q20, .inl (tI, 4, .inl (fun _ => 0)))] H := hP
  have hD : va_D A [(h, .inr (0, [.ref q1, .ref q2, .ref q3, .ref q4, .ref q5, .ref q6, .int 0, .int (-1), .ref q7, .int 0, .int 0, .ref q8, .ref q9, .ref q10, .ref q11, .ref q12, .ref q13, .int 0, .int 0, .ref q14, .ref q15, .ref q16, .ref q17, .ref q18, .ref q19, .ref q20, .null, .int 0, .int 0, .null, .null, .null, .int 0])), (q1, .inl (tI, 16, .inl (fun _ => 0))), (q2, .inl (tI, 16, .inl (fun _ => 0))), (q3, .inl (tI, 16, .inl (fun _ => 0))), (q4, .inl (tI, 700, .inl (fun _ => 0))), (q5, .inl (tI, 700, .inl (fun _ => 0))), (q6, .inl (tI, 700, .inl (fun _ => 0))), (q7, .inl (tI, 12, .inl (fun _ => 0))), (q8, .inl (tI, 4, .inl (fun _ => 0))), (q9, .inl (tI, 4, .inl (fun _ => 0))), (q10, .inl (tI, 4, .inl (fun _ => 0))), (q11, .inl (tI, 4, .inl (fun _ => 0))), (q12, .inl (tI, 16, .inl (fun _ => 0))), (q13, .inl (tI, 4, .inl (fun _ => 0))), (q14, .inl (tI, 4, .inl (fun _ => 0))), (q15, .inl (tI, 4, .inl (fun _ => 0))), (q16, .inl (tI, 4, .inl (fun _ => 0))), (q17, .inl (tI, 32, .inl (fun _ => 0))), (q18, .inl (tZ, 4, .inl (fun _ => 0))), (q19, .inl (tI, 4, .inl (fun _ => 0))), (q20, .inl (tI, 4, .inl (fun _ => 0)))] := hD
  refine lv_aload_n hx hb dMo_init_161 rfl (lv_at hl 0 rfl) ?_
  refine lv_iconst (v := 4) hx hb dMo_init_162 (by decide) ?_
  refine va_newa (atype := .boolean) (ty := .boolean) (N' := 4) (a0 := (4, .inl (fun _ => 0))) hx hb (hts _ (List.mem_cons_of_mem _ wm_110)) rfl hK hP hD hS (hA rfl) (fun _ => rfl) (by decide) (by decide) (by decide) (Nat.le_of_ble_eq_true rfl) (Nat.le_of_ble_eq_true rfl) dMo_init_163 (fun q21 tq H hK hP hD hS => ?_)
  have hK9 : va_K D clA [(tI, .int), (tZ, .boolean), (tq, .boolean)] s := hK
  have etq : tZ = tq := Option.some.inj ((va_nm_boolean (hK9.2 1 _ rfl).2).symm.trans (va_nm_boolean (hK9.2 2 _ rfl).2))
  subst etq
  have hK : va_K D clA [(tI, .int), (tZ, .boolean)] s := hK9.sub [0, 1] rfl
  have hP : va_P D clA [(h, .inr (0, [.ref q1, .ref q2, .ref q3, .ref q4, .ref q5, .ref q6, .int 0, .int (-1), .ref q7, .int 0, .int 0, .ref q8, .ref q9, .ref q10, .ref q11, .ref q12, .ref q13, .int 0, .int 0, .ref q14, .ref q15, .ref q16, .ref q17, .ref q18, .ref q19, .ref q20, .null, .int 0, .int 0, .null, .null, .null, .int 0])), (q1, .inl (tI, 16, .inl (fun _ => 0))), (q2, .inl (tI, 16, .inl (fun _ => 0))), (q3, .inl (tI, 16, .inl (fun _ => 0))), (q4, .inl (tI, 700, .inl (fun _ => 0))), (q5, .inl (tI, 700, .inl (fun _ => 0))), (q6, .inl (tI, 700, .inl (fun _ => 0))), (q7, .inl (tI, 12, .inl (fun _ => 0))), (q8, .inl (tI, 4, .inl (fun _ => 0))), (q9, .inl (tI, 4, .inl (fun _ => 0))), (q10, .inl (tI, 4, .inl (fun _ => 0))), (q11, .inl (tI, 4, .inl (fun _ => 0))), (q12, .inl (tI, 16, .inl (fun _ => 0))), (q13, .inl (tI, 4, .inl (fun _ => 0))), (q14, .inl (tI, 4, .inl (fun _ => 0))), (q15, .inl (tI, 4, .inl (fun _ => 0))), (q16, .inl (tI, 4, .inl (fun _ => 0))), (q17, .inl (tI, 32, .inl (fun _ => 0))), (q18, .inl (tZ, 4, .inl (fun _ => 0))), (q19, .inl (tI, 4, .inl (fun _ => 0))), (q20, .inl (tI, 4, .inl (fun _ => 0))), (q21, .inl (tZ, 4, .inl (fun _ => 0)))] H := hP
  have hD : va_D A [(h, .inr (0, [.ref q1, .ref q2, .ref q3, .ref q4, .ref q5, .ref q6, .int 0, .int (-1), .ref q7, .int 0, .int 0, .ref q8, .ref q9, .ref q10, .ref q11, .ref q12, .ref q13, .int 0, .int 0, .ref q14, .ref q15, .ref q16, .ref q17, .ref q18, .ref q19, .ref q20, .null, .int 0, .int 0, .null, .null, .null, .int 0])), (q1, .inl (tI, 16, .inl (fun _ => 0))), (q2, .inl (tI, 16, .inl (fun _ => 0))), (q3, .inl (tI, 16, .inl (fun _ => 0))), (q4, .inl (tI, 700, .inl (fun _ => 0))), (q5, .inl (tI, 700, .inl (fun _ => 0))), (q6, .inl (tI, 700, .inl (fun _ => 0))), (q7, .inl (tI, 12, .inl (fun _ => 0))), (q8, .inl (tI, 4, .inl (fun _ => 0))), (q9, .inl (tI, 4, .inl (fun _ => 0))), (q10, .inl (tI, 4, .inl (fun _ => 0))), (q11, .inl (tI, 4, .inl (fun _ => 0))), (q12, .inl (tI, 16, .inl (fun _ => 0))), (q13, .inl (tI, 4, .inl (fun _ => 0))), (q14, .inl (tI, 4, .inl (fun _ => 0))), (q15, .inl (tI, 4, .inl (fun _ => 0))), (q16, .inl (tI, 4, .inl (fun _ => 0))), (q17, .inl (tI, 32, .inl (fun _ => 0))), (q18, .inl (tZ, 4, .inl (fun _ => 0))), (q19, .inl (tI, 4, .inl (fun _ => 0))), (q20, .inl (tI, 4, .inl (fun _ => 0))), (q21, .inl (tZ, 4, .inl (fun _ => 0)))] := hD
  refine W.widen (k := 21) (n := 2256) (by omega) (by omega) ?_
  refine va_putF (v := .ref q21) (ty := .array .boolean) (D := D) (ci := 0) (C := RMo) (T := TMo) (N := 33) hx hb hts hin0 tyMo tyMo_ok nmMo hown hK hP hD hS 0 rfl rfl 26 (by decide) lk75 (fun _ h9 => h9) rfl hin rfl (by decide +kernel) rfl rfl (Nat.le_of_ble_eq_true rfl) dMo_init_165 (fun H locs hP hD hS => ?_)
  have hP : va_P D clA [(h, .inr (0, [.ref q1, .ref q2, .ref q3, .ref q4, .ref q5, .ref q6, .int 0, .int (-1), .ref q7, .int 0, .int 0, .ref q8, .ref q9, .ref q10, .ref q11, .ref q12, .ref q13, .int 0, .int 0, .ref q14, .ref q15, .ref q16, .ref q17, .ref q18, .ref q19, .ref q20, .ref q21, .int 0, .int 0, .null, .null, .null, .int 0])), (q1, .inl (tI, 16, .inl (fun _ => 0))), (q2, .inl (tI, 16, .inl (fun _ => 0))), (q3, .inl (tI, 16, .inl (fun _ => 0))), (q4, .inl (tI, 700, .inl (fun _ => 0))), (q5, .inl (tI, 700, .inl (fun _ => 0))), (q6, .inl (tI, 700, .inl (fun _ => 0))), (q7, .inl (tI, 12, .inl (fun _ => 0))), (q8, .inl (tI, 4, .inl (fun _ => 0))), (q9, .inl (tI, 4, .inl (fun _ => 0))), (q10, .inl (tI, 4, .inl (fun _ => 0))), (q11, .inl (tI, 4, .inl (fun _ => 0))), (q12, .inl (tI, 16, .inl (fun _ => 0))), (q13, .inl (tI, 4, .inl (fun _ => 0))), (q14, .inl (tI, 4, .inl (fun _ => 0))), (q15, .inl (tI, 4, .inl (fun _ => 0))), (q16, .inl (tI, 4, .inl (fun _ => 0))), (q17, .inl (tI, 32, .inl (fun _ => 0))), (q18, .inl (tZ, 4, .inl (fun _ => 0))), (q19, .inl (tI, 4, .inl (fun _ => 0))), (q20, .inl (tI, 4, .inl (fun _ => 0))), (q21, .inl (tZ, 4, .inl (fun _ => 0)))] H := hP
  have hD : va_D A [(h, .inr (0, [.ref q1, .ref q2, .ref q3, .ref q4, .ref q5, .ref q6, .int 0, .int (-1), .ref q7, .int 0, .int 0, .ref q8, .ref q9, .ref q10, .ref q11, .ref q12, .ref q13, .int 0, .int 0, .ref q14, .ref q15, .ref q16, .ref q17, .ref q18, .ref q19, .ref q20, .ref q21, .int 0, .int 0, .null, .null, .null, .int 0])), (q1, .inl (tI, 16, .inl (fun _ => 0))), (q2, .inl (tI, 16, .inl (fun _ => 0))), (q3, .inl (tI, 16, .inl (fun _ => 0))), (q4, .inl (tI, 700, .inl (fun _ => 0))), (q5, .inl (tI, 700, .inl (fun _ => 0))), (q6, .inl (tI, 700, .inl (fun _ => 0))), (q7, .inl (tI, 12, .inl (fun _ => 0))), (q8, .inl (tI, 4, .inl (fun _ => 0))), (q9, .inl (tI, 4, .inl (fun _ => 0))), (q10, .inl (tI, 4, .inl (fun _ => 0))), (q11, .inl (tI, 4, .inl (fun _ => 0))), (q12, .inl (tI, 16, .inl (fun _ => 0))), (q13, .inl (tI, 4, .inl (fun _ => 0))), (q14, .inl (tI, 4, .inl (fun _ => 0))), (q15, .inl (tI, 4, .inl (fun _ => 0))), (q16, .inl (tI, 4, .inl (fun _ => 0))), (q17, .inl (tI, 32, .inl (fun _ => 0))), (q18, .inl (tZ, 4, .inl (fun _ => 0))), (q19, .inl (tI, 4, .inl (fun _ => 0))), (q20, .inl (tI, 4, .inl (fun _ => 0))), (q21, .inl (tZ, 4, .inl (fun _ => 0)))] := hD
  refine lv_aload_n hx hb dMo_init_168 rfl (lv_at hl 0 rfl) ?_
  refine lv_iconst (v := (-1)) hx hb dMo_init_169 (by decide) ?_
  refine va_put (ty := .int) (D := D) (ci := 0) (C := RMo) (T := TMo) (N := 33) hx hb hts hin0 tyMo tyMo_ok nmMo hown hK hP hD hS 0 rfl rfl 27 (by decide) lk78 (fun _ h9 => h9) rfl (by decide +kernel) rfl rfl (Nat.le_of_ble_eq_true rfl) dMo_init_170 (fun H locs hP hD hS => ?_)
  have hP : va_P D clA [(h, .inr (0, [.ref q1, .ref q2, .ref q3, .ref q4, .ref q5, .ref q6, .int 0, .int (-1), .ref q7, .int 0, .int 0, .ref q8, .ref q9, .ref q10, .ref q11, .ref q12, .ref q13, .int 0, .int 0, .ref q14, .ref q15, .ref q16, .ref q17, .ref q18, .ref q19, .ref q20, .ref q21, .int (-1), .int 0, .null, .null, .null, .int 0])), (q1, .inl (tI, 16, .inl (fun _ => 0))), (q2, .inl (tI, 16, .inl (fun _ => 0))), (q3, .inl (tI, 16, .inl (fun _ => 0))), (q4, .inl (tI, 700, .inl (fun _ => 0))), (q5, .inl (tI, 700, .inl (fun _ => 0))), (q6, .inl (tI, 700, .inl (fun _ => 0))), (q7, .inl (tI, 12, .inl (fun _ => 0))), (q8, .inl (tI, 4, .inl (fun _ => 0))), (q9, .inl (tI, 4, .inl (fun _ => 0))), (q10, .inl (tI, 4, .inl (fun _ => 0))), (q11, .inl (tI, 4, .inl (fun _ => 0))), (q12, .inl (tI, 16, .inl (fun _ => 0))), (q13, .inl (tI, 4, .inl (fun _ => 0))), (q14, .inl (tI, 4, .inl (fun _ => 0))), (q15, .inl (tI, 4, .inl (fun _ => 0))), (q16, .inl (tI, 4, .inl (fun _ => 0))), (q17, .inl (tI, 32, .inl (fun _ => 0))), (q18, .inl (tZ, 4, .inl (fun _ => 0))), (q19, .inl (tI, 4, .inl (fun _ => 0))), (q20, .inl (tI, 4, .inl (fun _ => 0))), (q21, .inl (tZ, 4, .inl (fun _ => 0)))] H := hP
  have hD : va_D A [(h, .inr (0, [.ref q1, .ref q2, .ref q3, .ref q4, .ref q5, .ref q6, .int 0, .int (-1), .ref q7, .int 0, .int 0, .ref q8, .ref q9, .ref q10, .ref q11, .ref q12, .ref q13, .int 0, .int 0, .ref q14, .ref q15, .ref q16, .ref q17, .ref q18, .ref q19, .ref q20, .ref q21, .int (-1), .int 0, .null, .null, .null, .int 0])), (q1, .inl (tI, 16, .inl (fun _ => 0))), (q2, .inl (tI, 16, .inl (fun _ => 0))), (q3, .inl (tI, 16, .inl (fun _ => 0))), (q4, .inl (tI, 700, .inl (fun _ => 0))), (q5, .inl (tI, 700, .inl (fun _ => 0))), (q6, .inl (tI, 700, .inl (fun _ => 0))), (q7, .inl (tI, 12, .inl (fun _ => 0))), (q8, .inl (tI, 4, .inl (fun _ => 0))), (q9, .inl (tI, 4, .inl (fun _ => 0))), (q10, .inl (tI, 4, .inl (fun _ => 0))), (q11, .inl (tI, 4, .inl (fun _ => 0))), (q12, .inl (tI, 16, .inl (fun _ => 0))), (q13, .inl (tI, 4, .inl (fun _ => 0))), (q14, .inl (tI, 4, .inl (fun _ => 0))), (q15, .inl (tI, 4, .inl (fun _ => 0))), (q16, .inl (tI, 4, .inl (fun _ => 0))), (q17, .inl (tI, 32, .inl (fun _ => 0))), (q18, .inl (tZ, 4, .inl (fun _ => 0))), (q19, .inl (tI, 4, .inl (fun _ => 0))), (q20, .inl (tI, 4, .inl (fun _ => 0))), (q21, .inl (tZ, 4, .inl (fun _ => 0)))] := hD
  refine lv_aload_n hx hb dMo_init_173 rfl (lv_at hl 0 rfl) ?_
  refine lv_iconst (v := 4) hx hb dMo_init_174 (by decide) ?_
  refine va_newa (atype := .boolean) (ty := .boolean) (N' := 4) (a0 := (4, .inl (fun _ => 0))) hx hb (hts _ (List.mem_cons_of_mem _ wm_110)) rfl hK hP hD hS (hA rfl) (fun _ => rfl) (by decide) (by decide) (by decide) (Nat.le_of_ble_eq_true rfl) (Nat.le_of_ble_eq_true rfl) dMo_init_175 (fun q22 tq H hK hP hD hS => ?_)
  have hK9 : va_K D clA [(tI, .int), (tZ, .boolean), (tq, .boolean)] s := hK
  have etq : tZ = tq := Option.some.inj ((va_nm_boolean (hK9.2 1 _ rfl).2).symm.trans (va_nm_boolean (hK9.2 2 _ rfl).2))
  subst etq
  have hK : va_K D clA [(tI, .int), (tZ, .boolean)] s := hK9.sub [0, 1] rfl
  have hP : va_P D clA [(h, .inr (0, [.ref q1, .ref q2, .ref q3, .ref q4, .ref q5, .ref q6, .int 0, .int (-1), .ref q7, .int 0, .int 0, .ref q8, .ref q9, .ref q10, .ref q11, .ref q12, .ref q13, .int 0, .int 0, .ref q14, .ref q15, .ref q16, .ref q17, .ref q18, .ref q19, .ref q20, .ref q21, .int (-1), .int 0, .null, .null, .null, .int 0])), (q1, .inl (tI, 16, .inl (fun _ => 0))), (q2, .inl (tI, 16, .inl (fun _ => 0))), (q3, .inl (tI, 16, .inl (fun _ => 0))), (q4, .inl (tI, 700, .inl (fun _ => 0))), (q5, .inl (tI, 700, .inl (fun _ => 0))), (q6, .inl (tI, 700, .inl (fun _ => 0))), (q7, .inl (tI, 12, .inl (fun _ => 0))), (q8, .inl (tI, 4, .inl (fun _ => 0))), (q9, .inl (tI, 4, .inl (fun _ => 0))), (q10, .inl (tI, 4, .inl (fun _ => 0))), (q11, .inl (tI, 4, .inl (fun _ => 0))), (q12, .inl (tI, 16, .inl (fun _ => 0))), (q13, .inl (tI, 4, .inl (fun _ => 0))), (q14, .inl (tI, 4, .inl (fun _ => 0))), (q15, .inl (tI, 4, .inl (fun _ => 0))), (q16, .inl (tI, 4, .inl (fun _ => 0))), (q17, .inl (tI, 32, .inl (fun _ => 0))), (q18, .inl (tZ, 4, .inl (fun _ => 0))), (q19, .inl (tI, 4, .inl (fun _ => 0))), (q20, .inl (tI, 4, .inl (fun _ => 0))), (q21, .inl (tZ, 4, .inl (fun _ => 0))), (q22, .inl (tZ, 4, .inl (fun _ => 0)))] H := hP
  have hD : va_D A [(h, .inr (0, [.ref q1, .ref q2, .ref q3, .ref q4, .ref q5, .ref q6, .int 0, .int (-1), .ref q7, .int 0, .int 0, .ref q8, .ref q9, .ref q10, .ref q11, .ref q12, .ref q13, .int 0, .int 0, .ref q14, .ref q15, .ref q16, .ref q17, .ref q18, .ref q19, .ref q20, .ref q21, .int (-1), .int 0, .null, .null, .null, .int 0])), (q1, .inl (tI, 16, .inl (fun _ => 0))), (q2, .inl (tI, 16, .inl (fun _ => 0))), (q3, .inl (tI, 16, .inl (fun _ => 0))), (q4, .inl (tI, 700, .inl (fun _ => 0))), (q5, .inl (tI, 700, .inl (fun _ => 0))), (q6, .inl (tI, 700, .inl (fun _ => 0))), (q7, .inl (tI, 12, .inl (fun _ => 0))), (q8, .inl (tI, 4, .inl (fun _ => 0))), (q9, .inl (tI, 4, .inl (fun _ => 0))), (q10, .inl (tI, 4, .inl (fun _ => 0))), (q11, .inl (tI, 4, .inl (fun _ => 0))), (q12, .inl (tI, 16, .inl (fun _ => 0))), (q13, .inl (tI, 4, .inl (fun _ => 0))), (q14, .inl (tI, 4, .inl (fun _ => 0))), (q15, .inl (tI, 4, .inl (fun _ => 0))), (q16, .inl (tI, 4, .inl (fun _ => 0))), (q17, .inl (tI, 32, .inl (fun _ => 0))), (q18, .inl (tZ, 4, .inl (fun _ => 0))), (q19, .inl (tI, 4, .inl (fun _ => 0))), (q20, .inl (tI, 4, .inl (fun _ => 0))), (q21, .inl (tZ, 4, .inl (fun _ => 0))), (q22, .inl (tZ, 4, .inl (fun _ => 0)))] := hD
  refine W.widen (k := 22) (n := 2260) (by omega) (by omega) ?_
  refine va_putF (v := .ref q22) (ty := .array .boolean) (D := D) (ci := 0) (C := RMo) (T := TMo) (N := 33) hx hb hts hin0 tyMo tyMo_ok nmMo hown hK hP hD hS 0 rfl rfl 29 (by decide) lk81 (fun _ h9 => h9) rfl hin rfl (by decide +kernel) rfl rfl (Nat.le_of_ble_eq_true rfl) dMo_init_177 (fun H locs hP hD hS => ?_)
  have hP : va_P D clA [(h, .inr (0, [.ref q1, .ref q2, .ref q3, .ref q4, .ref q5, .ref q6, .int 0, .int (-1), .ref q7, .int 0, .int 0, .ref q8, .ref q9, .ref q10, .ref q11, .ref q12, .ref q13, .int 0, .int 0, .ref q14, .ref q15, .ref q16, .ref q17, .ref q18, .ref q19, .ref q20, .ref q21, .int (-1), .int 0, .ref q22, .null, .null, .int 0])), (q1, .inl (tI, 16, .inl (fun _ => 0))), (q2, .inl (tI, 16, .inl (fun _ => 0))), (q3, .inl (tI, 16, .inl (fun _ => 0))), (q4, .inl (tI, 700, .inl (fun _ => 0))), (q5, .inl (tI, 700, .inl (fun _ => 0))), (q6, .inl (tI, 700, .inl (fun _ => 0))), (q7, .inl (tI, 12, .inl (fun _ => 0))), (q8, .inl (tI, 4, .inl (fun _ => 0))), (q9, .inl (tI, 4, .inl (fun _ => 0))), (q10, .inl (tI, 4, .inl (fun _ => 0))), (q11, .inl (tI, 4, .inl (fun _ => 0))), (q12, .inl (tI, 16, .inl (fun _ => 0))), (q13, .inl (tI, 4, .inl (fun _ => 0))), (q14, .inl (tI, 4, .inl (fun _ => 0))), (q15, .inl (tI, 4, .inl (fun _ => 0))), (q16, .inl (tI, 4, .inl (fun _ => 0))), (q17, .inl (tI, 32, .inl (fun _ => 0))), (q18, .inl (tZ, 4, .inl (fun _ => 0))), (q19, .inl (tI, 4, .inl (fun _ => 0))), (q20, .inl (tI, 4, .inl (fun _ => 0))), (q21, .inl (tZ, 4, .inl (fun _ => 0))), (q22, .inl (tZ, 4, .inl (fun _ => 0)))] H := hP
  have hD : va_D A [(h, .inr (0, [.ref q1, .ref q2, .ref q3, .ref q4, .ref q5, .ref q6, .int 0, .int (-1), .ref q7, .int 0, .int 0, .ref q8, .ref q9, .ref q10, .ref q11, .ref q12, .ref q13, .int 0, .int 0, .ref q14, .ref q15, .ref q16, .ref q17, .ref q18, .ref q19, .ref q20, .ref q21, .int (-1), .int 0, .ref q22, .null, .null, .int 0])), (q1, .inl (tI, 16, .inl (fun _ => 0))), (q2, .inl (tI, 16, .inl (fun _ => 0))), (q3, .inl (tI, 16, .inl (fun _ => 0))), (q4, .inl (tI, 700, .inl (fun _ => 0))), (q5, .inl (tI, 700, .inl (fun _ => 0))), (q6, .inl (tI, 700, .inl (fun _ => 0))), (q7, .inl (tI, 12, .inl (fun _ => 0))), (q8, .inl (tI, 4, .inl (fun _ => 0))), (q9, .inl (tI, 4, .inl (fun _ => 0))), (q10, .inl (tI, 4, .inl (fun _ => 0))), (q11, .inl (tI, 4, .inl (fun _ => 0))), (q12, .inl (tI, 16, .inl (fun _ => 0))), (q13, .inl (tI, 4, .inl (fun _ => 0))), (q14, .inl (tI, 4, .inl (fun _ => 0))), (q15, .inl (tI, 4, .inl (fun _ => 0))), (q16, .inl (tI, 4, .inl (fun _ => 0))), (q17, .inl (tI, 32, .inl (fun _ => 0))), (q18, .inl (tZ, 4, .inl (fun _ => 0))), (q19, .inl (tI, 4, .inl (fun _ => 0))), (q20, .inl (tI, 4, .inl (fun _ => 0))), (q21, .inl (tZ, 4, .inl (fun _ => 0))), (q22, .inl (tZ, 4, .inl (fun _ => 0)))] := hD
  refine lv_aload_n hx hb dMo_init_180 rfl (lv_at hl 0 rfl) ?_
  refine lv_iconst (v := 4) hx hb dMo_init_181 (by decide) ?_
  refine va_newa (atype := .int) (ty := .int) (N' := 4) (a0 := (4, .inl (fun _ => 0))) hx hb (hts _ (List.mem_cons_of_mem _ wm_109)) rfl hK hP hD hS (hA rfl) (fun _ => rfl) (by decide) (by decide) (by decide) (Nat.le_of_ble_eq_true rfl) (Nat.le_of_ble_eq_true rfl) dMo_init_182 (fun q23 tq H hK hP hD hS => ?_)
  have hK9 : va_K D clA [(tI, .int), (tZ, .boolean), (tq, .int)] s := hK
  have etq : tI = tq := Option.some.inj ((va_nm_int (hK9.2 0 _ rfl).2).symm.trans (va_nm_int (hK9.2 2 _ rfl).2))
  subst etq
  have hK : va_K D clA [(tI, .int), (tZ, .boolean)] s := hK9.sub [0, 1] rfl
  have hP : va_P D clA [(h, .inr (0, [.ref q1, .ref q2, .ref q3, .ref q4, .ref q5, .ref q6, .int 0, .int (-1), .ref q7, .int 0, .int 0, .ref q8, .ref q9, .ref q10, .ref q11, .ref q12, .ref q13, .int 0, .int 0, .ref q14, .ref q15, .ref q16, .ref q17, .ref q18, .ref q19, .ref q20, .ref q21, .int (-1), .int 0, .ref q22, .null, .null, .int 0])), (q1, .inl (tI, 16, .inl (fun _ => 0))), (q2, .inl (tI, 16, .inl (fun _ => 0))), (q3, .inl (tI, 16, .inl (fun _ => 0))), (q4, .inl (tI, 700, .inl (fun _ => 0))), (q5, .inl (tI, 700, .inl (fun _ => 0))), (q6, .inl (tI, 700, .inl (fun _ => 0))), (q7, .inl (tI, 12, .inl (fun _ => 0))), (q8, .inl (tI, 4, .inl (fun _ => 0))), (q9, .inl (tI, 4, .inl (fun _ => 0))), (q10, .inl (tI, 4, .inl (fun _ => 0))), (q11, .inl (tI, 4, .inl (fun _ => 0))), (q12, .inl (tI, 16, .inl (fun _ => 0))), (q13, .inl (tI, 4, .inl (fun _ => 0))), (q14, .inl (tI, 4, .inl (fun _ => 0))), (q15, .inl (tI, 4, .inl (fun _ => 0))), (q16, .inl (tI, 4, .inl (fun _ => 0))), (q17, .inl (tI, 32, .inl (fun _ => 0))), (q18, .inl (tZ, 4, .inl (fun _ => 0))), (q19, .inl (tI, 4, .inl (fun _ => 0))), (q20, .inl (tI, 4, .inl (fun _ => 0))), (q21, .inl (tZ, 4, .inl (fun _ => 0))), (q22, .inl (tZ, 4, .inl (fun _ => 0))), (q23, .inl (tI, 4, .inl (fun _ => 0)))] H := hP
  have hD : va_D A [(h, .inr (0, [.ref q1, .ref q2, .ref q3, .ref q4, .ref q5, .ref q6, .int 0, .int (-1), .ref q7, .int 0, .int 0, .ref q8, .ref q9, .ref q10, .ref q11, .ref q12, .ref q13, .int 0, .int 0, .ref q14, .ref q15, .ref q16, .ref q17, .ref q18, .ref q19, .ref q20, .ref q21, .int (-1), .int 0, .ref q22, .null, .null, .int 0])), (q1, .inl (tI, 16, .inl (fun _ => 0))), (q2, .inl (tI, 16, .inl (fun _ => 0))), (q3, .inl (tI, 16, .inl (fun _ => 0))), (q4, .inl (tI, 700, .inl (fun _ => 0))), (q5, .inl (tI, 700, .inl (fun _ => 0))), (q6, .inl (tI, 700, .inl (fun _ => 0))), (q7, .inl (tI, 12, .inl (fun _ => 0))), (q8, .inl (tI, 4, .inl (fun _ => 0))), (q9, .inl (tI, 4, .inl (fun _ => 0))), (q10, .inl (tI, 4, .inl (fun _ => 0))), (q11, .inl (tI, 4, .inl (fun _ => 0))), (q12, .inl (tI, 16, .inl (fun _ => 0))), (q13, .inl (tI, 4, .inl (fun _ => 0))), (q14, .inl (tI, 4, .inl (fun _ => 0))), (q15, .inl (tI, 4, .inl (fun _ => 0))), (q16, .inl (tI, 4, .inl (fun _ => 0))), (q17, .inl (tI, 32, .inl (fun _ => 0))), (q18, .inl (tZ, 4, .inl (fun _ => 0))), (q19, .inl (tI, 4, .inl (fun _ => 0))), (q20, .inl (tI, 4, .inl (fun _ => 0))), (q21, .inl (tZ, 4, .inl (fun _ => 0))), (q22, .inl (tZ, 4, .inl (fun _ => 0))), (q23, .inl (tI, 4, .inl (fun _ => 0)))] := hD
  refine W.widen (k := 23) (n := 2264) (by omega) (by omega) ?_
  refine va_putF (v := .ref q23) (ty := .array .int) (D := D) (ci := 0) (C := RMo) (T := TMo) (N := 33) hx hb hts hin0 tyMo tyMo_ok nmMo hown hK hP hD hS 0 rfl rfl 30 (by decide) lk84 (fun _ h9 => h9) rfl hin rfl (by decide +kernel) rfl rfl (Nat.le_of_ble_eq_true rfl) dMo_init_184 (fun H locs hP hD hS => ?_)
  have hP : va_P D clA [(h, .inr (0, [.ref q1, .ref q2, .ref q3, .ref q4, .ref q5, .ref q6, .int 0, .int (-1), .ref q7, .int 0, .int 0, .ref q8, .ref q9, .ref q10, .ref q11, .ref q12, .ref q13, .int 0, .int 0, .ref q14, .ref q15, .ref q16, .ref q17, .ref q18, .ref q19, .ref q20, .ref q21, .int (-1), .int 0, .ref q22, .ref q23, .null, .int 0])), (q1, .inl (tI, 16, .inl (fun _ => 0))), (q2, .inl (tI, 16, .inl (fun _ => 0))), (q3, .inl (tI, 16, .inl (fun _ => 0))), (q4, .inl (tI, 700, .inl (fun _ => 0))), (q5, .inl (tI, 700, .inl (fun _ => 0))), (q6, .inl (tI, 700, .inl (fun _ => 0))), (q7, .inl (tI, 12, .inl (fun _ => 0))), (q8, .inl (tI, 4, .inl (fun _ => 0))), (q9, .inl (tI, 4, .inl (fun _ => 0))), (q10, .inl (tI, 4, .inl (fun _ => 0))), (q11, .inl (tI, 4, .inl (fun _ => 0))), (q12, .inl (tI, 16, .inl (fun _ => 0))), (q13, .inl (tI, 4, .inl (fun _ => 0))), (q14, .inl (tI, 4, .inl (fun _ => 0))), (q15, .inl (tI, 4, .inl (fun _ => 0))), (q16, .inl (tI, 4, .inl (fun _ => 0))), (q17, .inl (tI, 32, .inl (fun _ => 0))), (q18, .inl (tZ, 4, .inl (fun _ => 0))), (q19, .inl (tI, 4, .inl (fun _ => 0))), (q20, .inl (tI, 4, .inl (fun _ => 0))), (q21, .inl (tZ, 4, .inl (fun _ => 0))), (q22, .inl (tZ, 4, .inl (fun _ => 0))), (q23, .inl (tI, 4, .inl (fun _ => 0)))] H := hP
  have hD : va_D A [(h, .inr (0, [.ref q1, .ref q2, .ref q3, .ref q4, .ref q5, .ref q6, .int 0, .int (-1), .ref q7, .int 0, .int 0, .ref q8, .ref q9, .ref q10, .ref q11, .ref q12, .ref q13, .int 0, .int 0, .ref q14, .ref q15, .ref q16, .ref q17, .ref q18, .ref q19, .ref q20, .ref q21, .int (-1), .int 0, .ref q22, .ref q23, .null, .int 0])), (q1, .inl (tI, 16, .inl (fun _ => 0))), (q2, .inl (tI, 16, .inl (fun _ => 0))), (q3, .inl (tI, 16, .inl (fun _ => 0))), (q4, .inl (tI, 700, .inl (fun _ => 0))), (q5, .inl (tI, 700, .inl (fun _ => 0))), (q6, .inl (tI, 700, .inl (fun _ => 0))), (q7, .inl (tI, 12, .inl (fun _ => 0))), (q8, .inl (tI, 4, .inl (fun _ => 0))), (q9, .inl (tI, 4, .inl (fun _ => 0))), (q10, .inl (tI, 4, .inl (fun _ => 0))), (q11, .inl (tI, 4, .inl (fun _ => 0))), (q12, .inl (tI, 16, .inl (fun _ => 0))), (q13, .inl (tI, 4, .inl (fun _ => 0))), (q14, .inl (tI, 4, .inl (fun _ => 0))), (q15, .inl (tI, 4, .inl (fun _ => 0))), (q16, .inl (tI, 4, .inl (fun _ => 0))), (q17, .inl (tI, 32, .inl (fun _ => 0))), (q18, .inl (tZ, 4, .inl (fun _ => 0))), (q19, .inl (tI, 4, .inl (fun _ => 0))), (q20, .inl (tI, 4, .inl (fun _ => 0))), (q21, .inl (tZ, 4, .inl (fun _ => 0))), (q22, .inl (tZ, 4, .inl (fun _ => 0))), (q23, .inl (tI, 4, .inl (fun _ => 0)))] := hD
  refine lv_aload_n hx hb dMo_init_187 rfl (lv_at hl 0 rfl) ?_
  refine lv_iconst (v := 4) hx hb dMo_init_188 (by decide) ?_
  refine va_newa (atype := .int) (ty := .int) (N' := 4) (a0 := (4, .inl (fun _ => 0))) hx hb (hts _ (List.mem_cons_of_mem _ wm_109)) rfl hK hP hD hS (hA rfl) (fun _ => rfl) (by decide) (by decide) (by decide) (Nat.le_of_ble_eq_true rfl) (Nat.le_of_ble_eq_true rfl) dMo_init_189 (fun q24 tq H hK hP hD hS => ?_)
  have hK9 : va_K D clA [(tI, .int), (tZ, .boolean), (tq, .int)] s := hK
  have etq : tI = tq := Option.some.inj ((va_nm_int (hK9.2 0 _ rfl).2).symm.trans (va_nm_int (hK9.2 2 _ rfl).2))
  subst etq
  have hK : va_K D clA [(tI, .int), (tZ, .boolean)] s := hK9.sub [0, 1] rfl
  have hP : va_P D clA [(h, .inr (0, [.ref q1, .ref q2, .ref q3, .ref q4, .ref q5, .ref q6, .int 0, .int (-1), .ref q7, .int 0, .int 0, .ref q8, .ref q9, .ref q10, .ref q11, .ref q12, .ref q13, .int 0, .int 0, .ref q14, .ref q15, .ref q16, .ref q17, .ref q18, .ref q19, .ref q20, .ref q21, .int (-1), .int 0, .ref q22, .ref q23, .null, .int 0])), (q1, .inl (tI, 16, .inl (fun _ => 0))), (q2, .inl (tI, 16, .inl (fun _ => 0))), (q3, .inl (tI, 16, .inl (fun _ => 0))), (q4, .inl (tI, 700, .inl (fun _ => 0))), (q5, .inl (tI, 700, .inl (fun _ => 0))), (q6, .inl (tI, 700, .inl (fun _ => 0))), (q7, .inl (tI, 12, .inl (fun _ => 0))), (q8, .inl (tI, 4, .inl (fun _ => 0))), (q9, .inl (tI, 4, .inl (fun _ => 0))), (q10, .inl (tI, 4, .inl (fun _ => 0))), (q11, .inl (tI, 4, .inl (fun _ => 0))), (q12, .inl (tI, 16, .inl (fun _ => 0))), (q13, .inl (tI, 4, .inl (fun _ => 0))), (q14, .inl (tI, 4, .inl (fun _ => 0))), (q15, .inl (tI, 4, .inl (fun _ => 0))), (q16, .inl (tI, 4, .inl (fun _ => 0))), (q17, .inl (tI, 32, .inl (fun _ => 0))), (q18, .inl (tZ, 4, .inl (fun _ => 0))), (q19, .inl (tI, 4, .inl (fun _ => 0))), (q20, .inl (tI, 4, .inl (fun _ => 0))), (q21, .inl (tZ, 4, .inl (fun _ => 0))), (q22, .inl (tZ, 4, .inl (fun _ => 0))), (q23, .inl (tI, 4, .inl (fun _ => 0))), (q24, .inl (tI, 4, .inl (fun _ => 0)))] H := hP
  have hD : va_D A [(h, .inr (0, [.ref q1, .ref q2, .ref q3, .ref q4, .ref q5, .ref q6, .int 0, .int (-1), .ref q7, .int 0, .int 0, .ref q8, .ref q9, .ref q10, .ref q11, .ref q12, .ref q13, .int 0, .int 0, .ref q14, .ref q15, .ref q16, .ref q17, .ref q18, .ref q19, .ref q20, .ref q21, .int (-1), .int 0, .ref q22, .ref q23, .null, .int 0])), (q1, .inl (tI, 16, .inl (fun _ => 0))), (q2, .inl (tI, 16, .inl (fun _ => 0))), (q3, .inl (tI, 16, .inl (fun _ => 0))), (q4, .inl (tI, 700, .inl (fun _ => 0))), (q5, .inl (tI, 700, .inl (fun _ => 0))), (q6, .inl (tI, 700, .inl (fun _ => 0))), (q7, .inl (tI, 12, .inl (fun _ => 0))), (q8, .inl (tI, 4, .inl (fun _ => 0))), (q9, .inl (tI, 4, .inl (fun _ => 0))), (q10, .inl (tI, 4, .inl (fun _ => 0))), (q11, .inl (tI, 4, .inl (fun _ => 0))), (q12, .inl (tI, 16, .inl (fun _ => 0))), (q13, .inl (tI, 4, .inl (fun _ => 0))), (q14, .inl (tI, 4, .inl (fun _ => 0))), (q15, .inl (tI, 4, .inl (fun _ => 0))), (q16, .inl (tI, 4, .inl (fun _ => 0))), (q17, .inl (tI, 32, .inl (fun _ => 0))), (q18, .inl (tZ, 4, .inl (fun _ => 0))), (q19, .inl (tI, 4, .inl (fun _ => 0))), (q20, .inl (tI, 4, .inl (fun _ => 0))), (q21, .inl (tZ, 4, .inl (fun _ => 0))), (q22, .inl (tZ, 4, .inl (fun _ => 0))), (q23, .inl (tI, 4, .inl (fun _ => 0))), (q24, .inl (tI, 4, .inl (fun _ => 0)))] := hD
  refine W.widen (k := 24) (n := 2268) (by omega) (by omega) ?_
  refine va_putF (v := .ref q24) (ty := .array .int) (D := D) (ci := 0) (C := RMo) (T := TMo) (N := 33) hx hb hts hin0 tyMo tyMo_ok nmMo hown hK hP hD hS 0 rfl rfl 31 (by decide) lk87 (fun _ h9 => h9) rfl hin rfl (by decide +kernel) rfl rfl (Nat.le_of_ble_eq_true rfl) dMo_init_191 (fun H locs hP hD hS => ?_)
  have hP : va_P D clA [(h, .inr (0, [.ref q1, .ref q2, .ref q3, .ref q4, .ref q5, .ref q6, .int 0, .int (-1), .ref q7, .int 0, .int 0, .ref q8, .ref q9, .ref q10, .ref q11, .ref q12, .ref q13, .int 0, .int 0, .ref q14, .ref q15, .ref q16, .ref q17, .ref q18, .ref q19, .ref q20, .ref q21, .int (-1), .int 0, .ref q22, .ref q23, .ref q24, .int 0])), (q1, .inl (tI, 16, .inl (fun _ => 0))), (q2, .inl (tI, 16, .inl (fun _ => 0))), (q3, .inl (tI, 16, .inl (fun _ => 0))), (q4, .inl (tI, 700, .inl (fun _ => 0))), (q5, .inl (tI, 700, .inl (fun _ => 0))), (q6, .inl (tI, 700, .inl (fun _ => 0))), (q7, .inl (tI, 12, .inl (fun _ => 0))), (q8, .inl (tI, 4, .inl (fun _ => 0))), (q9, .inl (tI, 4, .inl (fun _ => 0))), (q10, .inl (tI, 4, .inl (fun _ => 0))), (q11, .inl (tI, 4, .inl (fun _ => 0))), (q12, .inl (tI, 16, .inl (fun _ => 0))), (q13, .inl (tI, 4, .inl (fun _ => 0))), (q14, .inl (tI, 4, .inl (fun _ => 0))), (q15, .inl (tI, 4, .inl (fun _ => 0))), (q16, .inl (tI, 4, .inl (fun _ => 0))), (q17, .inl (tI, 32, .inl (fun _ => 0))), (q18, .inl (tZ, 4, .inl (fun _ => 0))), (q19, .inl (tI, 4, .inl (fun _ => 0))), (q20, .inl (tI, 4, .inl (fun _ => 0))), (q21, .inl (tZ, 4, .inl (fun _ => 0))), (q22, .inl (tZ, 4, .inl (fun _ => 0))), (q23, .inl (tI, 4, .inl (fun _ => 0))), (q24, .inl (tI, 4, .inl (fun _ => 0)))] H := hP
  have hD : va_D A [(h, .inr (0, [.ref q1, .ref q2, .ref q3, .ref q4, .ref q5, .ref q6, .int 0, .int (-1), .ref q7, .int 0, .int 0, .ref q8, .ref q9, .ref q10, .ref q11, .ref q12, .ref q13, .int 0, .int 0, .ref q14, .ref q15, .ref q16, .ref q17, .ref q18, .ref q19, .ref q20, .ref q21, .int (-1), .int 0, .ref q22, .ref q23, .ref q24, .int 0])), (q1, .inl (tI, 16, .inl (fun _ => 0))), (q2, .inl (tI, 16, .inl (fun _ => 0))), (q3, .inl (tI, 16, .inl (fun _ => 0))), (q4, .inl (tI, 700, .inl (fun _ => 0))), (q5, .inl (tI, 700, .inl (fun _ => 0))), (q6, .inl (tI, 700, .inl (fun _ => 0))), (q7, .inl (tI, 12, .inl (fun _ => 0))), (q8, .inl (tI, 4, .inl (fun _ => 0))), (q9, .inl (tI, 4, .inl (fun _ => 0))), (q10, .inl (tI, 4, .inl (fun _ => 0))), (q11, .inl (tI, 4, .inl (fun _ => 0))), (q12, .inl (tI, 16, .inl (fun _ => 0))), (q13, .inl (tI, 4, .inl (fun _ => 0))), (q14, .inl (tI, 4, .inl (fun _ => 0))), (q15, .inl (tI, 4, .inl (fun _ => 0))), (q16, .inl (tI, 4, .inl (fun _ => 0))), (q17, .inl (tI, 32, .inl (fun _ => 0))), (q18, .inl (tZ, 4, .inl (fun _ => 0))), (q19, .inl (tI, 4, .inl (fun _ => 0))), (q20, .inl (tI, 4, .inl (fun _ => 0))), (q21, .inl (tZ, 4, .inl (fun _ => 0))), (q22, .inl (tZ, 4, .inl (fun _ => 0))), (q23, .inl (tI, 4, .inl (fun _ => 0))), (q24, .inl (tI, 4, .inl (fun _ => 0)))] := hD
  obtain ⟨a, ea⟩ : ∃ a : Nat → Nat, a = fun k => [h, q1, q2, q3, q4, q5, q6, q7, q8, q9, q10, q11, q12, q13, q14, q15, q16, q17, q18, q19, q20, q21, q22, q23, q24].getD k 0 := ⟨_, rfl⟩
  have ha0 : a 0 = h := by rw [ea]; rfl
  have hP : va_P D clA (mw a tI tZ mo0) H := by rw [ea]; exact hP
  have hD : va_D A (mw a tI tZ mo0) := by rw [ea]; exact hD
  have hl : lv_has ls 6 [(0, .ref (a 0)), (1, .int x1), (2, .int x2)] := by rw [ha0]; exact hl
  exact cut194 a tI tZ ha0 hK _ _ _ hwp hP hD hS hl
