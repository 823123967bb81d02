/-! the law: links and decode rows -/
theorem ln_La_7 : x_nl "SequentMachineLaw" 7 7 [.inr none, .inr none, .inr none, .inr none, .inr none, .inr none, .inr none, .inl 0, .inl 0] := ⟨_, ct_7, 9, cy_7, rfl, rfl, ck_7, cp_7, fun b j hj => by rcases (show j = 0 ∨ j = 1 ∨ j = 2 ∨ j = 3 ∨ j = 4 ∨ j = 5 ∨ j = 6 ∨ j = 7 ∨ j = 8 by omega) with rfl | rfl | rfl | rfl | rfl | rfl | rfl | rfl | rfl <;> rfl, x_at 13 (by decide +kernel) rfl, x_at 14 (by decide +kernel) rfl, x_at 1 (by decide +kernel) rfl⟩
theorem ln_La_10 : x_nl "SequentMachineLaw" 10 8 [.inr none, .inr none, .inr none, .inr none, .inl 0, .inl 0, .inl 0, .inl 0, .inl 0, .inr none, .inr none, .inl 0, .inl 0, .inl 0, .inl 0] := ⟨_, ct_8, 15, cy_8, rfl, rfl, ck_8, cp_8, fun b j hj => by rcases (show j = 0 ∨ j = 1 ∨ j = 2 ∨ j = 3 ∨ j = 4 ∨ j = 5 ∨ j = 6 ∨ j = 7 ∨ j = 8 ∨ j = 9 ∨ j = 10 ∨ j = 11 ∨ j = 12 ∨ j = 13 ∨ j = 14 by omega) with rfl | rfl | rfl | rfl | rfl | rfl | rfl | rfl | rfl | rfl | rfl | rfl | rfl | rfl | rfl <;> rfl, x_at 552 (by decide +kernel) rfl, x_at 553 (by decide +kernel) rfl, x_at 6 (by decide +kernel) rfl⟩
theorem lm_La_9 : Cond.methodLink "SequentMachineLaw" 9 mm_Ma_init.1 ∈ x_ws := x_at 15 (by decide +kernel) rfl
theorem lm_La_13 : Cond.methodLink "SequentMachineLaw" 13 mm_Ma_type.1 ∈ x_ws := x_at 122 (by decide +kernel) rfl
theorem lm_La_18 : Cond.methodLink "SequentMachineLaw" 18 mm_Ma_var.1 ∈ x_ws := x_at 247 (by decide +kernel) rfl
theorem lm_La_22 : Cond.methodLink "SequentMachineLaw" 22 mm_Ma_constant.1 ∈ x_ws := x_at 259 (by decide +kernel) rfl
theorem lm_La_26 : Cond.methodLink "SequentMachineLaw" 26 mm_Ma_app.1 ∈ x_ws := x_at 263 (by decide +kernel) rfl
theorem lm_La_31 : Cond.methodLink "SequentMachineLaw" 31 mm_Ma_abs.1 ∈ x_ws := x_at 316 (by decide +kernel) rfl
theorem lm_La_35 : Cond.methodLink "SequentMachineLaw" 35 mm_Ma_theorem.1 ∈ x_ws := x_at 340 (by decide +kernel) rfl
theorem lm_La_39 : Cond.methodLink "SequentMachineLaw" 39 mm_Ma_join.1 ∈ x_ws := x_at 411 (by decide +kernel) rfl
theorem lm_La_43 : Cond.methodLink "SequentMachineLaw" 43 mm_Ma_absThm.1 ∈ x_ws := x_at 467 (by decide +kernel) rfl
theorem lm_La_47 : Cond.methodLink "SequentMachineLaw" 47 mm_Ma_inst.1 ∈ x_ws := x_at 479 (by decide +kernel) rfl
theorem lm_La_51 : Cond.methodLink "SequentMachineLaw" 51 mm_Ma_instType.1 ∈ x_ws := x_at 487 (by decide +kernel) rfl
theorem lm_La_55 : Cond.methodLink "SequentMachineLaw" 55 mm_Ma_keep.1 ∈ x_ws := x_at 496 (by decide +kernel) rfl
theorem lm_La_59 : Cond.methodLink "SequentMachineLaw" 59 mm_Ma_fetch.1 ∈ x_ws := x_at 500 (by decide +kernel) rfl
theorem lm_La_63 : Cond.methodLink "SequentMachineLaw" 63 mm_Ma_pop.1 ∈ x_ws := x_at 508 (by decide +kernel) rfl
theorem lm_La_67 : Cond.methodLink "SequentMachineLaw" 67 mm_Ma_export.1 ∈ x_ws := x_at 512 (by decide +kernel) rfl
theorem lm_La_71 : Cond.methodLink "SequentMachineLaw" 71 mm_Ma_count.1 ∈ x_ws := x_at 516 (by decide +kernel) rfl
theorem lm_La_75 : Cond.methodLink "SequentMachineLaw" 75 mm_Ma_kind.1 ∈ x_ws := x_at 520 (by decide +kernel) rfl
theorem lm_La_79 : Cond.methodLink "SequentMachineLaw" 79 mm_Ma_hypotheses.1 ∈ x_ws := x_at 532 (by decide +kernel) rfl
theorem lm_La_83 : Cond.methodLink "SequentMachineLaw" 83 mm_Ma_length.1 ∈ x_ws := x_at 536 (by decide +kernel) rfl
theorem lm_La_88 : Cond.methodLink "SequentMachineLaw" 88 mm_Ma_symbol.1 ∈ x_ws := x_at 548 (by decide +kernel) rfl
theorem lm_La_12 : Cond.methodLink "SequentMachineLaw" 12 mm_Re_init.1 ∈ x_ws := x_at 554 (by decide +kernel) rfl
theorem lm_La_17 : Cond.methodLink "SequentMachineLaw" 17 mm_Re_type.1 ∈ x_ws := x_at 604 (by decide +kernel) rfl
theorem lm_La_21 : Cond.methodLink "SequentMachineLaw" 21 mm_Re_var.1 ∈ x_ws := x_at 651 (by decide +kernel) rfl
theorem lm_La_25 : Cond.methodLink "SequentMachineLaw" 25 mm_Re_constant.1 ∈ x_ws := x_at 659 (by decide +kernel) rfl
theorem lm_La_30 : Cond.methodLink "SequentMachineLaw" 30 mm_Re_app.1 ∈ x_ws := x_at 663 (by decide +kernel) rfl
theorem lm_La_34 : Cond.methodLink "SequentMachineLaw" 34 mm_Re_abs.1 ∈ x_ws := x_at 687 (by decide +kernel) rfl
theorem lm_La_38 : Cond.methodLink "SequentMachineLaw" 38 mm_Re_theorem.1 ∈ x_ws := x_at 711 (by decide +kernel) rfl
theorem lm_La_42 : Cond.methodLink "SequentMachineLaw" 42 mm_Re_join.1 ∈ x_ws := x_at 751 (by decide +kernel) rfl
theorem lm_La_46 : Cond.methodLink "SequentMachineLaw" 46 mm_Re_absThm.1 ∈ x_ws := x_at 771 (by decide +kernel) rfl
theorem lm_La_50 : Cond.methodLink "SequentMachineLaw" 50 mm_Re_inst.1 ∈ x_ws := x_at 779 (by decide +kernel) rfl
theorem lm_La_54 : Cond.methodLink "SequentMachineLaw" 54 mm_Re_instType.1 ∈ x_ws := x_at 787 (by decide +kernel) rfl
theorem lm_La_58 : Cond.methodLink "SequentMachineLaw" 58 mm_Re_keep.1 ∈ x_ws := x_at 795 (by decide +kernel) rfl
theorem lm_La_62 : Cond.methodLink "SequentMachineLaw" 62 mm_Re_fetch.1 ∈ x_ws := x_at 799 (by decide +kernel) rfl
theorem lm_La_66 : Cond.methodLink "SequentMachineLaw" 66 mm_Re_pop.1 ∈ x_ws := x_at 803 (by decide +kernel) rfl
theorem lm_La_70 : Cond.methodLink "SequentMachineLaw" 70 mm_Re_export.1 ∈ x_ws := x_at 807 (by decide +kernel) rfl
theorem lm_La_74 : Cond.methodLink "SequentMachineLaw" 74 mm_Re_count.1 ∈ x_ws := x_at 811 (by decide +kernel) rfl
theorem lm_La_78 : Cond.methodLink "SequentMachineLaw" 78 mm_Re_kind.1 ∈ x_ws := x_at 815 (by decide +kernel) rfl
theorem lm_La_82 : Cond.methodLink "SequentMachineLaw" 82 mm_Re_hypotheses.1 ∈ x_ws := x_at 823 (by decide +kernel) rfl
theorem lm_La_87 : Cond.methodLink "SequentMachineLaw" 87 mm_Re_length.1 ∈ x_ws := x_at 827 (by decide +kernel) rfl
theorem lm_La_92 : Cond.methodLink "SequentMachineLaw" 92 mm_Re_symbol.1 ∈ x_ws := x_at 831 (by decide +kernel) rfl
theorem dl_0 : decode code 0 = .ok (.new 7, 3) := by decide +kernel
theorem dl_3 : decode code 3 = .ok (.dup, 1) := by decide +kernel
theorem dl_4 : decode code 4 = .ok (.invokespecial 9, 3) := by decide +kernel
theorem dl_7 : decode code 7 = .ok (.astore_n 1, 1) := by decide +kernel
theorem dl_8 : decode code 8 = .ok (.new 10, 3) := by decide +kernel
theorem dl_11 : decode code 11 = .ok (.dup, 1) := by decide +kernel
theorem dl_12 : decode code 12 = .ok (.invokespecial 12, 3) := by decide +kernel
theorem dl_15 : decode code 15 = .ok (.astore_n 2, 1) := by decide +kernel
theorem dl_16 : decode code 16 = .ok (.iconst 0, 1) := by decide +kernel
theorem dl_17 : decode code 17 = .ok (.istore_n 3, 1) := by decide +kernel
theorem dl_18 : decode code 18 = .ok (.iload_n 3, 1) := by decide +kernel
theorem dl_19 : decode code 19 = .ok (.aload_n 0, 1) := by decide +kernel
theorem dl_20 : decode code 20 = .ok (.arraylength, 1) := by decide +kernel
theorem dl_21 : decode code 21 = .ok (.iconst 4, 1) := by decide +kernel
theorem dl_22 : decode code 22 = .ok (.isub, 1) := by decide +kernel
theorem dl_23 : decode code 23 = .ok (.if_icmp .gt 514, 3) := by decide +kernel
theorem dl_26 : decode code 26 = .ok (.aload_n 0, 1) := by decide +kernel
theorem dl_27 : decode code 27 = .ok (.iload_n 3, 1) := by decide +kernel
theorem dl_28 : decode code 28 = .ok (.iaload, 1) := by decide +kernel
theorem dl_29 : decode code 29 = .ok (.bipush 31, 2) := by decide +kernel
theorem dl_31 : decode code 31 = .ok (.iand, 1) := by decide +kernel
theorem dl_32 : decode code 32 = .ok (.tableswitch 499 0 18 #[92, 115, 138, 161, 174, 187, 210, 233, 246, 259, 282, 305, 328, 341, 354, 377, 400, 423, 456], 92) := by decide +kernel
theorem dl_124 : decode code 124 = .ok (.aload_n 1, 1) := by decide +kernel
theorem dl_125 : decode code 125 = .ok (.aload_n 0, 1) := by decide +kernel
theorem dl_126 : decode code 126 = .ok (.iload_n 3, 1) := by decide +kernel
theorem dl_127 : decode code 127 = .ok (.iconst 1, 1) := by decide +kernel
theorem dl_128 : decode code 128 = .ok (.iadd, 1) := by decide +kernel
theorem dl_129 : decode code 129 = .ok (.iaload, 1) := by decide +kernel
theorem dl_130 : decode code 130 = .ok (.invokevirtual 13, 3) := by decide +kernel
theorem dl_133 : decode code 133 = .ok (.aload_n 2, 1) := by decide +kernel
theorem dl_134 : decode code 134 = .ok (.aload_n 0, 1) := by decide +kernel
theorem dl_135 : decode code 135 = .ok (.iload_n 3, 1) := by decide +kernel
theorem dl_136 : decode code 136 = .ok (.iconst 1, 1) := by decide +kernel
theorem dl_137 : decode code 137 = .ok (.iadd, 1) := by decide +kernel
theorem dl_138 : decode code 138 = .ok (.iaload, 1) := by decide +kernel
theorem dl_139 : decode code 139 = .ok (.invokevirtual 17, 3) := by decide +kernel
theorem dl_142 : decode code 142 = .ok (.if_icmp .eq 389, 3) := by decide +kernel
theorem dl_145 : decode code 145 = .ok (.iconst 0, 1) := by decide +kernel
theorem dl_146 : decode code 146 = .ok (.ireturn, 1) := by decide +kernel
theorem dl_147 : decode code 147 = .ok (.aload_n 1, 1) := by decide +kernel
theorem dl_148 : decode code 148 = .ok (.aload_n 0, 1) := by decide +kernel
theorem dl_149 : decode code 149 = .ok (.iload_n 3, 1) := by decide +kernel
theorem dl_150 : decode code 150 = .ok (.iconst 1, 1) := by decide +kernel
theorem dl_151 : decode code 151 = .ok (.iadd, 1) := by decide +kernel
theorem dl_152 : decode code 152 = .ok (.iaload, 1) := by decide +kernel
theorem dl_153 : decode code 153 = .ok (.invokevirtual 18, 3) := by decide +kernel
theorem dl_156 : decode code 156 = .ok (.aload_n 2, 1) := by decide +kernel
theorem dl_157 : decode code 157 = .ok (.aload_n 0, 1) := by decide +kernel
theorem dl_158 : decode code 158 = .ok (.iload_n 3, 1) := by decide +kernel
theorem dl_159 : decode code 159 = .ok (.iconst 1, 1) := by decide +kernel
theorem dl_160 : decode code 160 = .ok (.iadd, 1) := by decide +kernel
theorem dl_161 : decode code 161 = .ok (.iaload, 1) := by decide +kernel
theorem dl_162 : decode code 162 = .ok (.invokevirtual 21, 3) := by decide +kernel
theorem dl_165 : decode code 165 = .ok (.if_icmp .eq 366, 3) := by decide +kernel
theorem dl_168 : decode code 168 = .ok (.iconst 0, 1) := by decide +kernel
theorem dl_169 : decode code 169 = .ok (.ireturn, 1) := by decide +kernel
theorem dl_170 : decode code 170 = .ok (.aload_n 1, 1) := by decide +kernel
theorem dl_171 : decode code 171 = .ok (.aload_n 0, 1) := by decide +kernel
theorem dl_172 : decode code 172 = .ok (.iload_n 3, 1) := by decide +kernel
theorem dl_173 : decode code 173 = .ok (.iconst 1, 1) := by decide +kernel
theorem dl_174 : decode code 174 = .ok (.iadd, 1) := by decide +kernel
theorem dl_175 : decode code 175 = .ok (.iaload, 1) := by decide +kernel
theorem dl_176 : decode code 176 = .ok (.invokevirtual 22, 3) := by decide +kernel
theorem dl_179 : decode code 179 = .ok (.aload_n 2, 1) := by decide +kernel
theorem dl_180 : decode code 180 = .ok (.aload_n 0, 1) := by decide +kernel
theorem dl_181 : decode code 181 = .ok (.iload_n 3, 1) := by decide +kernel
theorem dl_182 : decode code 182 = .ok (.iconst 1, 1) := by decide +kernel
theorem dl_183 : decode code 183 = .ok (.iadd, 1) := by decide +kernel
theorem dl_184 : decode code 184 = .ok (.iaload, 1) := by decide +kernel
theorem dl_185 : decode code 185 = .ok (.invokevirtual 25, 3) := by decide +kernel
theorem dl_188 : decode code 188 = .ok (.if_icmp .eq 343, 3) := by decide +kernel
theorem dl_191 : decode code 191 = .ok (.iconst 0, 1) := by decide +kernel
theorem dl_192 : decode code 192 = .ok (.ireturn, 1) := by decide +kernel
theorem dl_193 : decode code 193 = .ok (.aload_n 1, 1) := by decide +kernel
theorem dl_194 : decode code 194 = .ok (.invokevirtual 26, 3) := by decide +kernel
theorem dl_197 : decode code 197 = .ok (.aload_n 2, 1) := by decide +kernel
theorem dl_198 : decode code 198 = .ok (.invokevirtual 30, 3) := by decide +kernel
theorem dl_201 : decode code 201 = .ok (.if_icmp .eq 330, 3) := by decide +kernel
theorem dl_204 : decode code 204 = .ok (.iconst 0, 1) := by decide +kernel
theorem dl_205 : decode code 205 = .ok (.ireturn, 1) := by decide +kernel
theorem dl_206 : decode code 206 = .ok (.aload_n 1, 1) := by decide +kernel
theorem dl_207 : decode code 207 = .ok (.invokevirtual 31, 3) := by decide +kernel
theorem dl_210 : decode code 210 = .ok (.aload_n 2, 1) := by decide +kernel
theorem dl_211 : decode code 211 = .ok (.invokevirtual 34, 3) := by decide +kernel
theorem dl_214 : decode code 214 = .ok (.if_icmp .eq 317, 3) := by decide +kernel
theorem dl_217 : decode code 217 = .ok (.iconst 0, 1) := by decide +kernel
theorem dl_218 : decode code 218 = .ok (.ireturn, 1) := by decide +kernel
theorem dl_219 : decode code 219 = .ok (.aload_n 1, 1) := by decide +kernel
theorem dl_220 : decode code 220 = .ok (.aload_n 0, 1) := by decide +kernel
theorem dl_221 : decode code 221 = .ok (.iload_n 3, 1) := by decide +kernel
theorem dl_222 : decode code 222 = .ok (.iconst 1, 1) := by decide +kernel
theorem dl_223 : decode code 223 = .ok (.iadd, 1) := by decide +kernel
theorem dl_224 : decode code 224 = .ok (.iaload, 1) := by decide +kernel
theorem dl_225 : decode code 225 = .ok (.invokevirtual 35, 3) := by decide +kernel
theorem dl_228 : decode code 228 = .ok (.aload_n 2, 1) := by decide +kernel
theorem dl_229 : decode code 229 = .ok (.aload_n 0, 1) := by decide +kernel
theorem dl_230 : decode code 230 = .ok (.iload_n 3, 1) := by decide +kernel
theorem dl_231 : decode code 231 = .ok (.iconst 1, 1) := by decide +kernel
theorem dl_232 : decode code 232 = .ok (.iadd, 1) := by decide +kernel
theorem dl_233 : decode code 233 = .ok (.iaload, 1) := by decide +kernel
theorem dl_234 : decode code 234 = .ok (.invokevirtual 38, 3) := by decide +kernel
theorem dl_237 : decode code 237 = .ok (.if_icmp .eq 294, 3) := by decide +kernel
theorem dl_240 : decode code 240 = .ok (.iconst 0, 1) := by decide +kernel
theorem dl_241 : decode code 241 = .ok (.ireturn, 1) := by decide +kernel
theorem dl_242 : decode code 242 = .ok (.aload_n 1, 1) := by decide +kernel
theorem dl_243 : decode code 243 = .ok (.aload_n 0, 1) := by decide +kernel
theorem dl_244 : decode code 244 = .ok (.iload_n 3, 1) := by decide +kernel
theorem dl_245 : decode code 245 = .ok (.iconst 1, 1) := by decide +kernel
theorem dl_246 : decode code 246 = .ok (.iadd, 1) := by decide +kernel
theorem dl_247 : decode code 247 = .ok (.iaload, 1) := by decide +kernel
theorem dl_248 : decode code 248 = .ok (.invokevirtual 39, 3) := by decide +kernel
theorem dl_251 : decode code 251 = .ok (.aload_n 2, 1) := by decide +kernel
theorem dl_252 : decode code 252 = .ok (.aload_n 0, 1) := by decide +kernel
theorem dl_253 : decode code 253 = .ok (.iload_n 3, 1) := by decide +kernel
theorem dl_254 : decode code 254 = .ok (.iconst 1, 1) := by decide +kernel
theorem dl_255 : decode code 255 = .ok (.iadd, 1) := by decide +kernel
theorem dl_256 : decode code 256 = .ok (.iaload, 1) := by decide +kernel
theorem dl_257 : decode code 257 = .ok (.invokevirtual 42, 3) := by decide +kernel
theorem dl_260 : decode code 260 = .ok (.if_icmp .eq 271, 3) := by decide +kernel
theorem dl_263 : decode code 263 = .ok (.iconst 0, 1) := by decide +kernel
theorem dl_264 : decode code 264 = .ok (.ireturn, 1) := by decide +kernel
theorem dl_265 : decode code 265 = .ok (.aload_n 1, 1) := by decide +kernel
theorem dl_266 : decode code 266 = .ok (.invokevirtual 43, 3) := by decide +kernel
theorem dl_269 : decode code 269 = .ok (.aload_n 2, 1) := by decide +kernel
theorem dl_270 : decode code 270 = .ok (.invokevirtual 46, 3) := by decide +kernel
theorem dl_273 : decode code 273 = .ok (.if_icmp .eq 258, 3) := by decide +kernel
theorem dl_276 : decode code 276 = .ok (.iconst 0, 1) := by decide +kernel
theorem dl_277 : decode code 277 = .ok (.ireturn, 1) := by decide +kernel
theorem dl_278 : decode code 278 = .ok (.aload_n 1, 1) := by decide +kernel
theorem dl_279 : decode code 279 = .ok (.invokevirtual 47, 3) := by decide +kernel
theorem dl_282 : decode code 282 = .ok (.aload_n 2, 1) := by decide +kernel
theorem dl_283 : decode code 283 = .ok (.invokevirtual 50, 3) := by decide +kernel
theorem dl_286 : decode code 286 = .ok (.if_icmp .eq 245, 3) := by decide +kernel
theorem dl_289 : decode code 289 = .ok (.iconst 0, 1) := by decide +kernel
theorem dl_290 : decode code 290 = .ok (.ireturn, 1) := by decide +kernel
theorem dl_291 : decode code 291 = .ok (.aload_n 1, 1) := by decide +kernel
theorem dl_292 : decode code 292 = .ok (.aload_n 0, 1) := by decide +kernel
theorem dl_293 : decode code 293 = .ok (.iload_n 3, 1) := by decide +kernel
theorem dl_294 : decode code 294 = .ok (.iconst 1, 1) := by decide +kernel
theorem dl_295 : decode code 295 = .ok (.iadd, 1) := by decide +kernel
theorem dl_296 : decode code 296 = .ok (.iaload, 1) := by decide +kernel
theorem dl_297 : decode code 297 = .ok (.invokevirtual 51, 3) := by decide +kernel
theorem dl_300 : decode code 300 = .ok (.aload_n 2, 1) := by decide +kernel
theorem dl_301 : decode code 301 = .ok (.aload_n 0, 1) := by decide +kernel
theorem dl_302 : decode code 302 = .ok (.iload_n 3, 1) := by decide +kernel
theorem dl_303 : decode code 303 = .ok (.iconst 1, 1) := by decide +kernel
theorem dl_304 : decode code 304 = .ok (.iadd, 1) := by decide +kernel
theorem dl_305 : decode code 305 = .ok (.iaload, 1) := by decide +kernel
theorem dl_306 : decode code 306 = .ok (.invokevirtual 54, 3) := by decide +kernel
theorem dl_309 : decode code 309 = .ok (.if_icmp .eq 222, 3) := by decide +kernel
theorem dl_312 : decode code 312 = .ok (.iconst 0, 1) := by decide +kernel
theorem dl_313 : decode code 313 = .ok (.ireturn, 1) := by decide +kernel
theorem dl_314 : decode code 314 = .ok (.aload_n 1, 1) := by decide +kernel
theorem dl_315 : decode code 315 = .ok (.aload_n 0, 1) := by decide +kernel
theorem dl_316 : decode code 316 = .ok (.iload_n 3, 1) := by decide +kernel
theorem dl_317 : decode code 317 = .ok (.iconst 1, 1) := by decide +kernel
theorem dl_318 : decode code 318 = .ok (.iadd, 1) := by decide +kernel
theorem dl_319 : decode code 319 = .ok (.iaload, 1) := by decide +kernel
theorem dl_320 : decode code 320 = .ok (.invokevirtual 55, 3) := by decide +kernel
theorem dl_323 : decode code 323 = .ok (.aload_n 2, 1) := by decide +kernel
theorem dl_324 : decode code 324 = .ok (.aload_n 0, 1) := by decide +kernel
theorem dl_325 : decode code 325 = .ok (.iload_n 3, 1) := by decide +kernel
theorem dl_326 : decode code 326 = .ok (.iconst 1, 1) := by decide +kernel
theorem dl_327 : decode code 327 = .ok (.iadd, 1) := by decide +kernel
theorem dl_328 : decode code 328 = .ok (.iaload, 1) := by decide +kernel
theorem dl_329 : decode code 329 = .ok (.invokevirtual 58, 3) := by decide +kernel
theorem dl_332 : decode code 332 = .ok (.if_icmp .eq 199, 3) := by decide +kernel
theorem dl_335 : decode code 335 = .ok (.iconst 0, 1) := by decide +kernel
theorem dl_336 : decode code 336 = .ok (.ireturn, 1) := by decide +kernel
theorem dl_337 : decode code 337 = .ok (.aload_n 1, 1) := by decide +kernel
theorem dl_338 : decode code 338 = .ok (.aload_n 0, 1) := by decide +kernel
theorem dl_339 : decode code 339 = .ok (.iload_n 3, 1) := by decide +kernel
theorem dl_340 : decode code 340 = .ok (.iconst 1, 1) := by decide +kernel
theorem dl_341 : decode code 341 = .ok (.iadd, 1) := by decide +kernel
theorem dl_342 : decode code 342 = .ok (.iaload, 1) := by decide +kernel
theorem dl_343 : decode code 343 = .ok (.invokevirtual 59, 3) := by decide +kernel
theorem dl_346 : decode code 346 = .ok (.aload_n 2, 1) := by decide +kernel
theorem dl_347 : decode code 347 = .ok (.aload_n 0, 1) := by decide +kernel
theorem dl_348 : decode code 348 = .ok (.iload_n 3, 1) := by decide +kernel
theorem dl_349 : decode code 349 = .ok (.iconst 1, 1) := by decide +kernel
theorem dl_350 : decode code 350 = .ok (.iadd, 1) := by decide +kernel
theorem dl_351 : decode code 351 = .ok (.iaload, 1) := by decide +kernel
theorem dl_352 : decode code 352 = .ok (.invokevirtual 62, 3) := by decide +kernel
theorem dl_355 : decode code 355 = .ok (.if_icmp .eq 176, 3) := by decide +kernel
theorem dl_358 : decode code 358 = .ok (.iconst 0, 1) := by decide +kernel
theorem dl_359 : decode code 359 = .ok (.ireturn, 1) := by decide +kernel
theorem dl_360 : decode code 360 = .ok (.aload_n 1, 1) := by decide +kernel
theorem dl_361 : decode code 361 = .ok (.invokevirtual 63, 3) := by decide +kernel
theorem dl_364 : decode code 364 = .ok (.aload_n 2, 1) := by decide +kernel
theorem dl_365 : decode code 365 = .ok (.invokevirtual 66, 3) := by decide +kernel
theorem dl_368 : decode code 368 = .ok (.if_icmp .eq 163, 3) := by decide +kernel
theorem dl_371 : decode code 371 = .ok (.iconst 0, 1) := by decide +kernel
theorem dl_372 : decode code 372 = .ok (.ireturn, 1) := by decide +kernel
theorem dl_373 : decode code 373 = .ok (.aload_n 1, 1) := by decide +kernel
theorem dl_374 : decode code 374 = .ok (.invokevirtual 67, 3) := by decide +kernel
theorem dl_377 : decode code 377 = .ok (.aload_n 2, 1) := by decide +kernel
theorem dl_378 : decode code 378 = .ok (.invokevirtual 70, 3) := by decide +kernel
theorem dl_381 : decode code 381 = .ok (.if_icmp .eq 150, 3) := by decide +kernel
theorem dl_384 : decode code 384 = .ok (.iconst 0, 1) := by decide +kernel
theorem dl_385 : decode code 385 = .ok (.ireturn, 1) := by decide +kernel
theorem dl_386 : decode code 386 = .ok (.aload_n 1, 1) := by decide +kernel
theorem dl_387 : decode code 387 = .ok (.aload_n 0, 1) := by decide +kernel
theorem dl_388 : decode code 388 = .ok (.iload_n 3, 1) := by decide +kernel
theorem dl_389 : decode code 389 = .ok (.iconst 1, 1) := by decide +kernel
theorem dl_390 : decode code 390 = .ok (.iadd, 1) := by decide +kernel
theorem dl_391 : decode code 391 = .ok (.iaload, 1) := by decide +kernel
theorem dl_392 : decode code 392 = .ok (.invokevirtual 71, 3) := by decide +kernel
theorem dl_395 : decode code 395 = .ok (.aload_n 2, 1) := by decide +kernel
theorem dl_396 : decode code 396 = .ok (.aload_n 0, 1) := by decide +kernel
theorem dl_397 : decode code 397 = .ok (.iload_n 3, 1) := by decide +kernel
theorem dl_398 : decode code 398 = .ok (.iconst 1, 1) := by decide +kernel
theorem dl_399 : decode code 399 = .ok (.iadd, 1) := by decide +kernel
theorem dl_400 : decode code 400 = .ok (.iaload, 1) := by decide +kernel
theorem dl_401 : decode code 401 = .ok (.invokevirtual 74, 3) := by decide +kernel
theorem dl_404 : decode code 404 = .ok (.if_icmp .eq 127, 3) := by decide +kernel
theorem dl_407 : decode code 407 = .ok (.iconst 0, 1) := by decide +kernel
theorem dl_408 : decode code 408 = .ok (.ireturn, 1) := by decide +kernel
theorem dl_409 : decode code 409 = .ok (.aload_n 1, 1) := by decide +kernel
theorem dl_410 : decode code 410 = .ok (.aload_n 0, 1) := by decide +kernel
theorem dl_411 : decode code 411 = .ok (.iload_n 3, 1) := by decide +kernel
theorem dl_412 : decode code 412 = .ok (.iconst 1, 1) := by decide +kernel
theorem dl_413 : decode code 413 = .ok (.iadd, 1) := by decide +kernel
theorem dl_414 : decode code 414 = .ok (.iaload, 1) := by decide +kernel
theorem dl_415 : decode code 415 = .ok (.invokevirtual 75, 3) := by decide +kernel
theorem dl_418 : decode code 418 = .ok (.aload_n 2, 1) := by decide +kernel
theorem dl_419 : decode code 419 = .ok (.aload_n 0, 1) := by decide +kernel
theorem dl_420 : decode code 420 = .ok (.iload_n 3, 1) := by decide +kernel
theorem dl_421 : decode code 421 = .ok (.iconst 1, 1) := by decide +kernel
theorem dl_422 : decode code 422 = .ok (.iadd, 1) := by decide +kernel
theorem dl_423 : decode code 423 = .ok (.iaload, 1) := by decide +kernel
theorem dl_424 : decode code 424 = .ok (.invokevirtual 78, 3) := by decide +kernel
theorem dl_427 : decode code 427 = .ok (.if_icmp .eq 104, 3) := by decide +kernel
theorem dl_430 : decode code 430 = .ok (.iconst 0, 1) := by decide +kernel
theorem dl_431 : decode code 431 = .ok (.ireturn, 1) := by decide +kernel
theorem dl_432 : decode code 432 = .ok (.aload_n 1, 1) := by decide +kernel
theorem dl_433 : decode code 433 = .ok (.aload_n 0, 1) := by decide +kernel
theorem dl_434 : decode code 434 = .ok (.iload_n 3, 1) := by decide +kernel
theorem dl_435 : decode code 435 = .ok (.iconst 1, 1) := by decide +kernel
theorem dl_436 : decode code 436 = .ok (.iadd, 1) := by decide +kernel
theorem dl_437 : decode code 437 = .ok (.iaload, 1) := by decide +kernel
theorem dl_438 : decode code 438 = .ok (.invokevirtual 79, 3) := by decide +kernel
theorem dl_441 : decode code 441 = .ok (.aload_n 2, 1) := by decide +kernel
theorem dl_442 : decode code 442 = .ok (.aload_n 0, 1) := by decide +kernel
theorem dl_443 : decode code 443 = .ok (.iload_n 3, 1) := by decide +kernel
theorem dl_444 : decode code 444 = .ok (.iconst 1, 1) := by decide +kernel
theorem dl_445 : decode code 445 = .ok (.iadd, 1) := by decide +kernel
theorem dl_446 : decode code 446 = .ok (.iaload, 1) := by decide +kernel
theorem dl_447 : decode code 447 = .ok (.invokevirtual 82, 3) := by decide +kernel
theorem dl_450 : decode code 450 = .ok (.if_icmp .eq 81, 3) := by decide +kernel
theorem dl_453 : decode code 453 = .ok (.iconst 0, 1) := by decide +kernel
theorem dl_454 : decode code 454 = .ok (.ireturn, 1) := by decide +kernel
theorem dl_455 : decode code 455 = .ok (.aload_n 1, 1) := by decide +kernel
theorem dl_456 : decode code 456 = .ok (.aload_n 0, 1) := by decide +kernel
theorem dl_457 : decode code 457 = .ok (.iload_n 3, 1) := by decide +kernel
theorem dl_458 : decode code 458 = .ok (.iconst 1, 1) := by decide +kernel
theorem dl_459 : decode code 459 = .ok (.iadd, 1) := by decide +kernel
theorem dl_460 : decode code 460 = .ok (.iaload, 1) := by decide +kernel
theorem dl_461 : decode code 461 = .ok (.aload_n 0, 1) := by decide +kernel
theorem dl_462 : decode code 462 = .ok (.iload_n 3, 1) := by decide +kernel
theorem dl_463 : decode code 463 = .ok (.iconst 2, 1) := by decide +kernel
theorem dl_464 : decode code 464 = .ok (.iadd, 1) := by decide +kernel
theorem dl_465 : decode code 465 = .ok (.iaload, 1) := by decide +kernel
theorem dl_466 : decode code 466 = .ok (.invokevirtual 83, 3) := by decide +kernel
theorem dl_469 : decode code 469 = .ok (.aload_n 2, 1) := by decide +kernel
theorem dl_470 : decode code 470 = .ok (.aload_n 0, 1) := by decide +kernel
theorem dl_471 : decode code 471 = .ok (.iload_n 3, 1) := by decide +kernel
theorem dl_472 : decode code 472 = .ok (.iconst 1, 1) := by decide +kernel
theorem dl_473 : decode code 473 = .ok (.iadd, 1) := by decide +kernel
theorem dl_474 : decode code 474 = .ok (.iaload, 1) := by decide +kernel
theorem dl_475 : decode code 475 = .ok (.aload_n 0, 1) := by decide +kernel
theorem dl_476 : decode code 476 = .ok (.iload_n 3, 1) := by decide +kernel
theorem dl_477 : decode code 477 = .ok (.iconst 2, 1) := by decide +kernel
theorem dl_478 : decode code 478 = .ok (.iadd, 1) := by decide +kernel
theorem dl_479 : decode code 479 = .ok (.iaload, 1) := by decide +kernel
theorem dl_480 : decode code 480 = .ok (.invokevirtual 87, 3) := by decide +kernel
theorem dl_483 : decode code 483 = .ok (.if_icmp .eq 48, 3) := by decide +kernel
theorem dl_486 : decode code 486 = .ok (.iconst 0, 1) := by decide +kernel
theorem dl_487 : decode code 487 = .ok (.ireturn, 1) := by decide +kernel
theorem dl_488 : decode code 488 = .ok (.aload_n 1, 1) := by decide +kernel
theorem dl_489 : decode code 489 = .ok (.aload_n 0, 1) := by decide +kernel
theorem dl_490 : decode code 490 = .ok (.iload_n 3, 1) := by decide +kernel
theorem dl_491 : decode code 491 = .ok (.iconst 1, 1) := by decide +kernel
theorem dl_492 : decode code 492 = .ok (.iadd, 1) := by decide +kernel
theorem dl_493 : decode code 493 = .ok (.iaload, 1) := by decide +kernel
theorem dl_494 : decode code 494 = .ok (.aload_n 0, 1) := by decide +kernel
theorem dl_495 : decode code 495 = .ok (.iload_n 3, 1) := by decide +kernel
theorem dl_496 : decode code 496 = .ok (.iconst 2, 1) := by decide +kernel
theorem dl_497 : decode code 497 = .ok (.iadd, 1) := by decide +kernel
theorem dl_498 : decode code 498 = .ok (.iaload, 1) := by decide +kernel
theorem dl_499 : decode code 499 = .ok (.aload_n 0, 1) := by decide +kernel
theorem dl_500 : decode code 500 = .ok (.iload_n 3, 1) := by decide +kernel
theorem dl_501 : decode code 501 = .ok (.iconst 3, 1) := by decide +kernel
theorem dl_502 : decode code 502 = .ok (.iadd, 1) := by decide +kernel
theorem dl_503 : decode code 503 = .ok (.iaload, 1) := by decide +kernel
theorem dl_504 : decode code 504 = .ok (.invokevirtual 88, 3) := by decide +kernel
theorem dl_507 : decode code 507 = .ok (.aload_n 2, 1) := by decide +kernel
theorem dl_508 : decode code 508 = .ok (.aload_n 0, 1) := by decide +kernel
theorem dl_509 : decode code 509 = .ok (.iload_n 3, 1) := by decide +kernel
theorem dl_510 : decode code 510 = .ok (.iconst 1, 1) := by decide +kernel
theorem dl_511 : decode code 511 = .ok (.iadd, 1) := by decide +kernel
theorem dl_512 : decode code 512 = .ok (.iaload, 1) := by decide +kernel
theorem dl_513 : decode code 513 = .ok (.aload_n 0, 1) := by decide +kernel
theorem dl_514 : decode code 514 = .ok (.iload_n 3, 1) := by decide +kernel
theorem dl_515 : decode code 515 = .ok (.iconst 2, 1) := by decide +kernel
theorem dl_516 : decode code 516 = .ok (.iadd, 1) := by decide +kernel
theorem dl_517 : decode code 517 = .ok (.iaload, 1) := by decide +kernel
theorem dl_518 : decode code 518 = .ok (.aload_n 0, 1) := by decide +kernel
theorem dl_519 : decode code 519 = .ok (.iload_n 3, 1) := by decide +kernel
theorem dl_520 : decode code 520 = .ok (.iconst 3, 1) := by decide +kernel
theorem dl_521 : decode code 521 = .ok (.iadd, 1) := by decide +kernel
theorem dl_522 : decode code 522 = .ok (.iaload, 1) := by decide +kernel
theorem dl_523 : decode code 523 = .ok (.invokevirtual 92, 3) := by decide +kernel
theorem dl_526 : decode code 526 = .ok (.if_icmp .eq 5, 3) := by decide +kernel
theorem dl_529 : decode code 529 = .ok (.iconst 0, 1) := by decide +kernel
theorem dl_530 : decode code 530 = .ok (.ireturn, 1) := by decide +kernel
theorem dl_531 : decode code 531 = .ok (.iinc 3 4, 3) := by decide +kernel
theorem dl_534 : decode code 534 = .ok (.goto (-516), 3) := by decide +kernel
theorem dl_537 : decode code 537 = .ok (.iconst 1, 1) := by decide +kernel
theorem dl_538 : decode code 538 = .ok (.ireturn, 1) := by decide +kernel
