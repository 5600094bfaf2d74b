theorem dc_L_cell_0 : decode bc_L_cell 0 = .ok (.iload_n 1, 1) := by decide +kernel
theorem dc_L_cell_1 : decode bc_L_cell 1 = .ok (.aload_n 0, 1) := by decide +kernel
theorem dc_L_cell_2 : decode bc_L_cell 2 = .ok (.arraylength, 1) := by decide +kernel
theorem dc_L_cell_3 : decode bc_L_cell 3 = .ok (.if_icmp .ge 9, 3) := by decide +kernel
theorem dc_L_cell_6 : decode bc_L_cell 6 = .ok (.aload_n 0, 1) := by decide +kernel
theorem dc_L_cell_7 : decode bc_L_cell 7 = .ok (.iload_n 1, 1) := by decide +kernel
theorem dc_L_cell_8 : decode bc_L_cell 8 = .ok (.iaload, 1) := by decide +kernel
theorem dc_L_cell_9 : decode bc_L_cell 9 = .ok (.goto 4, 3) := by decide +kernel
theorem dc_L_cell_12 : decode bc_L_cell 12 = .ok (.iconst 0, 1) := by decide +kernel
theorem dc_L_cell_13 : decode bc_L_cell 13 = .ok (.ireturn, 1) := by decide +kernel
theorem dc_L_access_0 : decode bc_L_access 0 = .ok (.aload 6, 2) := by decide +kernel
theorem dc_L_access_2 : decode bc_L_access 2 = .ok (.iconst 0, 1) := by decide +kernel
theorem dc_L_access_3 : decode bc_L_access 3 = .ok (.aload_n 0, 1) := by decide +kernel
theorem dc_L_access_4 : decode bc_L_access 4 = .ok (.iload_n 1, 1) := by decide +kernel
theorem dc_L_access_5 : decode bc_L_access 5 = .ok (.iload_n 2, 1) := by decide +kernel
theorem dc_L_access_6 : decode bc_L_access 6 = .ok (.iload_n 3, 1) := by decide +kernel
theorem dc_L_access_7 : decode bc_L_access 7 = .ok (.lload 4, 2) := by decide +kernel
theorem dc_L_access_9 : decode bc_L_access 9 = .ok (.invokevirtual 7, 3) := by decide +kernel
theorem dc_L_access_12 : decode bc_L_access 12 = .ok (.i2l, 1) := by decide +kernel
theorem dc_L_access_13 : decode bc_L_access 13 = .ok (.lastore, 1) := by decide +kernel
theorem dc_L_access_14 : decode bc_L_access 14 = .ok (.goto 7, 3) := by decide +kernel
theorem dc_L_access_17 : decode bc_L_access 17 = .ok (.astore 7, 2) := by decide +kernel
theorem dc_L_access_19 : decode bc_L_access 19 = .ok (.iconst 1, 1) := by decide +kernel
theorem dc_L_access_20 : decode bc_L_access 20 = .ok (.ireturn, 1) := by decide +kernel
theorem dc_L_access_21 : decode bc_L_access 21 = .ok (.iconst 0, 1) := by decide +kernel
theorem dc_L_access_22 : decode bc_L_access 22 = .ok (.ireturn, 1) := by decide +kernel
theorem dc_L_trap_0 : decode bc_L_trap 0 = .ok (.aload 7, 2) := by decide +kernel
theorem dc_L_trap_2 : decode bc_L_trap 2 = .ok (.iconst 0, 1) := by decide +kernel
theorem dc_L_trap_3 : decode bc_L_trap 3 = .ok (.aload_n 0, 1) := by decide +kernel
theorem dc_L_trap_4 : decode bc_L_trap 4 = .ok (.iload_n 1, 1) := by decide +kernel
theorem dc_L_trap_5 : decode bc_L_trap 5 = .ok (.iload_n 2, 1) := by decide +kernel
theorem dc_L_trap_6 : decode bc_L_trap 6 = .ok (.lload_n 3, 1) := by decide +kernel
theorem dc_L_trap_7 : decode bc_L_trap 7 = .ok (.lload 5, 2) := by decide +kernel
theorem dc_L_trap_9 : decode bc_L_trap 9 = .ok (.invokevirtual 15, 3) := by decide +kernel
theorem dc_L_trap_12 : decode bc_L_trap 12 = .ok (.lastore, 1) := by decide +kernel
theorem dc_L_trap_13 : decode bc_L_trap 13 = .ok (.goto 7, 3) := by decide +kernel
theorem dc_L_trap_16 : decode bc_L_trap 16 = .ok (.astore 8, 2) := by decide +kernel
theorem dc_L_trap_18 : decode bc_L_trap 18 = .ok (.iconst 1, 1) := by decide +kernel
theorem dc_L_trap_19 : decode bc_L_trap 19 = .ok (.ireturn, 1) := by decide +kernel
theorem dc_L_trap_20 : decode bc_L_trap 20 = .ok (.iconst 0, 1) := by decide +kernel
theorem dc_L_trap_21 : decode bc_L_trap 21 = .ok (.ireturn, 1) := by decide +kernel
theorem dc_L_line_0 : decode bc_L_line 0 = .ok (.aload_n 0, 1) := by decide +kernel
theorem dc_L_line_1 : decode bc_L_line 1 = .ok (.iload_n 1, 1) := by decide +kernel
theorem dc_L_line_2 : decode bc_L_line 2 = .ok (.iload_n 2, 1) := by decide +kernel
theorem dc_L_line_3 : decode bc_L_line 3 = .ok (.invokevirtual 19, 3) := by decide +kernel
theorem dc_L_line_6 : decode bc_L_line 6 = .ok (.goto 6, 3) := by decide +kernel
theorem dc_L_line_9 : decode bc_L_line 9 = .ok (.astore_n 3, 1) := by decide +kernel
theorem dc_L_line_10 : decode bc_L_line 10 = .ok (.iconst 1, 1) := by decide +kernel
theorem dc_L_line_11 : decode bc_L_line 11 = .ok (.ireturn, 1) := by decide +kernel
theorem dc_L_line_12 : decode bc_L_line 12 = .ok (.iconst 0, 1) := by decide +kernel
theorem dc_L_line_13 : decode bc_L_line 13 = .ok (.ireturn, 1) := by decide +kernel
theorem dc_L_allowed_0 : decode bc_L_allowed 0 = .ok (.aload_n 2, 1) := by decide +kernel
theorem dc_L_allowed_1 : decode bc_L_allowed 1 = .ok (.iconst 0, 1) := by decide +kernel
theorem dc_L_allowed_2 : decode bc_L_allowed 2 = .ok (.aload_n 0, 1) := by decide +kernel
theorem dc_L_allowed_3 : decode bc_L_allowed 3 = .ok (.iload_n 1, 1) := by decide +kernel
theorem dc_L_allowed_4 : decode bc_L_allowed 4 = .ok (.invokevirtual 23, 3) := by decide +kernel
theorem dc_L_allowed_7 : decode bc_L_allowed 7 = .ok (.ifCond .eq 7, 3) := by decide +kernel
theorem dc_L_allowed_10 : decode bc_L_allowed 10 = .ok (.lconst 1, 1) := by decide +kernel
theorem dc_L_allowed_11 : decode bc_L_allowed 11 = .ok (.goto 4, 3) := by decide +kernel
theorem dc_L_allowed_14 : decode bc_L_allowed 14 = .ok (.lconst 0, 1) := by decide +kernel
theorem dc_L_allowed_15 : decode bc_L_allowed 15 = .ok (.lastore, 1) := by decide +kernel
theorem dc_L_allowed_16 : decode bc_L_allowed 16 = .ok (.goto 6, 3) := by decide +kernel
theorem dc_L_allowed_19 : decode bc_L_allowed 19 = .ok (.astore_n 3, 1) := by decide +kernel
theorem dc_L_allowed_20 : decode bc_L_allowed 20 = .ok (.iconst 1, 1) := by decide +kernel
theorem dc_L_allowed_21 : decode bc_L_allowed 21 = .ok (.ireturn, 1) := by decide +kernel
theorem dc_L_allowed_22 : decode bc_L_allowed 22 = .ok (.iconst 0, 1) := by decide +kernel
theorem dc_L_allowed_23 : decode bc_L_allowed 23 = .ok (.ireturn, 1) := by decide +kernel
theorem dc_L_law_0 : decode code 0 = .ok (.new 8, 3) := by decide +kernel
theorem dc_L_law_3 : decode code 3 = .ok (.dup, 1) := by decide +kernel
theorem dc_L_law_4 : decode code 4 = .ok (.aload_n 0, 1) := by decide +kernel
theorem dc_L_law_5 : decode code 5 = .ok (.iconst 0, 1) := by decide +kernel
theorem dc_L_law_6 : decode code 6 = .ok (.invokestatic 27, 3) := by decide +kernel
theorem dc_L_law_9 : decode code 9 = .ok (.invokespecial 33, 3) := by decide +kernel
theorem dc_L_law_12 : decode code 12 = .ok (.astore_n 1, 1) := by decide +kernel
theorem dc_L_law_13 : decode code 13 = .ok (.new 36, 3) := by decide +kernel
theorem dc_L_law_16 : decode code 16 = .ok (.dup, 1) := by decide +kernel
theorem dc_L_law_17 : decode code 17 = .ok (.aload_n 0, 1) := by decide +kernel
theorem dc_L_law_18 : decode code 18 = .ok (.iconst 0, 1) := by decide +kernel
theorem dc_L_law_19 : decode code 19 = .ok (.invokestatic 27, 3) := by decide +kernel
theorem dc_L_law_22 : decode code 22 = .ok (.invokespecial 38, 3) := by decide +kernel
theorem dc_L_law_25 : decode code 25 = .ok (.astore_n 2, 1) := by decide +kernel
theorem dc_L_law_26 : decode code 26 = .ok (.iconst 1, 1) := by decide +kernel
theorem dc_L_law_27 : decode code 27 = .ok (.newarray .long, 2) := by decide +kernel
theorem dc_L_law_29 : decode code 29 = .ok (.astore_n 3, 1) := by decide +kernel
theorem dc_L_law_30 : decode code 30 = .ok (.iconst 1, 1) := by decide +kernel
theorem dc_L_law_31 : decode code 31 = .ok (.istore 4, 2) := by decide +kernel
theorem dc_L_law_33 : decode code 33 = .ok (.iload 4, 2) := by decide +kernel
theorem dc_L_law_35 : decode code 35 = .ok (.aload_n 0, 1) := by decide +kernel
theorem dc_L_law_36 : decode code 36 = .ok (.arraylength, 1) := by decide +kernel
theorem dc_L_law_37 : decode code 37 = .ok (.bipush 7, 2) := by decide +kernel
theorem dc_L_law_39 : decode code 39 = .ok (.isub, 1) := by decide +kernel
theorem dc_L_law_40 : decode code 40 = .ok (.if_icmp .gt 859, 3) := by decide +kernel
theorem dc_L_law_43 : decode code 43 = .ok (.aload_n 0, 1) := by decide +kernel
theorem dc_L_law_44 : decode code 44 = .ok (.iload 4, 2) := by decide +kernel
theorem dc_L_law_46 : decode code 46 = .ok (.iaload, 1) := by decide +kernel
theorem dc_L_law_47 : decode code 47 = .ok (.bipush 15, 2) := by decide +kernel
theorem dc_L_law_49 : decode code 49 = .ok (.iand, 1) := by decide +kernel
theorem dc_L_law_50 : decode code 50 = .ok (.tableswitch 843 0 15 #[78, 91, 104, 244, 258, 284, 457, 498, 512, 525, 538, 602, 665, 678, 689, 788], 78) := by decide +kernel
theorem dc_L_law_128 : decode code 128 = .ok (.aload_n 1, 1) := by decide +kernel
theorem dc_L_law_129 : decode code 129 = .ok (.invokevirtual 39, 3) := by decide +kernel
theorem dc_L_law_132 : decode code 132 = .ok (.aload_n 2, 1) := by decide +kernel
theorem dc_L_law_133 : decode code 133 = .ok (.invokevirtual 43, 3) := by decide +kernel
theorem dc_L_law_136 : decode code 136 = .ok (.if_icmp .eq 757, 3) := by decide +kernel
theorem dc_L_law_139 : decode code 139 = .ok (.iconst 0, 1) := by decide +kernel
theorem dc_L_law_140 : decode code 140 = .ok (.ireturn, 1) := by decide +kernel
theorem dc_L_law_141 : decode code 141 = .ok (.aload_n 1, 1) := by decide +kernel
theorem dc_L_law_142 : decode code 142 = .ok (.invokevirtual 44, 3) := by decide +kernel
theorem dc_L_law_145 : decode code 145 = .ok (.aload_n 2, 1) := by decide +kernel
theorem dc_L_law_146 : decode code 146 = .ok (.invokevirtual 47, 3) := by decide +kernel
theorem dc_L_law_149 : decode code 149 = .ok (.if_icmp .eq 744, 3) := by decide +kernel
theorem dc_L_law_152 : decode code 152 = .ok (.iconst 0, 1) := by decide +kernel
theorem dc_L_law_153 : decode code 153 = .ok (.ireturn, 1) := by decide +kernel
theorem dc_L_law_154 : decode code 154 = .ok (.aload_n 1, 1) := by decide +kernel
theorem dc_L_law_155 : decode code 155 = .ok (.aload_n 0, 1) := by decide +kernel
theorem dc_L_law_156 : decode code 156 = .ok (.iload 4, 2) := by decide +kernel
theorem dc_L_law_158 : decode code 158 = .ok (.iconst 1, 1) := by decide +kernel
theorem dc_L_law_159 : decode code 159 = .ok (.iadd, 1) := by decide +kernel
theorem dc_L_law_160 : decode code 160 = .ok (.iaload, 1) := by decide +kernel
theorem dc_L_law_161 : decode code 161 = .ok (.aload_n 0, 1) := by decide +kernel
theorem dc_L_law_162 : decode code 162 = .ok (.iload 4, 2) := by decide +kernel
theorem dc_L_law_164 : decode code 164 = .ok (.iconst 2, 1) := by decide +kernel
theorem dc_L_law_165 : decode code 165 = .ok (.iadd, 1) := by decide +kernel
theorem dc_L_law_166 : decode code 166 = .ok (.iaload, 1) := by decide +kernel
theorem dc_L_law_167 : decode code 167 = .ok (.aload_n 0, 1) := by decide +kernel
theorem dc_L_law_168 : decode code 168 = .ok (.iload 4, 2) := by decide +kernel
theorem dc_L_law_170 : decode code 170 = .ok (.iconst 3, 1) := by decide +kernel
theorem dc_L_law_171 : decode code 171 = .ok (.iadd, 1) := by decide +kernel
theorem dc_L_law_172 : decode code 172 = .ok (.iaload, 1) := by decide +kernel
theorem dc_L_law_173 : decode code 173 = .ok (.ifCond .eq 7, 3) := by decide +kernel
theorem dc_L_law_176 : decode code 176 = .ok (.iconst 1, 1) := by decide +kernel
theorem dc_L_law_177 : decode code 177 = .ok (.goto 4, 3) := by decide +kernel
theorem dc_L_law_180 : decode code 180 = .ok (.iconst 0, 1) := by decide +kernel
theorem dc_L_law_181 : decode code 181 = .ok (.aload_n 0, 1) := by decide +kernel
theorem dc_L_law_182 : decode code 182 = .ok (.iload 4, 2) := by decide +kernel
theorem dc_L_law_184 : decode code 184 = .ok (.iconst 4, 1) := by decide +kernel
theorem dc_L_law_185 : decode code 185 = .ok (.iadd, 1) := by decide +kernel
theorem dc_L_law_186 : decode code 186 = .ok (.iaload, 1) := by decide +kernel
theorem dc_L_law_187 : decode code 187 = .ok (.i2l, 1) := by decide +kernel
theorem dc_L_law_188 : decode code 188 = .ok (.bipush 32, 2) := by decide +kernel
theorem dc_L_law_190 : decode code 190 = .ok (.lshl, 1) := by decide +kernel
theorem dc_L_law_191 : decode code 191 = .ok (.aload_n 0, 1) := by decide +kernel
theorem dc_L_law_192 : decode code 192 = .ok (.iload 4, 2) := by decide +kernel
theorem dc_L_law_194 : decode code 194 = .ok (.iconst 5, 1) := by decide +kernel
theorem dc_L_law_195 : decode code 195 = .ok (.iadd, 1) := by decide +kernel
theorem dc_L_law_196 : decode code 196 = .ok (.iaload, 1) := by decide +kernel
theorem dc_L_law_197 : decode code 197 = .ok (.i2l, 1) := by decide +kernel
theorem dc_L_law_198 : decode code 198 = .ok (.ldc2_w 48, 3) := by decide +kernel
theorem dc_L_law_201 : decode code 201 = .ok (.land, 1) := by decide +kernel
theorem dc_L_law_202 : decode code 202 = .ok (.lor, 1) := by decide +kernel
theorem dc_L_law_203 : decode code 203 = .ok (.aload_n 3, 1) := by decide +kernel
theorem dc_L_law_204 : decode code 204 = .ok (.invokestatic 50, 3) := by decide +kernel
theorem dc_L_law_207 : decode code 207 = .ok (.istore 5, 2) := by decide +kernel
theorem dc_L_law_209 : decode code 209 = .ok (.aload_n 2, 1) := by decide +kernel
theorem dc_L_law_210 : decode code 210 = .ok (.aload_n 0, 1) := by decide +kernel
theorem dc_L_law_211 : decode code 211 = .ok (.iload 4, 2) := by decide +kernel
theorem dc_L_law_213 : decode code 213 = .ok (.iconst 1, 1) := by decide +kernel
theorem dc_L_law_214 : decode code 214 = .ok (.iadd, 1) := by decide +kernel
theorem dc_L_law_215 : decode code 215 = .ok (.iaload, 1) := by decide +kernel
theorem dc_L_law_216 : decode code 216 = .ok (.aload_n 0, 1) := by decide +kernel
theorem dc_L_law_217 : decode code 217 = .ok (.iload 4, 2) := by decide +kernel
theorem dc_L_law_219 : decode code 219 = .ok (.iconst 2, 1) := by decide +kernel
theorem dc_L_law_220 : decode code 220 = .ok (.iadd, 1) := by decide +kernel
theorem dc_L_law_221 : decode code 221 = .ok (.iaload, 1) := by decide +kernel
theorem dc_L_law_222 : decode code 222 = .ok (.aload_n 0, 1) := by decide +kernel
theorem dc_L_law_223 : decode code 223 = .ok (.iload 4, 2) := by decide +kernel
theorem dc_L_law_225 : decode code 225 = .ok (.iconst 3, 1) := by decide +kernel
theorem dc_L_law_226 : decode code 226 = .ok (.iadd, 1) := by decide +kernel
theorem dc_L_law_227 : decode code 227 = .ok (.iaload, 1) := by decide +kernel
theorem dc_L_law_228 : decode code 228 = .ok (.ifCond .eq 7, 3) := by decide +kernel
theorem dc_L_law_231 : decode code 231 = .ok (.iconst 1, 1) := by decide +kernel
theorem dc_L_law_232 : decode code 232 = .ok (.goto 4, 3) := by decide +kernel
theorem dc_L_law_235 : decode code 235 = .ok (.iconst 0, 1) := by decide +kernel
theorem dc_L_law_236 : decode code 236 = .ok (.aload_n 0, 1) := by decide +kernel
theorem dc_L_law_237 : decode code 237 = .ok (.iload 4, 2) := by decide +kernel
theorem dc_L_law_239 : decode code 239 = .ok (.iconst 4, 1) := by decide +kernel
theorem dc_L_law_240 : decode code 240 = .ok (.iadd, 1) := by decide +kernel
theorem dc_L_law_241 : decode code 241 = .ok (.iaload, 1) := by decide +kernel
theorem dc_L_law_242 : decode code 242 = .ok (.i2l, 1) := by decide +kernel
theorem dc_L_law_243 : decode code 243 = .ok (.bipush 32, 2) := by decide +kernel
theorem dc_L_law_245 : decode code 245 = .ok (.lshl, 1) := by decide +kernel
theorem dc_L_law_246 : decode code 246 = .ok (.aload_n 0, 1) := by decide +kernel
theorem dc_L_law_247 : decode code 247 = .ok (.iload 4, 2) := by decide +kernel
theorem dc_L_law_249 : decode code 249 = .ok (.iconst 5, 1) := by decide +kernel
theorem dc_L_law_250 : decode code 250 = .ok (.iadd, 1) := by decide +kernel
theorem dc_L_law_251 : decode code 251 = .ok (.iaload, 1) := by decide +kernel
theorem dc_L_law_252 : decode code 252 = .ok (.i2l, 1) := by decide +kernel
theorem dc_L_law_253 : decode code 253 = .ok (.ldc2_w 48, 3) := by decide +kernel
theorem dc_L_law_256 : decode code 256 = .ok (.land, 1) := by decide +kernel
theorem dc_L_law_257 : decode code 257 = .ok (.lor, 1) := by decide +kernel
theorem dc_L_law_258 : decode code 258 = .ok (.invokevirtual 53, 3) := by decide +kernel
theorem dc_L_law_261 : decode code 261 = .ok (.istore 6, 2) := by decide +kernel
theorem dc_L_law_263 : decode code 263 = .ok (.aload_n 2, 1) := by decide +kernel
theorem dc_L_law_264 : decode code 264 = .ok (.invokevirtual 54, 3) := by decide +kernel
theorem dc_L_law_267 : decode code 267 = .ok (.iload 5, 2) := by decide +kernel
theorem dc_L_law_269 : decode code 269 = .ok (.if_icmp .eq 5, 3) := by decide +kernel
theorem dc_L_law_272 : decode code 272 = .ok (.iconst 0, 1) := by decide +kernel
theorem dc_L_law_273 : decode code 273 = .ok (.ireturn, 1) := by decide +kernel
theorem dc_L_law_274 : decode code 274 = .ok (.iload 5, 2) := by decide +kernel
theorem dc_L_law_276 : decode code 276 = .ok (.ifCond .ne 15, 3) := by decide +kernel
theorem dc_L_law_279 : decode code 279 = .ok (.aload_n 3, 1) := by decide +kernel
theorem dc_L_law_280 : decode code 280 = .ok (.iconst 0, 1) := by decide +kernel
theorem dc_L_law_281 : decode code 281 = .ok (.laload, 1) := by decide +kernel
theorem dc_L_law_282 : decode code 282 = .ok (.iload 6, 2) := by decide +kernel
theorem dc_L_law_284 : decode code 284 = .ok (.i2l, 1) := by decide +kernel
theorem dc_L_law_285 : decode code 285 = .ok (.lcmp, 1) := by decide +kernel
theorem dc_L_law_286 : decode code 286 = .ok (.ifCond .eq 5, 3) := by decide +kernel
theorem dc_L_law_289 : decode code 289 = .ok (.iconst 0, 1) := by decide +kernel
theorem dc_L_law_290 : decode code 290 = .ok (.ireturn, 1) := by decide +kernel
theorem dc_L_law_291 : decode code 291 = .ok (.goto 602, 3) := by decide +kernel
theorem dc_L_law_294 : decode code 294 = .ok (.aload_n 1, 1) := by decide +kernel
theorem dc_L_law_295 : decode code 295 = .ok (.invokevirtual 57, 3) := by decide +kernel
theorem dc_L_law_298 : decode code 298 = .ok (.aload_n 2, 1) := by decide +kernel
theorem dc_L_law_299 : decode code 299 = .ok (.invokevirtual 61, 3) := by decide +kernel
theorem dc_L_law_302 : decode code 302 = .ok (.lcmp, 1) := by decide +kernel
theorem dc_L_law_303 : decode code 303 = .ok (.ifCond .eq 590, 3) := by decide +kernel
theorem dc_L_law_306 : decode code 306 = .ok (.iconst 0, 1) := by decide +kernel
theorem dc_L_law_307 : decode code 307 = .ok (.ireturn, 1) := by decide +kernel
theorem dc_L_law_308 : decode code 308 = .ok (.aload_n 1, 1) := by decide +kernel
theorem dc_L_law_309 : decode code 309 = .ok (.aload_n 0, 1) := by decide +kernel
theorem dc_L_law_310 : decode code 310 = .ok (.iload 4, 2) := by decide +kernel
theorem dc_L_law_312 : decode code 312 = .ok (.iconst 1, 1) := by decide +kernel
theorem dc_L_law_313 : decode code 313 = .ok (.iadd, 1) := by decide +kernel
theorem dc_L_law_314 : decode code 314 = .ok (.iaload, 1) := by decide +kernel
theorem dc_L_law_315 : decode code 315 = .ok (.invokevirtual 62, 3) := by decide +kernel
theorem dc_L_law_318 : decode code 318 = .ok (.aload_n 2, 1) := by decide +kernel
theorem dc_L_law_319 : decode code 319 = .ok (.aload_n 0, 1) := by decide +kernel
theorem dc_L_law_320 : decode code 320 = .ok (.iload 4, 2) := by decide +kernel
theorem dc_L_law_322 : decode code 322 = .ok (.iconst 1, 1) := by decide +kernel
theorem dc_L_law_323 : decode code 323 = .ok (.iadd, 1) := by decide +kernel
theorem dc_L_law_324 : decode code 324 = .ok (.iaload, 1) := by decide +kernel
theorem dc_L_law_325 : decode code 325 = .ok (.invokevirtual 66, 3) := by decide +kernel
theorem dc_L_law_328 : decode code 328 = .ok (.lcmp, 1) := by decide +kernel
theorem dc_L_law_329 : decode code 329 = .ok (.ifCond .eq 564, 3) := by decide +kernel
theorem dc_L_law_332 : decode code 332 = .ok (.iconst 0, 1) := by decide +kernel
theorem dc_L_law_333 : decode code 333 = .ok (.ireturn, 1) := by decide +kernel
theorem dc_L_law_334 : decode code 334 = .ok (.aload_n 1, 1) := by decide +kernel
theorem dc_L_law_335 : decode code 335 = .ok (.aload_n 0, 1) := by decide +kernel
theorem dc_L_law_336 : decode code 336 = .ok (.iload 4, 2) := by decide +kernel
theorem dc_L_law_338 : decode code 338 = .ok (.iconst 1, 1) := by decide +kernel
theorem dc_L_law_339 : decode code 339 = .ok (.iadd, 1) := by decide +kernel
theorem dc_L_law_340 : decode code 340 = .ok (.iaload, 1) := by decide +kernel
theorem dc_L_law_341 : decode code 341 = .ok (.ifCond .eq 7, 3) := by decide +kernel
theorem dc_L_law_344 : decode code 344 = .ok (.iconst 1, 1) := by decide +kernel
theorem dc_L_law_345 : decode code 345 = .ok (.goto 4, 3) := by decide +kernel
theorem dc_L_law_348 : decode code 348 = .ok (.iconst 0, 1) := by decide +kernel
theorem dc_L_law_349 : decode code 349 = .ok (.aload_n 0, 1) := by decide +kernel
theorem dc_L_law_350 : decode code 350 = .ok (.iload 4, 2) := by decide +kernel
theorem dc_L_law_352 : decode code 352 = .ok (.iconst 2, 1) := by decide +kernel
theorem dc_L_law_353 : decode code 353 = .ok (.iadd, 1) := by decide +kernel
theorem dc_L_law_354 : decode code 354 = .ok (.iaload, 1) := by decide +kernel
theorem dc_L_law_355 : decode code 355 = .ok (.aload_n 0, 1) := by decide +kernel
theorem dc_L_law_356 : decode code 356 = .ok (.iload 4, 2) := by decide +kernel
theorem dc_L_law_358 : decode code 358 = .ok (.iconst 3, 1) := by decide +kernel
theorem dc_L_law_359 : decode code 359 = .ok (.iadd, 1) := by decide +kernel
theorem dc_L_law_360 : decode code 360 = .ok (.iaload, 1) := by decide +kernel
theorem dc_L_law_361 : decode code 361 = .ok (.i2l, 1) := by decide +kernel
theorem dc_L_law_362 : decode code 362 = .ok (.bipush 32, 2) := by decide +kernel
theorem dc_L_law_364 : decode code 364 = .ok (.lshl, 1) := by decide +kernel
theorem dc_L_law_365 : decode code 365 = .ok (.aload_n 0, 1) := by decide +kernel
theorem dc_L_law_366 : decode code 366 = .ok (.iload 4, 2) := by decide +kernel
theorem dc_L_law_368 : decode code 368 = .ok (.iconst 4, 1) := by decide +kernel
theorem dc_L_law_369 : decode code 369 = .ok (.iadd, 1) := by decide +kernel
theorem dc_L_law_370 : decode code 370 = .ok (.iaload, 1) := by decide +kernel
theorem dc_L_law_371 : decode code 371 = .ok (.i2l, 1) := by decide +kernel
theorem dc_L_law_372 : decode code 372 = .ok (.ldc2_w 48, 3) := by decide +kernel
theorem dc_L_law_375 : decode code 375 = .ok (.land, 1) := by decide +kernel
theorem dc_L_law_376 : decode code 376 = .ok (.lor, 1) := by decide +kernel
theorem dc_L_law_377 : decode code 377 = .ok (.aload_n 0, 1) := by decide +kernel
theorem dc_L_law_378 : decode code 378 = .ok (.iload 4, 2) := by decide +kernel
theorem dc_L_law_380 : decode code 380 = .ok (.iconst 5, 1) := by decide +kernel
theorem dc_L_law_381 : decode code 381 = .ok (.iadd, 1) := by decide +kernel
theorem dc_L_law_382 : decode code 382 = .ok (.iaload, 1) := by decide +kernel
theorem dc_L_law_383 : decode code 383 = .ok (.i2l, 1) := by decide +kernel
theorem dc_L_law_384 : decode code 384 = .ok (.bipush 32, 2) := by decide +kernel
theorem dc_L_law_386 : decode code 386 = .ok (.lshl, 1) := by decide +kernel
theorem dc_L_law_387 : decode code 387 = .ok (.aload_n 0, 1) := by decide +kernel
theorem dc_L_law_388 : decode code 388 = .ok (.iload 4, 2) := by decide +kernel
theorem dc_L_law_390 : decode code 390 = .ok (.bipush 6, 2) := by decide +kernel
theorem dc_L_law_392 : decode code 392 = .ok (.iadd, 1) := by decide +kernel
theorem dc_L_law_393 : decode code 393 = .ok (.iaload, 1) := by decide +kernel
theorem dc_L_law_394 : decode code 394 = .ok (.i2l, 1) := by decide +kernel
theorem dc_L_law_395 : decode code 395 = .ok (.ldc2_w 48, 3) := by decide +kernel
theorem dc_L_law_398 : decode code 398 = .ok (.land, 1) := by decide +kernel
theorem dc_L_law_399 : decode code 399 = .ok (.lor, 1) := by decide +kernel
theorem dc_L_law_400 : decode code 400 = .ok (.aload_n 3, 1) := by decide +kernel
theorem dc_L_law_401 : decode code 401 = .ok (.invokestatic 67, 3) := by decide +kernel
theorem dc_L_law_404 : decode code 404 = .ok (.istore 5, 2) := by decide +kernel
theorem dc_L_law_406 : decode code 406 = .ok (.aload_n 2, 1) := by decide +kernel
theorem dc_L_law_407 : decode code 407 = .ok (.aload_n 0, 1) := by decide +kernel
theorem dc_L_law_408 : decode code 408 = .ok (.iload 4, 2) := by decide +kernel
theorem dc_L_law_410 : decode code 410 = .ok (.iconst 1, 1) := by decide +kernel
theorem dc_L_law_411 : decode code 411 = .ok (.iadd, 1) := by decide +kernel
theorem dc_L_law_412 : decode code 412 = .ok (.iaload, 1) := by decide +kernel
theorem dc_L_law_413 : decode code 413 = .ok (.ifCond .eq 7, 3) := by decide +kernel
theorem dc_L_law_416 : decode code 416 = .ok (.iconst 1, 1) := by decide +kernel
theorem dc_L_law_417 : decode code 417 = .ok (.goto 4, 3) := by decide +kernel
theorem dc_L_law_420 : decode code 420 = .ok (.iconst 0, 1) := by decide +kernel
theorem dc_L_law_421 : decode code 421 = .ok (.aload_n 0, 1) := by decide +kernel
theorem dc_L_law_422 : decode code 422 = .ok (.iload 4, 2) := by decide +kernel
theorem dc_L_law_424 : decode code 424 = .ok (.iconst 2, 1) := by decide +kernel
theorem dc_L_law_425 : decode code 425 = .ok (.iadd, 1) := by decide +kernel
theorem dc_L_law_426 : decode code 426 = .ok (.iaload, 1) := by decide +kernel
theorem dc_L_law_427 : decode code 427 = .ok (.aload_n 0, 1) := by decide +kernel
theorem dc_L_law_428 : decode code 428 = .ok (.iload 4, 2) := by decide +kernel
theorem dc_L_law_430 : decode code 430 = .ok (.iconst 3, 1) := by decide +kernel
theorem dc_L_law_431 : decode code 431 = .ok (.iadd, 1) := by decide +kernel
theorem dc_L_law_432 : decode code 432 = .ok (.iaload, 1) := by decide +kernel
theorem dc_L_law_433 : decode code 433 = .ok (.i2l, 1) := by decide +kernel
theorem dc_L_law_434 : decode code 434 = .ok (.bipush 32, 2) := by decide +kernel
theorem dc_L_law_436 : decode code 436 = .ok (.lshl, 1) := by decide +kernel
theorem dc_L_law_437 : decode code 437 = .ok (.aload_n 0, 1) := by decide +kernel
theorem dc_L_law_438 : decode code 438 = .ok (.iload 4, 2) := by decide +kernel
theorem dc_L_law_440 : decode code 440 = .ok (.iconst 4, 1) := by decide +kernel
theorem dc_L_law_441 : decode code 441 = .ok (.iadd, 1) := by decide +kernel
theorem dc_L_law_442 : decode code 442 = .ok (.iaload, 1) := by decide +kernel
theorem dc_L_law_443 : decode code 443 = .ok (.i2l, 1) := by decide +kernel
theorem dc_L_law_444 : decode code 444 = .ok (.ldc2_w 48, 3) := by decide +kernel
theorem dc_L_law_447 : decode code 447 = .ok (.land, 1) := by decide +kernel
theorem dc_L_law_448 : decode code 448 = .ok (.lor, 1) := by decide +kernel
theorem dc_L_law_449 : decode code 449 = .ok (.aload_n 0, 1) := by decide +kernel
theorem dc_L_law_450 : decode code 450 = .ok (.iload 4, 2) := by decide +kernel
theorem dc_L_law_452 : decode code 452 = .ok (.iconst 5, 1) := by decide +kernel
theorem dc_L_law_453 : decode code 453 = .ok (.iadd, 1) := by decide +kernel
theorem dc_L_law_454 : decode code 454 = .ok (.iaload, 1) := by decide +kernel
theorem dc_L_law_455 : decode code 455 = .ok (.i2l, 1) := by decide +kernel
theorem dc_L_law_456 : decode code 456 = .ok (.bipush 32, 2) := by decide +kernel
theorem dc_L_law_458 : decode code 458 = .ok (.lshl, 1) := by decide +kernel
theorem dc_L_law_459 : decode code 459 = .ok (.aload_n 0, 1) := by decide +kernel
theorem dc_L_law_460 : decode code 460 = .ok (.iload 4, 2) := by decide +kernel
theorem dc_L_law_462 : decode code 462 = .ok (.bipush 6, 2) := by decide +kernel
theorem dc_L_law_464 : decode code 464 = .ok (.iadd, 1) := by decide +kernel
theorem dc_L_law_465 : decode code 465 = .ok (.iaload, 1) := by decide +kernel
theorem dc_L_law_466 : decode code 466 = .ok (.i2l, 1) := by decide +kernel
theorem dc_L_law_467 : decode code 467 = .ok (.ldc2_w 48, 3) := by decide +kernel
theorem dc_L_law_470 : decode code 470 = .ok (.land, 1) := by decide +kernel
theorem dc_L_law_471 : decode code 471 = .ok (.lor, 1) := by decide +kernel
theorem dc_L_law_472 : decode code 472 = .ok (.invokevirtual 70, 3) := by decide +kernel
theorem dc_L_law_475 : decode code 475 = .ok (.lstore 6, 2) := by decide +kernel
theorem dc_L_law_477 : decode code 477 = .ok (.aload_n 2, 1) := by decide +kernel
theorem dc_L_law_478 : decode code 478 = .ok (.invokevirtual 54, 3) := by decide +kernel
theorem dc_L_law_481 : decode code 481 = .ok (.iload 5, 2) := by decide +kernel
theorem dc_L_law_483 : decode code 483 = .ok (.if_icmp .eq 5, 3) := by decide +kernel
theorem dc_L_law_486 : decode code 486 = .ok (.iconst 0, 1) := by decide +kernel
theorem dc_L_law_487 : decode code 487 = .ok (.ireturn, 1) := by decide +kernel
theorem dc_L_law_488 : decode code 488 = .ok (.iload 5, 2) := by decide +kernel
theorem dc_L_law_490 : decode code 490 = .ok (.ifCond .ne 14, 3) := by decide +kernel
theorem dc_L_law_493 : decode code 493 = .ok (.aload_n 3, 1) := by decide +kernel
theorem dc_L_law_494 : decode code 494 = .ok (.iconst 0, 1) := by decide +kernel
theorem dc_L_law_495 : decode code 495 = .ok (.laload, 1) := by decide +kernel
theorem dc_L_law_496 : decode code 496 = .ok (.lload 6, 2) := by decide +kernel
theorem dc_L_law_498 : decode code 498 = .ok (.lcmp, 1) := by decide +kernel
theorem dc_L_law_499 : decode code 499 = .ok (.ifCond .eq 5, 3) := by decide +kernel
theorem dc_L_law_502 : decode code 502 = .ok (.iconst 0, 1) := by decide +kernel
theorem dc_L_law_503 : decode code 503 = .ok (.ireturn, 1) := by decide +kernel
theorem dc_L_law_504 : decode code 504 = .ok (.goto 389, 3) := by decide +kernel
theorem dc_L_law_507 : decode code 507 = .ok (.aload_n 1, 1) := by decide +kernel
theorem dc_L_law_508 : decode code 508 = .ok (.aload_n 0, 1) := by decide +kernel
theorem dc_L_law_509 : decode code 509 = .ok (.iload 4, 2) := by decide +kernel
theorem dc_L_law_511 : decode code 511 = .ok (.iconst 1, 1) := by decide +kernel
theorem dc_L_law_512 : decode code 512 = .ok (.iadd, 1) := by decide +kernel
theorem dc_L_law_513 : decode code 513 = .ok (.iaload, 1) := by decide +kernel
theorem dc_L_law_514 : decode code 514 = .ok (.ifCond .eq 7, 3) := by decide +kernel
theorem dc_L_law_517 : decode code 517 = .ok (.iconst 1, 1) := by decide +kernel
theorem dc_L_law_518 : decode code 518 = .ok (.goto 4, 3) := by decide +kernel
theorem dc_L_law_521 : decode code 521 = .ok (.iconst 0, 1) := by decide +kernel
theorem dc_L_law_522 : decode code 522 = .ok (.invokevirtual 71, 3) := by decide +kernel
theorem dc_L_law_525 : decode code 525 = .ok (.aload_n 2, 1) := by decide +kernel
theorem dc_L_law_526 : decode code 526 = .ok (.aload_n 0, 1) := by decide +kernel
theorem dc_L_law_527 : decode code 527 = .ok (.iload 4, 2) := by decide +kernel
theorem dc_L_law_529 : decode code 529 = .ok (.iconst 1, 1) := by decide +kernel
theorem dc_L_law_530 : decode code 530 = .ok (.iadd, 1) := by decide +kernel
theorem dc_L_law_531 : decode code 531 = .ok (.iaload, 1) := by decide +kernel
theorem dc_L_law_532 : decode code 532 = .ok (.ifCond .eq 7, 3) := by decide +kernel
theorem dc_L_law_535 : decode code 535 = .ok (.iconst 1, 1) := by decide +kernel
theorem dc_L_law_536 : decode code 536 = .ok (.goto 4, 3) := by decide +kernel
theorem dc_L_law_539 : decode code 539 = .ok (.iconst 0, 1) := by decide +kernel
theorem dc_L_law_540 : decode code 540 = .ok (.invokevirtual 75, 3) := by decide +kernel
theorem dc_L_law_543 : decode code 543 = .ok (.if_icmp .eq 350, 3) := by decide +kernel
theorem dc_L_law_546 : decode code 546 = .ok (.iconst 0, 1) := by decide +kernel
theorem dc_L_law_547 : decode code 547 = .ok (.ireturn, 1) := by decide +kernel
theorem dc_L_law_548 : decode code 548 = .ok (.aload_n 1, 1) := by decide +kernel
theorem dc_L_law_549 : decode code 549 = .ok (.invokevirtual 76, 3) := by decide +kernel
theorem dc_L_law_552 : decode code 552 = .ok (.aload_n 2, 1) := by decide +kernel
theorem dc_L_law_553 : decode code 553 = .ok (.invokevirtual 79, 3) := by decide +kernel
theorem dc_L_law_556 : decode code 556 = .ok (.lcmp, 1) := by decide +kernel
theorem dc_L_law_557 : decode code 557 = .ok (.ifCond .eq 336, 3) := by decide +kernel
theorem dc_L_law_560 : decode code 560 = .ok (.iconst 0, 1) := by decide +kernel
theorem dc_L_law_561 : decode code 561 = .ok (.ireturn, 1) := by decide +kernel
theorem dc_L_law_562 : decode code 562 = .ok (.aload_n 1, 1) := by decide +kernel
theorem dc_L_law_563 : decode code 563 = .ok (.invokevirtual 80, 3) := by decide +kernel
theorem dc_L_law_566 : decode code 566 = .ok (.aload_n 2, 1) := by decide +kernel
theorem dc_L_law_567 : decode code 567 = .ok (.invokevirtual 83, 3) := by decide +kernel
theorem dc_L_law_570 : decode code 570 = .ok (.if_icmp .eq 323, 3) := by decide +kernel
theorem dc_L_law_573 : decode code 573 = .ok (.iconst 0, 1) := by decide +kernel
theorem dc_L_law_574 : decode code 574 = .ok (.ireturn, 1) := by decide +kernel
theorem dc_L_law_575 : decode code 575 = .ok (.aload_n 1, 1) := by decide +kernel
theorem dc_L_law_576 : decode code 576 = .ok (.invokevirtual 84, 3) := by decide +kernel
theorem dc_L_law_579 : decode code 579 = .ok (.aload_n 2, 1) := by decide +kernel
theorem dc_L_law_580 : decode code 580 = .ok (.invokevirtual 88, 3) := by decide +kernel
theorem dc_L_law_583 : decode code 583 = .ok (.if_icmp .eq 310, 3) := by decide +kernel
theorem dc_L_law_586 : decode code 586 = .ok (.iconst 0, 1) := by decide +kernel
theorem dc_L_law_587 : decode code 587 = .ok (.ireturn, 1) := by decide +kernel
theorem dc_L_law_588 : decode code 588 = .ok (.aload_n 1, 1) := by decide +kernel
theorem dc_L_law_589 : decode code 589 = .ok (.aload_n 0, 1) := by decide +kernel
theorem dc_L_law_590 : decode code 590 = .ok (.iload 4, 2) := by decide +kernel
theorem dc_L_law_592 : decode code 592 = .ok (.iconst 1, 1) := by decide +kernel
theorem dc_L_law_593 : decode code 593 = .ok (.iadd, 1) := by decide +kernel
theorem dc_L_law_594 : decode code 594 = .ok (.iaload, 1) := by decide +kernel
theorem dc_L_law_595 : decode code 595 = .ok (.aload_n 0, 1) := by decide +kernel
theorem dc_L_law_596 : decode code 596 = .ok (.iload 4, 2) := by decide +kernel
theorem dc_L_law_598 : decode code 598 = .ok (.iconst 2, 1) := by decide +kernel
theorem dc_L_law_599 : decode code 599 = .ok (.iadd, 1) := by decide +kernel
theorem dc_L_law_600 : decode code 600 = .ok (.iaload, 1) := by decide +kernel
theorem dc_L_law_601 : decode code 601 = .ok (.ifCond .eq 7, 3) := by decide +kernel
theorem dc_L_law_604 : decode code 604 = .ok (.iconst 1, 1) := by decide +kernel
theorem dc_L_law_605 : decode code 605 = .ok (.goto 4, 3) := by decide +kernel
theorem dc_L_law_608 : decode code 608 = .ok (.iconst 0, 1) := by decide +kernel
theorem dc_L_law_609 : decode code 609 = .ok (.invokestatic 89, 3) := by decide +kernel
theorem dc_L_law_612 : decode code 612 = .ok (.istore 5, 2) := by decide +kernel
theorem dc_L_law_614 : decode code 614 = .ok (.aload_n 2, 1) := by decide +kernel
theorem dc_L_law_615 : decode code 615 = .ok (.aload_n 0, 1) := by decide +kernel
theorem dc_L_law_616 : decode code 616 = .ok (.iload 4, 2) := by decide +kernel
theorem dc_L_law_618 : decode code 618 = .ok (.iconst 1, 1) := by decide +kernel
theorem dc_L_law_619 : decode code 619 = .ok (.iadd, 1) := by decide +kernel
theorem dc_L_law_620 : decode code 620 = .ok (.iaload, 1) := by decide +kernel
theorem dc_L_law_621 : decode code 621 = .ok (.aload_n 0, 1) := by decide +kernel
theorem dc_L_law_622 : decode code 622 = .ok (.iload 4, 2) := by decide +kernel
theorem dc_L_law_624 : decode code 624 = .ok (.iconst 2, 1) := by decide +kernel
theorem dc_L_law_625 : decode code 625 = .ok (.iadd, 1) := by decide +kernel
theorem dc_L_law_626 : decode code 626 = .ok (.iaload, 1) := by decide +kernel
theorem dc_L_law_627 : decode code 627 = .ok (.ifCond .eq 7, 3) := by decide +kernel
theorem dc_L_law_630 : decode code 630 = .ok (.iconst 1, 1) := by decide +kernel
theorem dc_L_law_631 : decode code 631 = .ok (.goto 4, 3) := by decide +kernel
theorem dc_L_law_634 : decode code 634 = .ok (.iconst 0, 1) := by decide +kernel
theorem dc_L_law_635 : decode code 635 = .ok (.invokevirtual 92, 3) := by decide +kernel
theorem dc_L_law_638 : decode code 638 = .ok (.aload_n 2, 1) := by decide +kernel
theorem dc_L_law_639 : decode code 639 = .ok (.invokevirtual 54, 3) := by decide +kernel
theorem dc_L_law_642 : decode code 642 = .ok (.iload 5, 2) := by decide +kernel
theorem dc_L_law_644 : decode code 644 = .ok (.if_icmp .eq 5, 3) := by decide +kernel
theorem dc_L_law_647 : decode code 647 = .ok (.iconst 0, 1) := by decide +kernel
theorem dc_L_law_648 : decode code 648 = .ok (.ireturn, 1) := by decide +kernel
theorem dc_L_law_649 : decode code 649 = .ok (.goto 244, 3) := by decide +kernel
theorem dc_L_law_652 : decode code 652 = .ok (.aload_n 1, 1) := by decide +kernel
theorem dc_L_law_653 : decode code 653 = .ok (.aload_n 0, 1) := by decide +kernel
theorem dc_L_law_654 : decode code 654 = .ok (.iload 4, 2) := by decide +kernel
theorem dc_L_law_656 : decode code 656 = .ok (.iconst 1, 1) := by decide +kernel
theorem dc_L_law_657 : decode code 657 = .ok (.iadd, 1) := by decide +kernel
theorem dc_L_law_658 : decode code 658 = .ok (.iaload, 1) := by decide +kernel
theorem dc_L_law_659 : decode code 659 = .ok (.aload_n 3, 1) := by decide +kernel
theorem dc_L_law_660 : decode code 660 = .ok (.invokestatic 93, 3) := by decide +kernel
theorem dc_L_law_663 : decode code 663 = .ok (.istore 5, 2) := by decide +kernel
theorem dc_L_law_665 : decode code 665 = .ok (.aload_n 2, 1) := by decide +kernel
theorem dc_L_law_666 : decode code 666 = .ok (.aload_n 0, 1) := by decide +kernel
theorem dc_L_law_667 : decode code 667 = .ok (.iload 4, 2) := by decide +kernel
theorem dc_L_law_669 : decode code 669 = .ok (.iconst 1, 1) := by decide +kernel
theorem dc_L_law_670 : decode code 670 = .ok (.iadd, 1) := by decide +kernel
theorem dc_L_law_671 : decode code 671 = .ok (.iaload, 1) := by decide +kernel
theorem dc_L_law_672 : decode code 672 = .ok (.invokevirtual 96, 3) := by decide +kernel
theorem dc_L_law_675 : decode code 675 = .ok (.istore 6, 2) := by decide +kernel
theorem dc_L_law_677 : decode code 677 = .ok (.aload_n 2, 1) := by decide +kernel
theorem dc_L_law_678 : decode code 678 = .ok (.invokevirtual 54, 3) := by decide +kernel
theorem dc_L_law_681 : decode code 681 = .ok (.iload 5, 2) := by decide +kernel
theorem dc_L_law_683 : decode code 683 = .ok (.if_icmp .eq 5, 3) := by decide +kernel
theorem dc_L_law_686 : decode code 686 = .ok (.iconst 0, 1) := by decide +kernel
theorem dc_L_law_687 : decode code 687 = .ok (.ireturn, 1) := by decide +kernel
theorem dc_L_law_688 : decode code 688 = .ok (.iload 5, 2) := by decide +kernel
theorem dc_L_law_690 : decode code 690 = .ok (.ifCond .ne 22, 3) := by decide +kernel
theorem dc_L_law_693 : decode code 693 = .ok (.aload_n 3, 1) := by decide +kernel
theorem dc_L_law_694 : decode code 694 = .ok (.iconst 0, 1) := by decide +kernel
theorem dc_L_law_695 : decode code 695 = .ok (.laload, 1) := by decide +kernel
theorem dc_L_law_696 : decode code 696 = .ok (.iload 6, 2) := by decide +kernel
theorem dc_L_law_698 : decode code 698 = .ok (.ifCond .eq 7, 3) := by decide +kernel
theorem dc_L_law_701 : decode code 701 = .ok (.lconst 1, 1) := by decide +kernel
theorem dc_L_law_702 : decode code 702 = .ok (.goto 4, 3) := by decide +kernel
theorem dc_L_law_705 : decode code 705 = .ok (.lconst 0, 1) := by decide +kernel
theorem dc_L_law_706 : decode code 706 = .ok (.lcmp, 1) := by decide +kernel
theorem dc_L_law_707 : decode code 707 = .ok (.ifCond .eq 5, 3) := by decide +kernel
theorem dc_L_law_710 : decode code 710 = .ok (.iconst 0, 1) := by decide +kernel
theorem dc_L_law_711 : decode code 711 = .ok (.ireturn, 1) := by decide +kernel
theorem dc_L_law_712 : decode code 712 = .ok (.goto 181, 3) := by decide +kernel
theorem dc_L_law_715 : decode code 715 = .ok (.aload_n 1, 1) := by decide +kernel
theorem dc_L_law_716 : decode code 716 = .ok (.invokevirtual 97, 3) := by decide +kernel
theorem dc_L_law_719 : decode code 719 = .ok (.aload_n 2, 1) := by decide +kernel
theorem dc_L_law_720 : decode code 720 = .ok (.invokevirtual 100, 3) := by decide +kernel
theorem dc_L_law_723 : decode code 723 = .ok (.if_icmp .eq 170, 3) := by decide +kernel
theorem dc_L_law_726 : decode code 726 = .ok (.iconst 0, 1) := by decide +kernel
theorem dc_L_law_727 : decode code 727 = .ok (.ireturn, 1) := by decide +kernel
theorem dc_L_law_728 : decode code 728 = .ok (.aload_n 1, 1) := by decide +kernel
theorem dc_L_law_729 : decode code 729 = .ok (.invokevirtual 101, 3) := by decide +kernel
theorem dc_L_law_732 : decode code 732 = .ok (.aload_n 2, 1) := by decide +kernel
theorem dc_L_law_733 : decode code 733 = .ok (.invokevirtual 104, 3) := by decide +kernel
theorem dc_L_law_736 : decode code 736 = .ok (.goto 157, 3) := by decide +kernel
theorem dc_L_law_739 : decode code 739 = .ok (.aload_n 1, 1) := by decide +kernel
theorem dc_L_law_740 : decode code 740 = .ok (.aload_n 0, 1) := by decide +kernel
theorem dc_L_law_741 : decode code 741 = .ok (.iload 4, 2) := by decide +kernel
theorem dc_L_law_743 : decode code 743 = .ok (.iconst 1, 1) := by decide +kernel
theorem dc_L_law_744 : decode code 744 = .ok (.iadd, 1) := by decide +kernel
theorem dc_L_law_745 : decode code 745 = .ok (.iaload, 1) := by decide +kernel
theorem dc_L_law_746 : decode code 746 = .ok (.i2l, 1) := by decide +kernel
theorem dc_L_law_747 : decode code 747 = .ok (.bipush 32, 2) := by decide +kernel
theorem dc_L_law_749 : decode code 749 = .ok (.lshl, 1) := by decide +kernel
theorem dc_L_law_750 : decode code 750 = .ok (.aload_n 0, 1) := by decide +kernel
theorem dc_L_law_751 : decode code 751 = .ok (.iload 4, 2) := by decide +kernel
theorem dc_L_law_753 : decode code 753 = .ok (.iconst 2, 1) := by decide +kernel
theorem dc_L_law_754 : decode code 754 = .ok (.iadd, 1) := by decide +kernel
theorem dc_L_law_755 : decode code 755 = .ok (.iaload, 1) := by decide +kernel
theorem dc_L_law_756 : decode code 756 = .ok (.i2l, 1) := by decide +kernel
theorem dc_L_law_757 : decode code 757 = .ok (.ldc2_w 48, 3) := by decide +kernel
theorem dc_L_law_760 : decode code 760 = .ok (.land, 1) := by decide +kernel
theorem dc_L_law_761 : decode code 761 = .ok (.lor, 1) := by decide +kernel
theorem dc_L_law_762 : decode code 762 = .ok (.aload_n 0, 1) := by decide +kernel
theorem dc_L_law_763 : decode code 763 = .ok (.iload 4, 2) := by decide +kernel
theorem dc_L_law_765 : decode code 765 = .ok (.iconst 3, 1) := by decide +kernel
theorem dc_L_law_766 : decode code 766 = .ok (.iadd, 1) := by decide +kernel
theorem dc_L_law_767 : decode code 767 = .ok (.iaload, 1) := by decide +kernel
theorem dc_L_law_768 : decode code 768 = .ok (.i2l, 1) := by decide +kernel
theorem dc_L_law_769 : decode code 769 = .ok (.bipush 32, 2) := by decide +kernel
theorem dc_L_law_771 : decode code 771 = .ok (.lshl, 1) := by decide +kernel
theorem dc_L_law_772 : decode code 772 = .ok (.aload_n 0, 1) := by decide +kernel
theorem dc_L_law_773 : decode code 773 = .ok (.iload 4, 2) := by decide +kernel
theorem dc_L_law_775 : decode code 775 = .ok (.iconst 4, 1) := by decide +kernel
theorem dc_L_law_776 : decode code 776 = .ok (.iadd, 1) := by decide +kernel
theorem dc_L_law_777 : decode code 777 = .ok (.iaload, 1) := by decide +kernel
theorem dc_L_law_778 : decode code 778 = .ok (.i2l, 1) := by decide +kernel
theorem dc_L_law_779 : decode code 779 = .ok (.ldc2_w 48, 3) := by decide +kernel
theorem dc_L_law_782 : decode code 782 = .ok (.land, 1) := by decide +kernel
theorem dc_L_law_783 : decode code 783 = .ok (.lor, 1) := by decide +kernel
theorem dc_L_law_784 : decode code 784 = .ok (.invokevirtual 105, 3) := by decide +kernel
theorem dc_L_law_787 : decode code 787 = .ok (.aload_n 2, 1) := by decide +kernel
theorem dc_L_law_788 : decode code 788 = .ok (.aload_n 0, 1) := by decide +kernel
theorem dc_L_law_789 : decode code 789 = .ok (.iload 4, 2) := by decide +kernel
theorem dc_L_law_791 : decode code 791 = .ok (.iconst 1, 1) := by decide +kernel
theorem dc_L_law_792 : decode code 792 = .ok (.iadd, 1) := by decide +kernel
theorem dc_L_law_793 : decode code 793 = .ok (.iaload, 1) := by decide +kernel
theorem dc_L_law_794 : decode code 794 = .ok (.i2l, 1) := by decide +kernel
theorem dc_L_law_795 : decode code 795 = .ok (.bipush 32, 2) := by decide +kernel
theorem dc_L_law_797 : decode code 797 = .ok (.lshl, 1) := by decide +kernel
theorem dc_L_law_798 : decode code 798 = .ok (.aload_n 0, 1) := by decide +kernel
theorem dc_L_law_799 : decode code 799 = .ok (.iload 4, 2) := by decide +kernel
theorem dc_L_law_801 : decode code 801 = .ok (.iconst 2, 1) := by decide +kernel
theorem dc_L_law_802 : decode code 802 = .ok (.iadd, 1) := by decide +kernel
theorem dc_L_law_803 : decode code 803 = .ok (.iaload, 1) := by decide +kernel
theorem dc_L_law_804 : decode code 804 = .ok (.i2l, 1) := by decide +kernel
theorem dc_L_law_805 : decode code 805 = .ok (.ldc2_w 48, 3) := by decide +kernel
theorem dc_L_law_808 : decode code 808 = .ok (.land, 1) := by decide +kernel
theorem dc_L_law_809 : decode code 809 = .ok (.lor, 1) := by decide +kernel
theorem dc_L_law_810 : decode code 810 = .ok (.aload_n 0, 1) := by decide +kernel
theorem dc_L_law_811 : decode code 811 = .ok (.iload 4, 2) := by decide +kernel
theorem dc_L_law_813 : decode code 813 = .ok (.iconst 3, 1) := by decide +kernel
theorem dc_L_law_814 : decode code 814 = .ok (.iadd, 1) := by decide +kernel
theorem dc_L_law_815 : decode code 815 = .ok (.iaload, 1) := by decide +kernel
theorem dc_L_law_816 : decode code 816 = .ok (.i2l, 1) := by decide +kernel
theorem dc_L_law_817 : decode code 817 = .ok (.bipush 32, 2) := by decide +kernel
theorem dc_L_law_819 : decode code 819 = .ok (.lshl, 1) := by decide +kernel
theorem dc_L_law_820 : decode code 820 = .ok (.aload_n 0, 1) := by decide +kernel
theorem dc_L_law_821 : decode code 821 = .ok (.iload 4, 2) := by decide +kernel
theorem dc_L_law_823 : decode code 823 = .ok (.iconst 4, 1) := by decide +kernel
theorem dc_L_law_824 : decode code 824 = .ok (.iadd, 1) := by decide +kernel
theorem dc_L_law_825 : decode code 825 = .ok (.iaload, 1) := by decide +kernel
theorem dc_L_law_826 : decode code 826 = .ok (.i2l, 1) := by decide +kernel
theorem dc_L_law_827 : decode code 827 = .ok (.ldc2_w 48, 3) := by decide +kernel
theorem dc_L_law_830 : decode code 830 = .ok (.land, 1) := by decide +kernel
theorem dc_L_law_831 : decode code 831 = .ok (.lor, 1) := by decide +kernel
theorem dc_L_law_832 : decode code 832 = .ok (.invokevirtual 109, 3) := by decide +kernel
theorem dc_L_law_835 : decode code 835 = .ok (.goto 58, 3) := by decide +kernel
theorem dc_L_law_838 : decode code 838 = .ok (.aload_n 1, 1) := by decide +kernel
theorem dc_L_law_839 : decode code 839 = .ok (.aload_n 0, 1) := by decide +kernel
theorem dc_L_law_840 : decode code 840 = .ok (.iload 4, 2) := by decide +kernel
theorem dc_L_law_842 : decode code 842 = .ok (.iconst 1, 1) := by decide +kernel
theorem dc_L_law_843 : decode code 843 = .ok (.iadd, 1) := by decide +kernel
theorem dc_L_law_844 : decode code 844 = .ok (.iaload, 1) := by decide +kernel
theorem dc_L_law_845 : decode code 845 = .ok (.i2l, 1) := by decide +kernel
theorem dc_L_law_846 : decode code 846 = .ok (.bipush 32, 2) := by decide +kernel
theorem dc_L_law_848 : decode code 848 = .ok (.lshl, 1) := by decide +kernel
theorem dc_L_law_849 : decode code 849 = .ok (.aload_n 0, 1) := by decide +kernel
theorem dc_L_law_850 : decode code 850 = .ok (.iload 4, 2) := by decide +kernel
theorem dc_L_law_852 : decode code 852 = .ok (.iconst 2, 1) := by decide +kernel
theorem dc_L_law_853 : decode code 853 = .ok (.iadd, 1) := by decide +kernel
theorem dc_L_law_854 : decode code 854 = .ok (.iaload, 1) := by decide +kernel
theorem dc_L_law_855 : decode code 855 = .ok (.i2l, 1) := by decide +kernel
theorem dc_L_law_856 : decode code 856 = .ok (.ldc2_w 48, 3) := by decide +kernel
theorem dc_L_law_859 : decode code 859 = .ok (.land, 1) := by decide +kernel
theorem dc_L_law_860 : decode code 860 = .ok (.lor, 1) := by decide +kernel
theorem dc_L_law_861 : decode code 861 = .ok (.invokevirtual 110, 3) := by decide +kernel
theorem dc_L_law_864 : decode code 864 = .ok (.aload_n 2, 1) := by decide +kernel
theorem dc_L_law_865 : decode code 865 = .ok (.aload_n 0, 1) := by decide +kernel
theorem dc_L_law_866 : decode code 866 = .ok (.iload 4, 2) := by decide +kernel
theorem dc_L_law_868 : decode code 868 = .ok (.iconst 1, 1) := by decide +kernel
theorem dc_L_law_869 : decode code 869 = .ok (.iadd, 1) := by decide +kernel
theorem dc_L_law_870 : decode code 870 = .ok (.iaload, 1) := by decide +kernel
theorem dc_L_law_871 : decode code 871 = .ok (.i2l, 1) := by decide +kernel
theorem dc_L_law_872 : decode code 872 = .ok (.bipush 32, 2) := by decide +kernel
theorem dc_L_law_874 : decode code 874 = .ok (.lshl, 1) := by decide +kernel
theorem dc_L_law_875 : decode code 875 = .ok (.aload_n 0, 1) := by decide +kernel
theorem dc_L_law_876 : decode code 876 = .ok (.iload 4, 2) := by decide +kernel
theorem dc_L_law_878 : decode code 878 = .ok (.iconst 2, 1) := by decide +kernel
theorem dc_L_law_879 : decode code 879 = .ok (.iadd, 1) := by decide +kernel
theorem dc_L_law_880 : decode code 880 = .ok (.iaload, 1) := by decide +kernel
theorem dc_L_law_881 : decode code 881 = .ok (.i2l, 1) := by decide +kernel
theorem dc_L_law_882 : decode code 882 = .ok (.ldc2_w 48, 3) := by decide +kernel
theorem dc_L_law_885 : decode code 885 = .ok (.land, 1) := by decide +kernel
theorem dc_L_law_886 : decode code 886 = .ok (.lor, 1) := by decide +kernel
theorem dc_L_law_887 : decode code 887 = .ok (.invokevirtual 114, 3) := by decide +kernel
theorem dc_L_law_890 : decode code 890 = .ok (.goto 3, 3) := by decide +kernel
theorem dc_L_law_893 : decode code 893 = .ok (.iinc 4 7, 3) := by decide +kernel
theorem dc_L_law_896 : decode code 896 = .ok (.goto (-863), 3) := by decide +kernel
theorem dc_L_law_899 : decode code 899 = .ok (.iconst 1, 1) := by decide +kernel
theorem dc_L_law_900 : decode code 900 = .ok (.ireturn, 1) := by decide +kernel
