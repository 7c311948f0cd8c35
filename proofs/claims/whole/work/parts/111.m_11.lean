theorem dX12_worked_0 : decode cX12_worked 0 = .ok (.iconst 0, 1) := by decide +kernel
theorem dX12_worked_1 : decode cX12_worked 1 = .ok (.istore_n 2, 1) := by decide +kernel
theorem dX12_worked_2 : decode cX12_worked 2 = .ok (.aload_n 0, 1) := by decide +kernel
theorem dX12_worked_3 : decode cX12_worked 3 = .ok (.iconst 0, 1) := by decide +kernel
theorem dX12_worked_4 : decode cX12_worked 4 = .ok (.invokevirtual 207, 3) := by decide +kernel
theorem dX12_worked_7 : decode cX12_worked 7 = .ok (.aload_n 0, 1) := by decide +kernel
theorem dX12_worked_8 : decode cX12_worked 8 = .ok (.getfield 39, 3) := by decide +kernel
theorem dX12_worked_11 : decode cX12_worked 11 = .ok (.iload_n 1, 1) := by decide +kernel
theorem dX12_worked_12 : decode cX12_worked 12 = .ok (.iaload, 1) := by decide +kernel
theorem dX12_worked_13 : decode cX12_worked 13 = .ok (.istore_n 3, 1) := by decide +kernel
theorem dX12_worked_14 : decode cX12_worked 14 = .ok (.iload_n 3, 1) := by decide +kernel
theorem dX12_worked_15 : decode cX12_worked 15 = .ok (.aload_n 0, 1) := by decide +kernel
theorem dX12_worked_16 : decode cX12_worked 16 = .ok (.getfield 42, 3) := by decide +kernel
theorem dX12_worked_19 : decode cX12_worked 19 = .ok (.iload_n 1, 1) := by decide +kernel
theorem dX12_worked_20 : decode cX12_worked 20 = .ok (.iaload, 1) := by decide +kernel
theorem dX12_worked_21 : decode cX12_worked 21 = .ok (.if_icmp .ge 314, 3) := by decide +kernel
theorem dX12_worked_24 : decode cX12_worked 24 = .ok (.aload_n 0, 1) := by decide +kernel
theorem dX12_worked_25 : decode cX12_worked 25 = .ok (.getfield 45, 3) := by decide +kernel
theorem dX12_worked_28 : decode cX12_worked 28 = .ok (.iload_n 3, 1) := by decide +kernel
theorem dX12_worked_29 : decode cX12_worked 29 = .ok (.iaload, 1) := by decide +kernel
theorem dX12_worked_30 : decode cX12_worked 30 = .ok (.istore 4, 2) := by decide +kernel
theorem dX12_worked_32 : decode cX12_worked 32 = .ok (.iload 4, 2) := by decide +kernel
theorem dX12_worked_34 : decode cX12_worked 34 = .ok (.bipush 28, 2) := by decide +kernel
theorem dX12_worked_36 : decode cX12_worked 36 = .ok (.if_icmp .eq 10, 3) := by decide +kernel
theorem dX12_worked_39 : decode cX12_worked 39 = .ok (.iload 4, 2) := by decide +kernel
theorem dX12_worked_41 : decode cX12_worked 41 = .ok (.bipush 30, 2) := by decide +kernel
theorem dX12_worked_43 : decode cX12_worked 43 = .ok (.if_icmp .ne 32, 3) := by decide +kernel
theorem dX12_worked_46 : decode cX12_worked 46 = .ok (.iinc 2 1, 3) := by decide +kernel
theorem dX12_worked_49 : decode cX12_worked 49 = .ok (.aload_n 0, 1) := by decide +kernel
theorem dX12_worked_50 : decode cX12_worked 50 = .ok (.getfield 78, 3) := by decide +kernel
theorem dX12_worked_53 : decode cX12_worked 53 = .ok (.iload_n 2, 1) := by decide +kernel
theorem dX12_worked_54 : decode cX12_worked 54 = .ok (.iload 4, 2) := by decide +kernel
theorem dX12_worked_56 : decode cX12_worked 56 = .ok (.bipush 30, 2) := by decide +kernel
theorem dX12_worked_58 : decode cX12_worked 58 = .ok (.if_icmp .ne 7, 3) := by decide +kernel
theorem dX12_worked_61 : decode cX12_worked 61 = .ok (.iconst 1, 1) := by decide +kernel
theorem dX12_worked_62 : decode cX12_worked 62 = .ok (.goto 4, 3) := by decide +kernel
theorem dX12_worked_65 : decode cX12_worked 65 = .ok (.iconst 0, 1) := by decide +kernel
theorem dX12_worked_66 : decode cX12_worked 66 = .ok (.iastore, 1) := by decide +kernel
theorem dX12_worked_67 : decode cX12_worked 67 = .ok (.aload_n 0, 1) := by decide +kernel
theorem dX12_worked_68 : decode cX12_worked 68 = .ok (.iload_n 2, 1) := by decide +kernel
theorem dX12_worked_69 : decode cX12_worked 69 = .ok (.invokevirtual 207, 3) := by decide +kernel
theorem dX12_worked_72 : decode cX12_worked 72 = .ok (.goto 257, 3) := by decide +kernel
theorem dX12_worked_75 : decode cX12_worked 75 = .ok (.iload 4, 2) := by decide +kernel
theorem dX12_worked_77 : decode cX12_worked 77 = .ok (.bipush 20, 2) := by decide +kernel
theorem dX12_worked_79 : decode cX12_worked 79 = .ok (.if_icmp .eq 10, 3) := by decide +kernel
theorem dX12_worked_82 : decode cX12_worked 82 = .ok (.iload 4, 2) := by decide +kernel
theorem dX12_worked_84 : decode cX12_worked 84 = .ok (.bipush 21, 2) := by decide +kernel
theorem dX12_worked_86 : decode cX12_worked 86 = .ok (.if_icmp .ne 19, 3) := by decide +kernel
theorem dX12_worked_89 : decode cX12_worked 89 = .ok (.aload_n 0, 1) := by decide +kernel
theorem dX12_worked_90 : decode cX12_worked 90 = .ok (.iload_n 2, 1) := by decide +kernel
theorem dX12_worked_91 : decode cX12_worked 91 = .ok (.invokevirtual 204, 3) := by decide +kernel
theorem dX12_worked_94 : decode cX12_worked 94 = .ok (.aload_n 0, 1) := by decide +kernel
theorem dX12_worked_95 : decode cX12_worked 95 = .ok (.getfield 69, 3) := by decide +kernel
theorem dX12_worked_98 : decode cX12_worked 98 = .ok (.iload_n 2, 1) := by decide +kernel
theorem dX12_worked_99 : decode cX12_worked 99 = .ok (.iload 4, 2) := by decide +kernel
theorem dX12_worked_101 : decode cX12_worked 101 = .ok (.iastore, 1) := by decide +kernel
theorem dX12_worked_102 : decode cX12_worked 102 = .ok (.goto 227, 3) := by decide +kernel
theorem dX12_worked_105 : decode cX12_worked 105 = .ok (.iload 4, 2) := by decide +kernel
theorem dX12_worked_107 : decode cX12_worked 107 = .ok (.bipush 22, 2) := by decide +kernel
theorem dX12_worked_109 : decode cX12_worked 109 = .ok (.if_icmp .ne 14, 3) := by decide +kernel
theorem dX12_worked_112 : decode cX12_worked 112 = .ok (.aload_n 0, 1) := by decide +kernel
theorem dX12_worked_113 : decode cX12_worked 113 = .ok (.getfield 75, 3) := by decide +kernel
theorem dX12_worked_116 : decode cX12_worked 116 = .ok (.iload_n 2, 1) := by decide +kernel
theorem dX12_worked_117 : decode cX12_worked 117 = .ok (.iload 4, 2) := by decide +kernel
theorem dX12_worked_119 : decode cX12_worked 119 = .ok (.iastore, 1) := by decide +kernel
theorem dX12_worked_120 : decode cX12_worked 120 = .ok (.goto 209, 3) := by decide +kernel
theorem dX12_worked_123 : decode cX12_worked 123 = .ok (.iload 4, 2) := by decide +kernel
theorem dX12_worked_125 : decode cX12_worked 125 = .ok (.bipush 24, 2) := by decide +kernel
theorem dX12_worked_127 : decode cX12_worked 127 = .ok (.if_icmp .eq 10, 3) := by decide +kernel
theorem dX12_worked_130 : decode cX12_worked 130 = .ok (.iload 4, 2) := by decide +kernel
theorem dX12_worked_132 : decode cX12_worked 132 = .ok (.bipush 25, 2) := by decide +kernel
theorem dX12_worked_134 : decode cX12_worked 134 = .ok (.if_icmp .ne 46, 3) := by decide +kernel
theorem dX12_worked_137 : decode cX12_worked 137 = .ok (.aload_n 0, 1) := by decide +kernel
theorem dX12_worked_138 : decode cX12_worked 138 = .ok (.iload_n 2, 1) := by decide +kernel
theorem dX12_worked_139 : decode cX12_worked 139 = .ok (.invokevirtual 204, 3) := by decide +kernel
theorem dX12_worked_142 : decode cX12_worked 142 = .ok (.aload_n 0, 1) := by decide +kernel
theorem dX12_worked_143 : decode cX12_worked 143 = .ok (.getfield 60, 3) := by decide +kernel
theorem dX12_worked_146 : decode cX12_worked 146 = .ok (.iload_n 2, 1) := by decide +kernel
theorem dX12_worked_147 : decode cX12_worked 147 = .ok (.aload_n 0, 1) := by decide +kernel
theorem dX12_worked_148 : decode cX12_worked 148 = .ok (.getfield 66, 3) := by decide +kernel
theorem dX12_worked_151 : decode cX12_worked 151 = .ok (.iload_n 2, 1) := by decide +kernel
theorem dX12_worked_152 : decode cX12_worked 152 = .ok (.iaload, 1) := by decide +kernel
theorem dX12_worked_153 : decode cX12_worked 153 = .ok (.iastore, 1) := by decide +kernel
theorem dX12_worked_154 : decode cX12_worked 154 = .ok (.aload_n 0, 1) := by decide +kernel
theorem dX12_worked_155 : decode cX12_worked 155 = .ok (.getfield 63, 3) := by decide +kernel
theorem dX12_worked_158 : decode cX12_worked 158 = .ok (.iload_n 2, 1) := by decide +kernel
theorem dX12_worked_159 : decode cX12_worked 159 = .ok (.iload 4, 2) := by decide +kernel
theorem dX12_worked_161 : decode cX12_worked 161 = .ok (.iastore, 1) := by decide +kernel
theorem dX12_worked_162 : decode cX12_worked 162 = .ok (.aload_n 0, 1) := by decide +kernel
theorem dX12_worked_163 : decode cX12_worked 163 = .ok (.getfield 66, 3) := by decide +kernel
theorem dX12_worked_166 : decode cX12_worked 166 = .ok (.iload_n 2, 1) := by decide +kernel
theorem dX12_worked_167 : decode cX12_worked 167 = .ok (.iconst 0, 1) := by decide +kernel
theorem dX12_worked_168 : decode cX12_worked 168 = .ok (.iastore, 1) := by decide +kernel
theorem dX12_worked_169 : decode cX12_worked 169 = .ok (.aload_n 0, 1) := by decide +kernel
theorem dX12_worked_170 : decode cX12_worked 170 = .ok (.getfield 69, 3) := by decide +kernel
theorem dX12_worked_173 : decode cX12_worked 173 = .ok (.iload_n 2, 1) := by decide +kernel
theorem dX12_worked_174 : decode cX12_worked 174 = .ok (.bipush 20, 2) := by decide +kernel
theorem dX12_worked_176 : decode cX12_worked 176 = .ok (.iastore, 1) := by decide +kernel
theorem dX12_worked_177 : decode cX12_worked 177 = .ok (.goto 152, 3) := by decide +kernel
theorem dX12_worked_180 : decode cX12_worked 180 = .ok (.iload 4, 2) := by decide +kernel
theorem dX12_worked_182 : decode cX12_worked 182 = .ok (.bipush 26, 2) := by decide +kernel
theorem dX12_worked_184 : decode cX12_worked 184 = .ok (.if_icmp .eq 10, 3) := by decide +kernel
theorem dX12_worked_187 : decode cX12_worked 187 = .ok (.iload 4, 2) := by decide +kernel
theorem dX12_worked_189 : decode cX12_worked 189 = .ok (.bipush 27, 2) := by decide +kernel
theorem dX12_worked_191 : decode cX12_worked 191 = .ok (.if_icmp .ne 19, 3) := by decide +kernel
theorem dX12_worked_194 : decode cX12_worked 194 = .ok (.aload_n 0, 1) := by decide +kernel
theorem dX12_worked_195 : decode cX12_worked 195 = .ok (.iload_n 2, 1) := by decide +kernel
theorem dX12_worked_196 : decode cX12_worked 196 = .ok (.invokevirtual 210, 3) := by decide +kernel
theorem dX12_worked_199 : decode cX12_worked 199 = .ok (.aload_n 0, 1) := by decide +kernel
theorem dX12_worked_200 : decode cX12_worked 200 = .ok (.getfield 57, 3) := by decide +kernel
theorem dX12_worked_203 : decode cX12_worked 203 = .ok (.iload_n 2, 1) := by decide +kernel
theorem dX12_worked_204 : decode cX12_worked 204 = .ok (.iload 4, 2) := by decide +kernel
theorem dX12_worked_206 : decode cX12_worked 206 = .ok (.iastore, 1) := by decide +kernel
theorem dX12_worked_207 : decode cX12_worked 207 = .ok (.goto 122, 3) := by decide +kernel
theorem dX12_worked_210 : decode cX12_worked 210 = .ok (.iload 4, 2) := by decide +kernel
theorem dX12_worked_212 : decode cX12_worked 212 = .ok (.bipush 100, 2) := by decide +kernel
theorem dX12_worked_214 : decode cX12_worked 214 = .ok (.if_icmp .lt 11, 3) := by decide +kernel
theorem dX12_worked_217 : decode cX12_worked 217 = .ok (.iload 4, 2) := by decide +kernel
theorem dX12_worked_219 : decode cX12_worked 219 = .ok (.bipush 100, 2) := by decide +kernel
theorem dX12_worked_221 : decode cX12_worked 221 = .ok (.isub, 1) := by decide +kernel
theorem dX12_worked_222 : decode cX12_worked 222 = .ok (.goto 21, 3) := by decide +kernel
theorem dX12_worked_225 : decode cX12_worked 225 = .ok (.iload 4, 2) := by decide +kernel
theorem dX12_worked_227 : decode cX12_worked 227 = .ok (.bipush 20, 2) := by decide +kernel
theorem dX12_worked_229 : decode cX12_worked 229 = .ok (.if_icmp .ge 13, 3) := by decide +kernel
theorem dX12_worked_232 : decode cX12_worked 232 = .ok (.aload_n 0, 1) := by decide +kernel
theorem dX12_worked_233 : decode cX12_worked 233 = .ok (.getfield 81, 3) := by decide +kernel
theorem dX12_worked_236 : decode cX12_worked 236 = .ok (.iload 4, 2) := by decide +kernel
theorem dX12_worked_238 : decode cX12_worked 238 = .ok (.iaload, 1) := by decide +kernel
theorem dX12_worked_239 : decode cX12_worked 239 = .ok (.goto 4, 3) := by decide +kernel
theorem dX12_worked_242 : decode cX12_worked 242 = .ok (.iconst 0, 1) := by decide +kernel
theorem dX12_worked_243 : decode cX12_worked 243 = .ok (.istore 5, 2) := by decide +kernel
theorem dX12_worked_245 : decode cX12_worked 245 = .ok (.iload 4, 2) := by decide +kernel
theorem dX12_worked_247 : decode cX12_worked 247 = .ok (.bipush 29, 2) := by decide +kernel
theorem dX12_worked_249 : decode cX12_worked 249 = .ok (.if_icmp .ne 19, 3) := by decide +kernel
theorem dX12_worked_252 : decode cX12_worked 252 = .ok (.aload_n 0, 1) := by decide +kernel
theorem dX12_worked_253 : decode cX12_worked 253 = .ok (.iload_n 2, 1) := by decide +kernel
theorem dX12_worked_254 : decode cX12_worked 254 = .ok (.invokevirtual 210, 3) := by decide +kernel
theorem dX12_worked_257 : decode cX12_worked 257 = .ok (.aload_n 0, 1) := by decide +kernel
theorem dX12_worked_258 : decode cX12_worked 258 = .ok (.getfield 54, 3) := by decide +kernel
theorem dX12_worked_261 : decode cX12_worked 261 = .ok (.iload_n 2, 1) := by decide +kernel
theorem dX12_worked_262 : decode cX12_worked 262 = .ok (.iaload, 1) := by decide +kernel
theorem dX12_worked_263 : decode cX12_worked 263 = .ok (.istore 5, 2) := by decide +kernel
theorem dX12_worked_265 : decode cX12_worked 265 = .ok (.iinc 2 (-1), 3) := by decide +kernel
theorem dX12_worked_268 : decode cX12_worked 268 = .ok (.iload_n 2, 1) := by decide +kernel
theorem dX12_worked_269 : decode cX12_worked 269 = .ok (.ifCond .le 31, 3) := by decide +kernel
theorem dX12_worked_272 : decode cX12_worked 272 = .ok (.aload_n 0, 1) := by decide +kernel
theorem dX12_worked_273 : decode cX12_worked 273 = .ok (.getfield 78, 3) := by decide +kernel
theorem dX12_worked_276 : decode cX12_worked 276 = .ok (.iload_n 2, 1) := by decide +kernel
theorem dX12_worked_277 : decode cX12_worked 277 = .ok (.iaload, 1) := by decide +kernel
theorem dX12_worked_278 : decode cX12_worked 278 = .ok (.iconst 1, 1) := by decide +kernel
theorem dX12_worked_279 : decode cX12_worked 279 = .ok (.if_icmp .ne 21, 3) := by decide +kernel
theorem dX12_worked_282 : decode cX12_worked 282 = .ok (.iload 5, 2) := by decide +kernel
theorem dX12_worked_284 : decode cX12_worked 284 = .ok (.ifCond .ne 7, 3) := by decide +kernel
theorem dX12_worked_287 : decode cX12_worked 287 = .ok (.iconst 1, 1) := by decide +kernel
theorem dX12_worked_288 : decode cX12_worked 288 = .ok (.goto 4, 3) := by decide +kernel
theorem dX12_worked_291 : decode cX12_worked 291 = .ok (.iconst 0, 1) := by decide +kernel
theorem dX12_worked_292 : decode cX12_worked 292 = .ok (.istore 5, 2) := by decide +kernel
theorem dX12_worked_294 : decode cX12_worked 294 = .ok (.iinc 2 (-1), 3) := by decide +kernel
theorem dX12_worked_297 : decode cX12_worked 297 = .ok (.goto (-29), 3) := by decide +kernel
theorem dX12_worked_300 : decode cX12_worked 300 = .ok (.aload_n 0, 1) := by decide +kernel
theorem dX12_worked_301 : decode cX12_worked 301 = .ok (.getfield 72, 3) := by decide +kernel
theorem dX12_worked_304 : decode cX12_worked 304 = .ok (.iload_n 2, 1) := by decide +kernel
theorem dX12_worked_305 : decode cX12_worked 305 = .ok (.aload_n 0, 1) := by decide +kernel
theorem dX12_worked_306 : decode cX12_worked 306 = .ok (.getfield 75, 3) := by decide +kernel
theorem dX12_worked_309 : decode cX12_worked 309 = .ok (.iload_n 2, 1) := by decide +kernel
theorem dX12_worked_310 : decode cX12_worked 310 = .ok (.iaload, 1) := by decide +kernel
theorem dX12_worked_311 : decode cX12_worked 311 = .ok (.ifCond .ne 8, 3) := by decide +kernel
theorem dX12_worked_314 : decode cX12_worked 314 = .ok (.iload 5, 2) := by decide +kernel
theorem dX12_worked_316 : decode cX12_worked 316 = .ok (.goto 12, 3) := by decide +kernel
theorem dX12_worked_319 : decode cX12_worked 319 = .ok (.aload_n 0, 1) := by decide +kernel
theorem dX12_worked_320 : decode cX12_worked 320 = .ok (.getfield 72, 3) := by decide +kernel
theorem dX12_worked_323 : decode cX12_worked 323 = .ok (.iload_n 2, 1) := by decide +kernel
theorem dX12_worked_324 : decode cX12_worked 324 = .ok (.iaload, 1) := by decide +kernel
theorem dX12_worked_325 : decode cX12_worked 325 = .ok (.iload 5, 2) := by decide +kernel
theorem dX12_worked_327 : decode cX12_worked 327 = .ok (.imul, 1) := by decide +kernel
theorem dX12_worked_328 : decode cX12_worked 328 = .ok (.iastore, 1) := by decide +kernel
theorem dX12_worked_329 : decode cX12_worked 329 = .ok (.iinc 3 1, 3) := by decide +kernel
theorem dX12_worked_332 : decode cX12_worked 332 = .ok (.goto (-318), 3) := by decide +kernel
theorem dX12_worked_335 : decode cX12_worked 335 = .ok (.aload_n 0, 1) := by decide +kernel
theorem dX12_worked_336 : decode cX12_worked 336 = .ok (.iconst 0, 1) := by decide +kernel
theorem dX12_worked_337 : decode cX12_worked 337 = .ok (.invokevirtual 210, 3) := by decide +kernel
theorem dX12_worked_340 : decode cX12_worked 340 = .ok (.aload_n 0, 1) := by decide +kernel
theorem dX12_worked_341 : decode cX12_worked 341 = .ok (.getfield 54, 3) := by decide +kernel
theorem dX12_worked_344 : decode cX12_worked 344 = .ok (.iconst 0, 1) := by decide +kernel
theorem dX12_worked_345 : decode cX12_worked 345 = .ok (.iaload, 1) := by decide +kernel
theorem dX12_worked_346 : decode cX12_worked 346 = .ok (.ireturn, 1) := by decide +kernel
def g_X12_worked_194 (t0 : Nat) (k14 : Int32 → Int32 → Int32 → zH → Option (Int32 × zH)) (x1 : Int32) (x2 : Int32) (x3 : Int32) (x4 : Int32) (h : zH) : Option (Int32 × zH) := (g_X12_tests h t0 x2).bind fun v_38 => zgu (zin x2 7) <| zlet (zpi v_38 (zR t0 26) (zx x2) x4) fun h_40 => k14 x1 x2 (x3 + 1) h_40
def g_X12_worked_137 (t0 : Nat) (k14 : Int32 → Int32 → Int32 → zH → Option (Int32 × zH)) (x1 : Int32) (x2 : Int32) (x3 : Int32) (x4 : Int32) (h : zH) : Option (Int32 × zH) := (g_X12_sums h t0 x2).bind fun v_28 => zgu (zin x2 7) <| zgu (zin x2 7) <| zlet (zpi v_28 (zR t0 27) (zx x2) (v_28.1 (zR t0 29) (zx x2))) fun h_31 => zgu (zin x2 7) <| zlet (zpi h_31 (zR t0 28) (zx x2) x4) fun h_33 => zgu (zin x2 7) <| zlet (zpi h_33 (zR t0 29) (zx x2) 0) fun h_35 => zgu (zin x2 7) <| zlet (zpi h_35 (zR t0 30) (zx x2) 20) fun h_37 => k14 x1 x2 (x3 + 1) h_37
def g_X12_worked_66 (t0 : Nat) (k14 : Int32 → Int32 → Int32 → zH → Option (Int32 × zH)) (x1 : Int32) (x2 : Int32) (x3 : Int32) (s0 : Int32) (s1 : Int32) (h : zH) : Option (Int32 × zH) := zgu (zin s1 7) <| zlet (zpi h (zR t0 33) (zx s1) s0) fun h_46 => (g_X12_opens h_46 t0 x2).bind fun v_47 => k14 x1 x2 (x3 + 1) v_47
def g_X12_worked_46 (t0 : Nat) (k14 : Int32 → Int32 → Int32 → zH → Option (Int32 × zH)) (x1 : Int32) (x2 : Int32) (x3 : Int32) (x4 : Int32) (h : zH) : Option (Int32 × zH) := if x4 = 30 then (g_X12_worked_66 t0 k14 x1 (x2 + 1) x3 1 (x2 + 1) h) else (g_X12_worked_66 t0 k14 x1 (x2 + 1) x3 0 (x2 + 1) h)
def g_X12_worked_328 (t0 : Nat) (k14 : Int32 → Int32 → Int32 → zH → Option (Int32 × zH)) (x1 : Int32) (x2 : Int32) (x3 : Int32) (s0 : Int32) (s1 : Int32) (h : zH) : Option (Int32 × zH) := zgu (zin s1 7) <| zlet (zpi h (zR t0 31) (zx s1) s0) fun h_56 => k14 x1 x2 (x3 + 1) h_56
def g_X12_worked_300 (t0 : Nat) (k14 : Int32 → Int32 → Int32 → zH → Option (Int32 × zH)) (x1 : Int32) (x2 : Int32) (x3 : Int32) (x5 : Int32) (h : zH) : Option (Int32 × zH) := zgu (zin x2 7) <| if (h.1 (zR t0 32) (zx x2)) = 0 then (g_X12_worked_328 t0 k14 x1 x2 x3 x5 x2 h) else (zgu (zin x2 7) <| g_X12_worked_328 t0 k14 x1 x2 x3 ((h.1 (zR t0 31) (zx x2)) * x5) x2 h)
def g_X12_worked_268 (t0 : Nat) (k14 : Int32 → Int32 → Int32 → zH → Option (Int32 × zH)) : Nat → Int32 → Int32 → Int32 → Int32 → zH → Option (Int32 × zH)
  | 0, _, _, _, _, _ => none
  | n + 1, x1, x2, x3, x5, h => if x2 ≤ 0 then (g_X12_worked_300 t0 k14 x1 x2 x3 x5 h) else (zgu (zin x2 7) <| if (h.1 (zR t0 33) (zx x2)) = 1 then (if x5 = 0 then (g_X12_worked_268 t0 k14 n x1 (x2 + (-1)) x3 1 h) else (g_X12_worked_268 t0 k14 n x1 (x2 + (-1)) x3 0 h)) else (g_X12_worked_300 t0 k14 x1 x2 x3 x5 h))
def g_X12_worked_243 (t0 : Nat) (k14 : Int32 → Int32 → Int32 → zH → Option (Int32 × zH)) (x1 : Int32) (x2 : Int32) (x3 : Int32) (x4 : Int32) (s0 : Int32) (h : zH) : Option (Int32 × zH) := if x4 = 29 then ((g_X12_tests h t0 x2).bind fun v_42 => zgu (zin x2 7) <| zlet (v_42.1 (zR t0 25) (zx x2)) fun v_44 => g_X12_worked_268 t0 k14 zfu x1 (x2 + (-1)) x3 v_44 v_42) else (g_X12_worked_268 t0 k14 zfu x1 x2 x3 s0 h)
def g_X12_worked_89 (t0 : Nat) (k14 : Int32 → Int32 → Int32 → zH → Option (Int32 × zH)) (x1 : Int32) (x2 : Int32) (x3 : Int32) (x4 : Int32) (h : zH) : Option (Int32 × zH) := (g_X12_sums h t0 x2).bind fun v_25 => zgu (zin x2 7) <| zlet (zpi v_25 (zR t0 30) (zx x2) x4) fun h_27 => k14 x1 x2 (x3 + 1) h_27
def g_X12_worked_14 (t0 : Nat)  : Nat → Int32 → Int32 → Int32 → zH → Option (Int32 × zH)
  | 0, _, _, _, _ => none
  | n + 1, x1, x2, x3, h => zgu (zin x1 4) <| if (h.1 (zR t0 19) (zx x1)) ≤ x3 then ((g_X12_tests h t0 0).bind fun v_6 => zgu (zin 0 7) <| some (v_6.1 (zR t0 25) (zx 0), v_6)) else (zgu (zin x3 2000) <| zlet (h.1 (zR t0 20) (zx x3)) fun v_9 => if v_9 = 28 then (g_X12_worked_46 t0 (g_X12_worked_14 t0 n) x1 x2 x3 v_9 h) else (if v_9 = 30 then (g_X12_worked_46 t0 (g_X12_worked_14 t0 n) x1 x2 x3 v_9 h) else (if v_9 = 20 then (g_X12_worked_89 t0 (g_X12_worked_14 t0 n) x1 x2 x3 v_9 h) else (if v_9 = 21 then (g_X12_worked_89 t0 (g_X12_worked_14 t0 n) x1 x2 x3 v_9 h) else (if v_9 = 22 then (zgu (zin x2 7) <| zlet (zpi h (zR t0 32) (zx x2) v_9) fun h_23 => g_X12_worked_14 t0 n x1 x2 (x3 + 1) h_23) else (if v_9 = 24 then (g_X12_worked_137 t0 (g_X12_worked_14 t0 n) x1 x2 x3 v_9 h) else (if v_9 = 25 then (g_X12_worked_137 t0 (g_X12_worked_14 t0 n) x1 x2 x3 v_9 h) else (if v_9 = 26 then (g_X12_worked_194 t0 (g_X12_worked_14 t0 n) x1 x2 x3 v_9 h) else (if v_9 = 27 then (g_X12_worked_194 t0 (g_X12_worked_14 t0 n) x1 x2 x3 v_9 h) else (if v_9 < 100 then (if 20 ≤ v_9 then (g_X12_worked_243 t0 (g_X12_worked_14 t0 n) x1 x2 x3 v_9 0 h) else (zgu (zin v_9 20) <| g_X12_worked_243 t0 (g_X12_worked_14 t0 n) x1 x2 x3 v_9 (h.1 (zR t0 34) (zx v_9)) h)) else (g_X12_worked_243 t0 (g_X12_worked_14 t0 n) x1 x2 x3 v_9 (v_9 - 100) h)))))))))))
def g_X12_worked (h : zH) (t0 : Nat) (x1 : Int32) : Option (Int32 × zH) := (g_X12_opens h t0 0).bind fun v_1 => zgu (zin x1 4) <| zlet (v_1.1 (zR t0 18) (zx x1)) fun v_3 => g_X12_worked_14 t0 zfu x1 0 v_3 v_1
set_option maxRecDepth 100000 in
set_option maxHeartbeats 4000000 in
theorem b_X12_worked_194 {K : zK} {G : zG} (hK : zC K G cX12_worked RX12 6 2 43 (some .int)) {t0 : Nat} (ht0 : zT t0 = (11, 0)) {r : Int32 × zH} (hE : zE K G (some (.int r.1)) r.2) {k14 : Int32 → Int32 → Int32 → zH → Option (Int32 × zH)} (hk14 : ∀ (x1 : Int32) (x2 : Int32) (x3 : Int32) (h : zH), k14 x1 x2 x3 h = some r → zW K G 6 14 [(0, .ref (G.2.2.2 t0)), (1, .int x1), (2, .int x2), (3, .int x3)] [] h) (x1 : Int32) (x2 : Int32) (x3 : Int32) (x4 : Int32) (h : zH) (hg : g_X12_worked_194 t0 k14 x1 x2 x3 x4 h = some r) : zW K G 6 194 [(0, .ref (G.2.2.2 t0)), (1, .int x1), (2, .int x2), (3, .int x3), (4, .int x4)] [] h := by
  rw [g_X12_worked_194] at hg
  obtain ⟨v_38, qv_38, hg⟩ := zbind_some hg
  obtain ⟨c_39, hg⟩ := zgu_some hg
  obtain ⟨h_40, eh_40, hg⟩ := zlet_some hg
  exact z_aload_n (pc := 194) hK 0 dX12_worked_194 rfl (z_iload_n (pc := 195) hK 2 dX12_worked_195 rfl (z_callVv (pc := 196) hK [.int x2] (m_X12_tests (zC_D hK) ht0 qv_38) sv_X12_tests q_1699 ht0 rfl [] rfl (Nat.le_of_ble_eq_true rfl) ⟨by decide, by decide⟩ dX12_worked_196 (z_aload_n (pc := 199) hK 0 dX12_worked_199 rfl (z_getR (pc := 200) hK f_X12_57_11 ht0 dX12_worked_200 (z_iload_n (pc := 203) hK 2 dX12_worked_203 rfl (z_iload (pc := 204) hK 4 dX12_worked_204 rfl (z_iast (pc := 206) hK (zt_11_26 ht0) c_39 dX12_worked_206 (z_nameH eh_40 (z_goto (pc := 207) hK 329 dX12_worked_207 (by decide) (z_iinc (pc := 329) hK 3 (lv' := [(3, .int (x3 + 1)), (0, .ref (G.2.2.2 t0)), (1, .int x1), (2, .int x2), (4, .int x4)]) dX12_worked_329 rfl (zc_n1 _) (by decide) rfl (z_goto (pc := 332) hK 14 dX12_worked_332 (by decide) (zsub (lv' := [(0, .ref (G.2.2.2 t0)), (1, .int x1), (2, .int x2), (3, .int (x3 + 1))]) [1, 2, 3, 0] rfl (hk14 x1 x2 (x3 + 1) h_40 hg)))))))))))))
set_option maxRecDepth 100000 in
set_option maxHeartbeats 4000000 in
theorem b_X12_worked_137 {K : zK} {G : zG} (hK : zC K G cX12_worked RX12 6 2 43 (some .int)) {t0 : Nat} (ht0 : zT t0 = (11, 0)) {r : Int32 × zH} (hE : zE K G (some (.int r.1)) r.2) {k14 : Int32 → Int32 → Int32 → zH → Option (Int32 × zH)} (hk14 : ∀ (x1 : Int32) (x2 : Int32) (x3 : Int32) (h : zH), k14 x1 x2 x3 h = some r → zW K G 6 14 [(0, .ref (G.2.2.2 t0)), (1, .int x1), (2, .int x2), (3, .int x3)] [] h) (x1 : Int32) (x2 : Int32) (x3 : Int32) (x4 : Int32) (h : zH) (hg : g_X12_worked_137 t0 k14 x1 x2 x3 x4 h = some r) : zW K G 6 137 [(0, .ref (G.2.2.2 t0)), (1, .int x1), (2, .int x2), (3, .int x3), (4, .int x4)] [] h := by
  rw [g_X12_worked_137] at hg
  obtain ⟨v_28, qv_28, hg⟩ := zbind_some hg
  obtain ⟨c_29, hg⟩ := zgu_some hg
  obtain ⟨c_30, hg⟩ := zgu_some hg
  obtain ⟨h_31, eh_31, hg⟩ := zlet_some hg
  obtain ⟨c_32, hg⟩ := zgu_some hg
  obtain ⟨h_33, eh_33, hg⟩ := zlet_some hg
  obtain ⟨c_34, hg⟩ := zgu_some hg
  obtain ⟨h_35, eh_35, hg⟩ := zlet_some hg
  obtain ⟨c_36, hg⟩ := zgu_some hg
  obtain ⟨h_37, eh_37, hg⟩ := zlet_some hg
  exact z_aload_n (pc := 137) hK 0 dX12_worked_137 rfl (z_iload_n (pc := 138) hK 2 dX12_worked_138 rfl (z_callVv (pc := 139) hK [.int x2] (m_X12_sums (zC_D hK) ht0 qv_28) sv_X12_sums q_1695 ht0 rfl [] rfl (Nat.le_of_ble_eq_true rfl) ⟨by decide, by decide⟩ dX12_worked_139 (z_aload_n (pc := 142) hK 0 dX12_worked_142 rfl (z_getR (pc := 143) hK f_X12_60_11 ht0 dX12_worked_143 (z_iload_n (pc := 146) hK 2 dX12_worked_146 rfl (z_aload_n (pc := 147) hK 0 dX12_worked_147 rfl (z_getR (pc := 148) hK f_X12_66_11 ht0 dX12_worked_148 (z_iload_n (pc := 151) hK 2 dX12_worked_151 rfl (z_iald (pc := 152) hK (zt_11_29 ht0) c_29 dX12_worked_152 (z_iast (pc := 153) hK (zt_11_27 ht0) c_30 dX12_worked_153 (z_nameH eh_31 (z_aload_n (pc := 154) hK 0 dX12_worked_154 rfl (z_getR (pc := 155) hK f_X12_63_11 ht0 dX12_worked_155 (z_iload_n (pc := 158) hK 2 dX12_worked_158 rfl (z_iload (pc := 159) hK 4 dX12_worked_159 rfl (z_iast (pc := 161) hK (zt_11_28 ht0) c_32 dX12_worked_161 (z_nameH eh_33 (z_aload_n (pc := 162) hK 0 dX12_worked_162 rfl (z_getR (pc := 163) hK f_X12_66_11 ht0 dX12_worked_163 (z_iload_n (pc := 166) hK 2 dX12_worked_166 rfl (z_iconst (pc := 167) hK dX12_worked_167 zc_i0 (z_iast (pc := 168) hK (zt_11_29 ht0) c_34 dX12_worked_168 (z_nameH eh_35 (z_aload_n (pc := 169) hK 0 dX12_worked_169 rfl (z_getR (pc := 170) hK f_X12_69_11 ht0 dX12_worked_170 (z_iload_n (pc := 173) hK 2 dX12_worked_173 rfl (z_bipush (pc := 174) hK dX12_worked_174 zc_b20 (z_iast (pc := 176) hK (zt_11_30 ht0) c_36 dX12_worked_176 (z_nameH eh_37 (z_goto (pc := 177) hK 329 dX12_worked_177 (by decide) (z_iinc (pc := 329) hK 3 (lv' := [(3, .int (x3 + 1)), (0, .ref (G.2.2.2 t0)), (1, .int x1), (2, .int x2), (4, .int x4)]) dX12_worked_329 rfl (zc_n1 _) (by decide) rfl (z_goto (pc := 332) hK 14 dX12_worked_332 (by decide) (zsub (lv' := [(0, .ref (G.2.2.2 t0)), (1, .int x1), (2, .int x2), (3, .int (x3 + 1))]) [1, 2, 3, 0] rfl (hk14 x1 x2 (x3 + 1) h_37 hg))))))))))))))))))))))))))))))))))
set_option maxRecDepth 100000 in
set_option maxHeartbeats 4000000 in
theorem b_X12_worked_66 {K : zK} {G : zG} (hK : zC K G cX12_worked RX12 6 2 43 (some .int)) {t0 : Nat} (ht0 : zT t0 = (11, 0)) {r : Int32 × zH} (hE : zE K G (some (.int r.1)) r.2) {k14 : Int32 → Int32 → Int32 → zH → Option (Int32 × zH)} (hk14 : ∀ (x1 : Int32) (x2 : Int32) (x3 : Int32) (h : zH), k14 x1 x2 x3 h = some r → zW K G 6 14 [(0, .ref (G.2.2.2 t0)), (1, .int x1), (2, .int x2), (3, .int x3)] [] h) (x1 : Int32) (x2 : Int32) (x3 : Int32) (s0 : Int32) (s1 : Int32) (h : zH) (hg : g_X12_worked_66 t0 k14 x1 x2 x3 s0 s1 h = some r) : zW K G 6 66 [(0, .ref (G.2.2.2 t0)), (1, .int x1), (2, .int x2), (3, .int x3)] [.int s0, .int s1, .ref (G.2.2.2 (zR t0 33))] h := by
  rw [g_X12_worked_66] at hg
  obtain ⟨c_45, hg⟩ := zgu_some hg
  obtain ⟨h_46, eh_46, hg⟩ := zlet_some hg
  obtain ⟨v_47, qv_47, hg⟩ := zbind_some hg
  exact z_iast (pc := 66) hK (zt_11_33 ht0) c_45 dX12_worked_66 (z_nameH eh_46 (z_aload_n (pc := 67) hK 0 dX12_worked_67 rfl (z_iload_n (pc := 68) hK 2 dX12_worked_68 rfl (z_callVv (pc := 69) hK [.int x2] (m_X12_opens (zC_D hK) ht0 qv_47) sv_X12_opens q_1691 ht0 rfl [] rfl (Nat.le_of_ble_eq_true rfl) ⟨by decide, by decide⟩ dX12_worked_69 (z_goto (pc := 72) hK 329 dX12_worked_72 (by decide) (z_iinc (pc := 329) hK 3 (lv' := [(3, .int (x3 + 1)), (0, .ref (G.2.2.2 t0)), (1, .int x1), (2, .int x2)]) dX12_worked_329 rfl (zc_n1 _) (by decide) rfl (z_goto (pc := 332) hK 14 dX12_worked_332 (by decide) (zsub (lv' := [(0, .ref (G.2.2.2 t0)), (1, .int x1), (2, .int x2), (3, .int (x3 + 1))]) [1, 2, 3, 0] rfl (hk14 x1 x2 (x3 + 1) v_47 hg)))))))))
set_option maxRecDepth 100000 in
set_option maxHeartbeats 4000000 in
theorem b_X12_worked_46 {K : zK} {G : zG} (hK : zC K G cX12_worked RX12 6 2 43 (some .int)) {t0 : Nat} (ht0 : zT t0 = (11, 0)) {r : Int32 × zH} (hE : zE K G (some (.int r.1)) r.2) {k14 : Int32 → Int32 → Int32 → zH → Option (Int32 × zH)} (hk14 : ∀ (x1 : Int32) (x2 : Int32) (x3 : Int32) (h : zH), k14 x1 x2 x3 h = some r → zW K G 6 14 [(0, .ref (G.2.2.2 t0)), (1, .int x1), (2, .int x2), (3, .int x3)] [] h) (x1 : Int32) (x2 : Int32) (x3 : Int32) (x4 : Int32) (h : zH) (hg : g_X12_worked_46 t0 k14 x1 x2 x3 x4 h = some r) : zW K G 6 46 [(0, .ref (G.2.2.2 t0)), (1, .int x1), (2, .int x2), (3, .int x3), (4, .int x4)] [] h := by
  rw [g_X12_worked_46] at hg
  refine z_iinc (pc := 46) hK 2 (lv' := [(2, .int (x2 + 1)), (0, .ref (G.2.2.2 t0)), (1, .int x1), (3, .int x3), (4, .int x4)]) dX12_worked_46 rfl (zc_n1 _) (by decide) rfl (z_aload_n (pc := 49) hK 1 dX12_worked_49 rfl (z_getR (pc := 50) hK f_X12_78_11 ht0 dX12_worked_50 (z_iload_n (pc := 53) hK 0 dX12_worked_53 rfl (z_iload (pc := 54) hK 4 dX12_worked_54 rfl (z_bipush (pc := 56) hK dX12_worked_56 zc_b30 (z_icmp_ne (pc := 58) hK 65 dX12_worked_58 (by decide) (fun c_24 => ?_) (fun c_24 => ?_)))))))
  · rw [if_neg c_24] at hg
    exact z_iconst (pc := 65) hK dX12_worked_65 zc_i0 (zsub (lv' := [(0, .ref (G.2.2.2 t0)), (1, .int x1), (2, .int (x2 + 1)), (3, .int x3)]) [1, 2, 0, 3] rfl (b_X12_worked_66 hK ht0 hE hk14 x1 (x2 + 1) x3 0 (x2 + 1) h hg))
  · rw [if_pos c_24] at hg
    exact z_iconst (pc := 61) hK dX12_worked_61 zc_i1 (z_goto (pc := 62) hK 66 dX12_worked_62 (by decide) (zsub (lv' := [(0, .ref (G.2.2.2 t0)), (1, .int x1), (2, .int (x2 + 1)), (3, .int x3)]) [1, 2, 0, 3] rfl (b_X12_worked_66 hK ht0 hE hk14 x1 (x2 + 1) x3 1 (x2 + 1) h hg)))
set_option maxRecDepth 100000 in
set_option maxHeartbeats 4000000 in
theorem b_X12_worked_328 {K : zK} {G : zG} (hK : zC K G cX12_worked RX12 6 2 43 (some .int)) {t0 : Nat} (ht0 : zT t0 = (11, 0)) {r : Int32 × zH} (hE : zE K G (some (.int r.1)) r.2) {k14 : Int32 → Int32 → Int32 → zH → Option (Int32 × zH)} (hk14 : ∀ (x1 : Int32) (x2 : Int32) (x3 : Int32) (h : zH), k14 x1 x2 x3 h = some r → zW K G 6 14 [(0, .ref (G.2.2.2 t0)), (1, .int x1), (2, .int x2), (3, .int x3)] [] h) (x1 : Int32) (x2 : Int32) (x3 : Int32) (s0 : Int32) (s1 : Int32) (h : zH) (hg : g_X12_worked_328 t0 k14 x1 x2 x3 s0 s1 h = some r) : zW K G 6 328 [(0, .ref (G.2.2.2 t0)), (1, .int x1), (2, .int x2), (3, .int x3)] [.int s0, .int s1, .ref (G.2.2.2 (zR t0 31))] h := by
  rw [g_X12_worked_328] at hg
  obtain ⟨c_55, hg⟩ := zgu_some hg
  obtain ⟨h_56, eh_56, hg⟩ := zlet_some hg
  exact z_iast (pc := 328) hK (zt_11_31 ht0) c_55 dX12_worked_328 (z_nameH eh_56 (z_iinc (pc := 329) hK 3 (lv' := [(3, .int (x3 + 1)), (0, .ref (G.2.2.2 t0)), (1, .int x1), (2, .int x2)]) dX12_worked_329 rfl (zc_n1 _) (by decide) rfl (z_goto (pc := 332) hK 14 dX12_worked_332 (by decide) (zsub (lv' := [(0, .ref (G.2.2.2 t0)), (1, .int x1), (2, .int x2), (3, .int (x3 + 1))]) [1, 2, 3, 0] rfl (hk14 x1 x2 (x3 + 1) h_56 hg)))))
set_option maxRecDepth 100000 in
set_option maxHeartbeats 4000000 in
theorem b_X12_worked_300 {K : zK} {G : zG} (hK : zC K G cX12_worked RX12 6 2 43 (some .int)) {t0 : Nat} (ht0 : zT t0 = (11, 0)) {r : Int32 × zH} (hE : zE K G (some (.int r.1)) r.2) {k14 : Int32 → Int32 → Int32 → zH → Option (Int32 × zH)} (hk14 : ∀ (x1 : Int32) (x2 : Int32) (x3 : Int32) (h : zH), k14 x1 x2 x3 h = some r → zW K G 6 14 [(0, .ref (G.2.2.2 t0)), (1, .int x1), (2, .int x2), (3, .int x3)] [] h) (x1 : Int32) (x2 : Int32) (x3 : Int32) (x5 : Int32) (h : zH) (hg : g_X12_worked_300 t0 k14 x1 x2 x3 x5 h = some r) : zW K G 6 300 [(0, .ref (G.2.2.2 t0)), (1, .int x1), (2, .int x2), (3, .int x3), (5, .int x5)] [] h := by
  rw [g_X12_worked_300] at hg
  obtain ⟨c_52, hg⟩ := zgu_some hg
  refine z_aload_n (pc := 300) hK 0 dX12_worked_300 rfl (z_getR (pc := 301) hK f_X12_72_11 ht0 dX12_worked_301 (z_iload_n (pc := 304) hK 2 dX12_worked_304 rfl (z_aload_n (pc := 305) hK 0 dX12_worked_305 rfl (z_getR (pc := 306) hK f_X12_75_11 ht0 dX12_worked_306 (z_iload_n (pc := 309) hK 2 dX12_worked_309 rfl (z_iald (pc := 310) hK (zt_11_32 ht0) c_52 dX12_worked_310 (z_if_ne (pc := 311) hK 319 dX12_worked_311 (by decide) (fun c_53 => ?_) (fun c_53 => ?_))))))))
  · rw [if_neg c_53] at hg
    obtain ⟨c_54, hg⟩ := zgu_some hg
    exact z_aload_n (pc := 319) hK 0 dX12_worked_319 rfl (z_getR (pc := 320) hK f_X12_72_11 ht0 dX12_worked_320 (z_iload_n (pc := 323) hK 2 dX12_worked_323 rfl (z_iald (pc := 324) hK (zt_11_31 ht0) c_54 dX12_worked_324 (z_iload (pc := 325) hK 4 dX12_worked_325 rfl (z_imul (pc := 327) hK dX12_worked_327 (zsub (lv' := [(0, .ref (G.2.2.2 t0)), (1, .int x1), (2, .int x2), (3, .int x3)]) [0, 1, 2, 3] rfl (b_X12_worked_328 hK ht0 hE hk14 x1 x2 x3 ((h.1 (zR t0 31) (zx x2)) * x5) x2 h hg)))))))
  · rw [if_pos c_53] at hg
    exact z_iload (pc := 314) hK 4 dX12_worked_314 rfl (z_goto (pc := 316) hK 328 dX12_worked_316 (by decide) (zsub (lv' := [(0, .ref (G.2.2.2 t0)), (1, .int x1), (2, .int x2), (3, .int x3)]) [0, 1, 2, 3] rfl (b_X12_worked_328 hK ht0 hE hk14 x1 x2 x3 x5 x2 h hg)))
set_option maxRecDepth 100000 in
set_option maxHeartbeats 4000000 in
theorem b_X12_worked_268 {K : zK} {G : zG} (hK : zC K G cX12_worked RX12 6 2 43 (some .int)) {t0 : Nat} (ht0 : zT t0 = (11, 0)) {r : Int32 × zH} (hE : zE K G (some (.int r.1)) r.2) {k14 : Int32 → Int32 → Int32 → zH → Option (Int32 × zH)} (hk14 : ∀ (x1 : Int32) (x2 : Int32) (x3 : Int32) (h : zH), k14 x1 x2 x3 h = some r → zW K G 6 14 [(0, .ref (G.2.2.2 t0)), (1, .int x1), (2, .int x2), (3, .int x3)] [] h) : ∀ (n : Nat) (x1 : Int32) (x2 : Int32) (x3 : Int32) (x5 : Int32) (h : zH), g_X12_worked_268 t0 k14 n x1 x2 x3 x5 h = some r → zW K G 6 268 [(0, .ref (G.2.2.2 t0)), (1, .int x1), (2, .int x2), (3, .int x3), (5, .int x5)] [] h := by
  intro n
  induction n with
  | zero => intro x1 x2 x3 x5 h hg; exact nomatch (show none = some r from hg)
  | succ n ih =>
    intro x1 x2 x3 x5 h hg
    rw [g_X12_worked_268] at hg
    refine z_iload_n (pc := 268) hK 2 dX12_worked_268 rfl (z_if_le (pc := 269) hK 300 dX12_worked_269 (by decide) (fun c_48 => ?_) (fun c_48 => ?_))
    · rw [if_pos c_48] at hg
      exact zsub (lv' := [(0, .ref (G.2.2.2 t0)), (1, .int x1), (2, .int x2), (3, .int x3), (5, .int x5)]) [0, 1, 2, 3, 4] rfl (b_X12_worked_300 hK ht0 hE hk14 x1 x2 x3 x5 h hg)
    · rw [if_neg c_48] at hg
      obtain ⟨c_49, hg⟩ := zgu_some hg
      refine z_aload_n (pc := 272) hK 0 dX12_worked_272 rfl (z_getR (pc := 273) hK f_X12_78_11 ht0 dX12_worked_273 (z_iload_n (pc := 276) hK 2 dX12_worked_276 rfl (z_iald (pc := 277) hK (zt_11_33 ht0) c_49 dX12_worked_277 (z_iconst (pc := 278) hK dX12_worked_278 zc_i1 (z_icmp_ne (pc := 279) hK 300 dX12_worked_279 (by decide) (fun c_50 => ?_) (fun c_50 => ?_))))))
      · rw [if_neg c_50] at hg
        exact zsub (lv' := [(0, .ref (G.2.2.2 t0)), (1, .int x1), (2, .int x2), (3, .int x3), (5, .int x5)]) [0, 1, 2, 3, 4] rfl (b_X12_worked_300 hK ht0 hE hk14 x1 x2 x3 x5 h hg)
      · rw [if_pos c_50] at hg
        refine z_iload (pc := 282) hK 4 dX12_worked_282 rfl (z_if_ne (pc := 284) hK 291 dX12_worked_284 (by decide) (fun c_51 => ?_) (fun c_51 => ?_))
        · rw [if_neg c_51] at hg
          exact z_iconst (pc := 291) hK dX12_worked_291 zc_i0 (z_istore (pc := 292) hK (lv' := [(5, .int 0), (0, .ref (G.2.2.2 t0)), (1, .int x1), (2, .int x2), (3, .int x3)]) dX12_worked_292 (by decide) rfl (z_iinc (pc := 294) hK 3 (lv' := [(2, .int (x2 + (-1))), (5, .int 0), (0, .ref (G.2.2.2 t0)), (1, .int x1), (3, .int x3)]) dX12_worked_294 rfl (zc_nm1 _) (by decide) rfl (z_goto (pc := 297) hK 268 dX12_worked_297 (by decide) (zsub (lv' := [(0, .ref (G.2.2.2 t0)), (1, .int x1), (2, .int (x2 + (-1))), (3, .int x3), (5, .int 0)]) [2, 3, 0, 4, 1] rfl (ih x1 (x2 + (-1)) x3 0 h hg)))))
        · rw [if_pos c_51] at hg
          exact z_iconst (pc := 287) hK dX12_worked_287 zc_i1 (z_goto (pc := 288) hK 292 dX12_worked_288 (by decide) (z_istore (pc := 292) hK (lv' := [(5, .int 1), (0, .ref (G.2.2.2 t0)), (1, .int x1), (2, .int x2), (3, .int x3)]) dX12_worked_292 (by decide) rfl (z_iinc (pc := 294) hK 3 (lv' := [(2, .int (x2 + (-1))), (5, .int 1), (0, .ref (G.2.2.2 t0)), (1, .int x1), (3, .int x3)]) dX12_worked_294 rfl (zc_nm1 _) (by decide) rfl (z_goto (pc := 297) hK 268 dX12_worked_297 (by decide) (zsub (lv' := [(0, .ref (G.2.2.2 t0)), (1, .int x1), (2, .int (x2 + (-1))), (3, .int x3), (5, .int 1)]) [2, 3, 0, 4, 1] rfl (ih x1 (x2 + (-1)) x3 1 h hg))))))
set_option maxRecDepth 100000 in
set_option maxHeartbeats 4000000 in
theorem b_X12_worked_243 {K : zK} {G : zG} (hK : zC K G cX12_worked RX12 6 2 43 (some .int)) {t0 : Nat} (ht0 : zT t0 = (11, 0)) {r : Int32 × zH} (hE : zE K G (some (.int r.1)) r.2) {k14 : Int32 → Int32 → Int32 → zH → Option (Int32 × zH)} (hk14 : ∀ (x1 : Int32) (x2 : Int32) (x3 : Int32) (h : zH), k14 x1 x2 x3 h = some r → zW K G 6 14 [(0, .ref (G.2.2.2 t0)), (1, .int x1), (2, .int x2), (3, .int x3)] [] h) (x1 : Int32) (x2 : Int32) (x3 : Int32) (x4 : Int32) (s0 : Int32) (h : zH) (hg : g_X12_worked_243 t0 k14 x1 x2 x3 x4 s0 h = some r) : zW K G 6 243 [(0, .ref (G.2.2.2 t0)), (1, .int x1), (2, .int x2), (3, .int x3), (4, .int x4)] [.int s0] h := by
  rw [g_X12_worked_243] at hg
  refine z_istore (pc := 243) hK (lv' := [(5, .int s0), (0, .ref (G.2.2.2 t0)), (1, .int x1), (2, .int x2), (3, .int x3), (4, .int x4)]) dX12_worked_243 (by decide) rfl (z_iload (pc := 245) hK 5 dX12_worked_245 rfl (z_bipush (pc := 247) hK dX12_worked_247 zc_b29 (z_icmp_ne (pc := 249) hK 268 dX12_worked_249 (by decide) (fun c_41 => ?_) (fun c_41 => ?_))))
  · rw [if_neg c_41] at hg
    exact zsub (lv' := [(0, .ref (G.2.2.2 t0)), (1, .int x1), (2, .int x2), (3, .int x3), (5, .int s0)]) [1, 2, 3, 4, 0] rfl (b_X12_worked_268 hK ht0 hE hk14 zfu x1 x2 x3 s0 h hg)
  · rw [if_pos c_41] at hg
    obtain ⟨v_42, qv_42, hg⟩ := zbind_some hg
    obtain ⟨c_43, hg⟩ := zgu_some hg
    obtain ⟨v_44, ev_44, hg⟩ := zlet_some hg
    exact z_aload_n (pc := 252) hK 1 dX12_worked_252 rfl (z_iload_n (pc := 253) hK 3 dX12_worked_253 rfl (z_callVv (pc := 254) hK [.int x2] (m_X12_tests (zC_D hK) ht0 qv_42) sv_X12_tests q_1699 ht0 rfl [] rfl (Nat.le_of_ble_eq_true rfl) ⟨by decide, by decide⟩ dX12_worked_254 (z_aload_n (pc := 257) hK 1 dX12_worked_257 rfl (z_getR (pc := 258) hK f_X12_54_11 ht0 dX12_worked_258 (z_iload_n (pc := 261) hK 3 dX12_worked_261 rfl (z_iald (pc := 262) hK (zt_11_25 ht0) c_43 dX12_worked_262 (z_nameI ev_44 (z_istore (pc := 263) hK (lv' := [(5, .int v_44), (0, .ref (G.2.2.2 t0)), (1, .int x1), (2, .int x2), (3, .int x3), (4, .int x4)]) dX12_worked_263 (by decide) rfl (z_iinc (pc := 265) hK 3 (lv' := [(2, .int (x2 + (-1))), (5, .int v_44), (0, .ref (G.2.2.2 t0)), (1, .int x1), (3, .int x3), (4, .int x4)]) dX12_worked_265 rfl (zc_nm1 _) (by decide) rfl (zsub (lv' := [(0, .ref (G.2.2.2 t0)), (1, .int x1), (2, .int (x2 + (-1))), (3, .int x3), (5, .int v_44)]) [2, 3, 0, 4, 1] rfl (b_X12_worked_268 hK ht0 hE hk14 zfu x1 (x2 + (-1)) x3 v_44 v_42 hg)))))))))))
set_option maxRecDepth 100000 in
set_option maxHeartbeats 4000000 in
theorem b_X12_worked_89 {K : zK} {G : zG} (hK : zC K G cX12_worked RX12 6 2 43 (some .int)) {t0 : Nat} (ht0 : zT t0 = (11, 0)) {r : Int32 × zH} (hE : zE K G (some (.int r.1)) r.2) {k14 : Int32 → Int32 → Int32 → zH → Option (Int32 × zH)} (hk14 : ∀ (x1 : Int32) (x2 : Int32) (x3 : Int32) (h : zH), k14 x1 x2 x3 h = some r → zW K G 6 14 [(0, .ref (G.2.2.2 t0)), (1, .int x1), (2, .int x2), (3, .int x3)] [] h) (x1 : Int32) (x2 : Int32) (x3 : Int32) (x4 : Int32) (h : zH) (hg : g_X12_worked_89 t0 k14 x1 x2 x3 x4 h = some r) : zW K G 6 89 [(0, .ref (G.2.2.2 t0)), (1, .int x1), (2, .int x2), (3, .int x3), (4, .int x4)] [] h := by
  rw [g_X12_worked_89] at hg
  obtain ⟨v_25, qv_25, hg⟩ := zbind_some hg
  obtain ⟨c_26, hg⟩ := zgu_some hg
  obtain ⟨h_27, eh_27, hg⟩ := zlet_some hg
  exact z_aload_n (pc := 89) hK 0 dX12_worked_89 rfl (z_iload_n (pc := 90) hK 2 dX12_worked_90 rfl (z_callVv (pc := 91) hK [.int x2] (m_X12_sums (zC_D hK) ht0 qv_25) sv_X12_sums q_1695 ht0 rfl [] rfl (Nat.le_of_ble_eq_true rfl) ⟨by decide, by decide⟩ dX12_worked_91 (z_aload_n (pc := 94) hK 0 dX12_worked_94 rfl (z_getR (pc := 95) hK f_X12_69_11 ht0 dX12_worked_95 (z_iload_n (pc := 98) hK 2 dX12_worked_98 rfl (z_iload (pc := 99) hK 4 dX12_worked_99 rfl (z_iast (pc := 101) hK (zt_11_30 ht0) c_26 dX12_worked_101 (z_nameH eh_27 (z_goto (pc := 102) hK 329 dX12_worked_102 (by decide) (z_iinc (pc := 329) hK 3 (lv' := [(3, .int (x3 + 1)), (0, .ref (G.2.2.2 t0)), (1, .int x1), (2, .int x2), (4, .int x4)]) dX12_worked_329 rfl (zc_n1 _) (by decide) rfl (z_goto (pc := 332) hK 14 dX12_worked_332 (by decide) (zsub (lv' := [(0, .ref (G.2.2.2 t0)), (1, .int x1), (2, .int x2), (3, .int (x3 + 1))]) [1, 2, 3, 0] rfl (hk14 x1 x2 (x3 + 1) h_27 hg)))))))))))))
set_option maxRecDepth 100000 in
set_option maxHeartbeats 4000000 in
theorem b_X12_worked_14 {K : zK} {G : zG} (hK : zC K G cX12_worked RX12 6 2 43 (some .int)) {t0 : Nat} (ht0 : zT t0 = (11, 0)) {r : Int32 × zH} (hE : zE K G (some (.int r.1)) r.2) : ∀ (n : Nat) (x1 : Int32) (x2 : Int32) (x3 : Int32) (h : zH), g_X12_worked_14 t0 n x1 x2 x3 h = some r → zW K G 6 14 [(0, .ref (G.2.2.2 t0)), (1, .int x1), (2, .int x2), (3, .int x3)] [] h := by
  intro n
  induction n with
  | zero => intro x1 x2 x3 h hg; exact nomatch (show none = some r from hg)
  | succ n ih =>
    intro x1 x2 x3 h hg
    rw [g_X12_worked_14] at hg
    obtain ⟨c_4, hg⟩ := zgu_some hg
    refine z_iload_n (pc := 14) hK 3 dX12_worked_14 rfl (z_aload_n (pc := 15) hK 0 dX12_worked_15 rfl (z_getR (pc := 16) hK f_X12_42_11 ht0 dX12_worked_16 (z_iload_n (pc := 19) hK 1 dX12_worked_19 rfl (z_iald (pc := 20) hK (zt_11_19 ht0) c_4 dX12_worked_20 (z_icmp_ge (pc := 21) hK 335 dX12_worked_21 (by decide) (fun c_5 => ?_) (fun c_5 => ?_))))))
    · rw [if_pos c_5] at hg
      obtain ⟨v_6, qv_6, hg⟩ := zbind_some hg
      obtain ⟨c_7, hg⟩ := zgu_some hg
      exact z_aload_n (pc := 335) hK 0 dX12_worked_335 rfl (z_iconst (pc := 336) hK dX12_worked_336 zc_i0 (z_callVv (pc := 337) hK [.int 0] (m_X12_tests (zC_D hK) ht0 qv_6) sv_X12_tests q_1699 ht0 rfl [] rfl (Nat.le_of_ble_eq_true rfl) ⟨by decide, by decide⟩ dX12_worked_337 (z_aload_n (pc := 340) hK 0 dX12_worked_340 rfl (z_getR (pc := 341) hK f_X12_54_11 ht0 dX12_worked_341 (z_iconst (pc := 344) hK dX12_worked_344 zc_i0 (z_iald (pc := 345) hK (zt_11_25 ht0) c_7 dX12_worked_345 (z_iretE (pc := 346) hK hE hg dX12_worked_346)))))))
    · rw [if_neg c_5] at hg
      obtain ⟨c_8, hg⟩ := zgu_some hg
      obtain ⟨v_9, ev_9, hg⟩ := zlet_some hg
      refine z_aload_n (pc := 24) hK 0 dX12_worked_24 rfl (z_getR (pc := 25) hK f_X12_45_11 ht0 dX12_worked_25 (z_iload_n (pc := 28) hK 3 dX12_worked_28 rfl (z_iald (pc := 29) hK (zt_11_20 ht0) c_8 dX12_worked_29 (z_nameI ev_9 (z_istore (pc := 30) hK (lv' := [(4, .int v_9), (0, .ref (G.2.2.2 t0)), (1, .int x1), (2, .int x2), (3, .int x3)]) dX12_worked_30 (by decide) rfl (z_iload (pc := 32) hK 0 dX12_worked_32 rfl (z_bipush (pc := 34) hK dX12_worked_34 zc_b28 (z_icmp_eq (pc := 36) hK 46 dX12_worked_36 (by decide) (fun c_10 => ?_) (fun c_10 => ?_)))))))))
      · rw [if_pos c_10] at hg
        exact zsub (lv' := [(0, .ref (G.2.2.2 t0)), (1, .int x1), (2, .int x2), (3, .int x3), (4, .int v_9)]) [1, 2, 3, 4, 0] rfl (b_X12_worked_46 hK ht0 hE ih x1 x2 x3 v_9 h hg)
      · rw [if_neg c_10] at hg
        refine z_iload (pc := 39) hK 0 dX12_worked_39 rfl (z_bipush (pc := 41) hK dX12_worked_41 zc_b30 (z_icmp_ne (pc := 43) hK 75 dX12_worked_43 (by decide) (fun c_11 => ?_) (fun c_11 => ?_)))
        · rw [if_neg c_11] at hg
          refine z_iload (pc := 75) hK 0 dX12_worked_75 rfl (z_bipush (pc := 77) hK dX12_worked_77 zc_b20 (z_icmp_eq (pc := 79) hK 89 dX12_worked_79 (by decide) (fun c_12 => ?_) (fun c_12 => ?_)))
          · rw [if_pos c_12] at hg
            exact zsub (lv' := [(0, .ref (G.2.2.2 t0)), (1, .int x1), (2, .int x2), (3, .int x3), (4, .int v_9)]) [1, 2, 3, 4, 0] rfl (b_X12_worked_89 hK ht0 hE ih x1 x2 x3 v_9 h hg)
          · rw [if_neg c_12] at hg
            refine z_iload (pc := 82) hK 0 dX12_worked_82 rfl (z_bipush (pc := 84) hK dX12_worked_84 zc_b21 (z_icmp_ne (pc := 86) hK 105 dX12_worked_86 (by decide) (fun c_13 => ?_) (fun c_13 => ?_)))
            · rw [if_neg c_13] at hg
              refine z_iload (pc := 105) hK 0 dX12_worked_105 rfl (z_bipush (pc := 107) hK dX12_worked_107 zc_b22 (z_icmp_ne (pc := 109) hK 123 dX12_worked_109 (by decide) (fun c_14 => ?_) (fun c_14 => ?_)))
              · rw [if_neg c_14] at hg
                refine z_iload (pc := 123) hK 0 dX12_worked_123 rfl (z_bipush (pc := 125) hK dX12_worked_125 zc_b24 (z_icmp_eq (pc := 127) hK 137 dX12_worked_127 (by decide) (fun c_15 => ?_) (fun c_15 => ?_)))
                · rw [if_pos c_15] at hg
                  exact zsub (lv' := [(0, .ref (G.2.2.2 t0)), (1, .int x1), (2, .int x2), (3, .int x3), (4, .int v_9)]) [1, 2, 3, 4, 0] rfl (b_X12_worked_137 hK ht0 hE ih x1 x2 x3 v_9 h hg)
                · rw [if_neg c_15] at hg
                  refine z_iload (pc := 130) hK 0 dX12_worked_130 rfl (z_bipush (pc := 132) hK dX12_worked_132 zc_b25 (z_icmp_ne (pc := 134) hK 180 dX12_worked_134 (by decide) (fun c_16 => ?_) (fun c_16 => ?_)))
                  · rw [if_neg c_16] at hg
                    refine z_iload (pc := 180) hK 0 dX12_worked_180 rfl (z_bipush (pc := 182) hK dX12_worked_182 zc_b26 (z_icmp_eq (pc := 184) hK 194 dX12_worked_184 (by decide) (fun c_17 => ?_) (fun c_17 => ?_)))
                    · rw [if_pos c_17] at hg
                      exact zsub (lv' := [(0, .ref (G.2.2.2 t0)), (1, .int x1), (2, .int x2), (3, .int x3), (4, .int v_9)]) [1, 2, 3, 4, 0] rfl (b_X12_worked_194 hK ht0 hE ih x1 x2 x3 v_9 h hg)
                    · rw [if_neg c_17] at hg
                      refine z_iload (pc := 187) hK 0 dX12_worked_187 rfl (z_bipush (pc := 189) hK dX12_worked_189 zc_b27 (z_icmp_ne (pc := 191) hK 210 dX12_worked_191 (by decide) (fun c_18 => ?_) (fun c_18 => ?_)))
                      · rw [if_neg c_18] at hg
                        refine z_iload (pc := 210) hK 0 dX12_worked_210 rfl (z_bipush (pc := 212) hK dX12_worked_212 zc_b100 (z_icmp_lt (pc := 214) hK 225 dX12_worked_214 (by decide) (fun c_19 => ?_) (fun c_19 => ?_)))
                        · rw [if_pos c_19] at hg
                          refine z_iload (pc := 225) hK 0 dX12_worked_225 rfl (z_bipush (pc := 227) hK dX12_worked_227 zc_b20 (z_icmp_ge (pc := 229) hK 242 dX12_worked_229 (by decide) (fun c_20 => ?_) (fun c_20 => ?_)))
                          · rw [if_pos c_20] at hg
                            exact z_iconst (pc := 242) hK dX12_worked_242 zc_i0 (zsub (lv' := [(0, .ref (G.2.2.2 t0)), (1, .int x1), (2, .int x2), (3, .int x3), (4, .int v_9)]) [1, 2, 3, 4, 0] rfl (b_X12_worked_243 hK ht0 hE ih x1 x2 x3 v_9 0 h hg))
                          · rw [if_neg c_20] at hg
                            obtain ⟨c_21, hg⟩ := zgu_some hg
                            exact z_aload_n (pc := 232) hK 1 dX12_worked_232 rfl (z_getR (pc := 233) hK f_X12_81_11 ht0 dX12_worked_233 (z_iload (pc := 236) hK 0 dX12_worked_236 rfl (z_iald (pc := 238) hK (zt_11_34 ht0) c_21 dX12_worked_238 (z_goto (pc := 239) hK 243 dX12_worked_239 (by decide) (zsub (lv' := [(0, .ref (G.2.2.2 t0)), (1, .int x1), (2, .int x2), (3, .int x3), (4, .int v_9)]) [1, 2, 3, 4, 0] rfl (b_X12_worked_243 hK ht0 hE ih x1 x2 x3 v_9 (h.1 (zR t0 34) (zx v_9)) h hg))))))
                        · rw [if_neg c_19] at hg
                          exact z_iload (pc := 217) hK 0 dX12_worked_217 rfl (z_bipush (pc := 219) hK dX12_worked_219 zc_b100 (z_isub (pc := 221) hK dX12_worked_221 (z_goto (pc := 222) hK 243 dX12_worked_222 (by decide) (zsub (lv' := [(0, .ref (G.2.2.2 t0)), (1, .int x1), (2, .int x2), (3, .int x3), (4, .int v_9)]) [1, 2, 3, 4, 0] rfl (b_X12_worked_243 hK ht0 hE ih x1 x2 x3 v_9 (v_9 - 100) h hg)))))
                      · rw [if_pos c_18] at hg
                        exact zsub (lv' := [(0, .ref (G.2.2.2 t0)), (1, .int x1), (2, .int x2), (3, .int x3), (4, .int v_9)]) [1, 2, 3, 4, 0] rfl (b_X12_worked_194 hK ht0 hE ih x1 x2 x3 v_9 h hg)
                  · rw [if_pos c_16] at hg
                    exact zsub (lv' := [(0, .ref (G.2.2.2 t0)), (1, .int x1), (2, .int x2), (3, .int x3), (4, .int v_9)]) [1, 2, 3, 4, 0] rfl (b_X12_worked_137 hK ht0 hE ih x1 x2 x3 v_9 h hg)
              · rw [if_pos c_14] at hg
                obtain ⟨c_22, hg⟩ := zgu_some hg
                obtain ⟨h_23, eh_23, hg⟩ := zlet_some hg
                exact z_aload_n (pc := 112) hK 1 dX12_worked_112 rfl (z_getR (pc := 113) hK f_X12_75_11 ht0 dX12_worked_113 (z_iload_n (pc := 116) hK 3 dX12_worked_116 rfl (z_iload (pc := 117) hK 0 dX12_worked_117 rfl (z_iast (pc := 119) hK (zt_11_32 ht0) c_22 dX12_worked_119 (z_nameH eh_23 (z_goto (pc := 120) hK 329 dX12_worked_120 (by decide) (z_iinc (pc := 329) hK 4 (lv' := [(3, .int (x3 + 1)), (4, .int v_9), (0, .ref (G.2.2.2 t0)), (1, .int x1), (2, .int x2)]) dX12_worked_329 rfl (zc_n1 _) (by decide) rfl (z_goto (pc := 332) hK 14 dX12_worked_332 (by decide) (zsub (lv' := [(0, .ref (G.2.2.2 t0)), (1, .int x1), (2, .int x2), (3, .int (x3 + 1))]) [2, 3, 4, 0] rfl (ih x1 x2 (x3 + 1) h_23 hg))))))))))
            · rw [if_pos c_13] at hg
              exact zsub (lv' := [(0, .ref (G.2.2.2 t0)), (1, .int x1), (2, .int x2), (3, .int x3), (4, .int v_9)]) [1, 2, 3, 4, 0] rfl (b_X12_worked_89 hK ht0 hE ih x1 x2 x3 v_9 h hg)
        · rw [if_pos c_11] at hg
          exact zsub (lv' := [(0, .ref (G.2.2.2 t0)), (1, .int x1), (2, .int x2), (3, .int x3), (4, .int v_9)]) [1, 2, 3, 4, 0] rfl (b_X12_worked_46 hK ht0 hE ih x1 x2 x3 v_9 h hg)
set_option maxRecDepth 100000 in
set_option maxHeartbeats 4000000 in
theorem b_X12_worked {K : zK} {G : zG} (hK : zC K G cX12_worked RX12 6 2 43 (some .int)) {h : zH} {t0 : Nat} {x1 : Int32} (ht0 : zT t0 = (11, 0)) {r : Int32 × zH} (hE : zE K G (some (.int r.1)) r.2) (hg : g_X12_worked h t0 x1 = some r) : zW K G 6 0 [(0, .ref (G.2.2.2 t0)), (1, .int x1)] [] h := by
  rw [g_X12_worked] at hg
  obtain ⟨v_1, qv_1, hg⟩ := zbind_some hg
  obtain ⟨c_2, hg⟩ := zgu_some hg
  obtain ⟨v_3, ev_3, hg⟩ := zlet_some hg
  exact z_iconst (pc := 0) hK dX12_worked_0 zc_i0 (z_istore_n (pc := 1) hK (lv' := [(2, .int 0), (0, .ref (G.2.2.2 t0)), (1, .int x1)]) dX12_worked_1 (by decide) rfl (z_aload_n (pc := 2) hK 1 dX12_worked_2 rfl (z_iconst (pc := 3) hK dX12_worked_3 zc_i0 (z_callVv (pc := 4) hK [.int 0] (m_X12_opens (zC_D hK) ht0 qv_1) sv_X12_opens q_1691 ht0 rfl [] rfl (Nat.le_of_ble_eq_true rfl) ⟨by decide, by decide⟩ dX12_worked_4 (z_aload_n (pc := 7) hK 1 dX12_worked_7 rfl (z_getR (pc := 8) hK f_X12_39_11 ht0 dX12_worked_8 (z_iload_n (pc := 11) hK 2 dX12_worked_11 rfl (z_iald (pc := 12) hK (zt_11_18 ht0) c_2 dX12_worked_12 (z_nameI ev_3 (z_istore_n (pc := 13) hK (lv' := [(3, .int v_3), (2, .int 0), (0, .ref (G.2.2.2 t0)), (1, .int x1)]) dX12_worked_13 (by decide) rfl (zsub (lv' := [(0, .ref (G.2.2.2 t0)), (1, .int x1), (2, .int 0), (3, .int v_3)]) [2, 3, 1, 0] rfl (b_X12_worked_14 hK ht0 hE zfu x1 0 v_3 v_1 hg))))))))))))
theorem m_X12_worked {l : Launch} {G : zG} (hG : zD G) {h : zH} {t0 : Nat} {x1 : Int32} (ht0 : zT t0 = (11, 0)) {r : Int32 × zH} (hg : g_X12_worked h t0 x1 = some r) : zM l G yX12_worked cX12_worked 6 (some .int) 2 43 [.ref (G.2.2.2 t0), .int x1] h (some (.int r.1)) r.2 :=
  zM_of hG pn_X12 (Nat.le_of_ble_eq_true rfl) (fun K _ hK hE => b_X12_worked hK ht0 hE hg)
theorem dX12_isKept_0 : decode cX12_isKept 0 = .ok (.aload_n 0, 1) := by decide +kernel
theorem dX12_isKept_1 : decode cX12_isKept 1 = .ok (.getfield 151, 3) := by decide +kernel
theorem dX12_isKept_4 : decode cX12_isKept 4 = .ok (.iconst 1, 1) := by decide +kernel
theorem dX12_isKept_5 : decode cX12_isKept 5 = .ok (.if_icmp .eq 5, 3) := by decide +kernel
theorem dX12_isKept_8 : decode cX12_isKept 8 = .ok (.iconst 1, 1) := by decide +kernel
theorem dX12_isKept_9 : decode cX12_isKept 9 = .ok (.ireturn, 1) := by decide +kernel
theorem dX12_isKept_10 : decode cX12_isKept 10 = .ok (.aload_n 0, 1) := by decide +kernel
theorem dX12_isKept_11 : decode cX12_isKept 11 = .ok (.getfield 144, 3) := by decide +kernel
theorem dX12_isKept_14 : decode cX12_isKept 14 = .ok (.ldc2_w 213, 3) := by decide +kernel
theorem dX12_isKept_17 : decode cX12_isKept 17 = .ok (.lcmp, 1) := by decide +kernel
theorem dX12_isKept_18 : decode cX12_isKept 18 = .ok (.ifCond .eq 278, 3) := by decide +kernel
theorem dX12_isKept_21 : decode cX12_isKept 21 = .ok (.aload_n 0, 1) := by decide +kernel
theorem dX12_isKept_22 : decode cX12_isKept 22 = .ok (.getfield 144, 3) := by decide +kernel
theorem dX12_isKept_25 : decode cX12_isKept 25 = .ok (.ldc2_w 215, 3) := by decide +kernel
theorem dX12_isKept_28 : decode cX12_isKept 28 = .ok (.lcmp, 1) := by decide +kernel
theorem dX12_isKept_29 : decode cX12_isKept 29 = .ok (.ifCond .eq 267, 3) := by decide +kernel
theorem dX12_isKept_32 : decode cX12_isKept 32 = .ok (.aload_n 0, 1) := by decide +kernel
theorem dX12_isKept_33 : decode cX12_isKept 33 = .ok (.getfield 144, 3) := by decide +kernel
theorem dX12_isKept_36 : decode cX12_isKept 36 = .ok (.ldc2_w 217, 3) := by decide +kernel
theorem dX12_isKept_39 : decode cX12_isKept 39 = .ok (.lcmp, 1) := by decide +kernel
theorem dX12_isKept_40 : decode cX12_isKept 40 = .ok (.ifCond .eq 256, 3) := by decide +kernel
theorem dX12_isKept_43 : decode cX12_isKept 43 = .ok (.aload_n 0, 1) := by decide +kernel
theorem dX12_isKept_44 : decode cX12_isKept 44 = .ok (.getfield 144, 3) := by decide +kernel
theorem dX12_isKept_47 : decode cX12_isKept 47 = .ok (.ldc2_w 219, 3) := by decide +kernel
theorem dX12_isKept_50 : decode cX12_isKept 50 = .ok (.lcmp, 1) := by decide +kernel
theorem dX12_isKept_51 : decode cX12_isKept 51 = .ok (.ifCond .eq 245, 3) := by decide +kernel
theorem dX12_isKept_54 : decode cX12_isKept 54 = .ok (.aload_n 0, 1) := by decide +kernel
theorem dX12_isKept_55 : decode cX12_isKept 55 = .ok (.getfield 144, 3) := by decide +kernel
theorem dX12_isKept_58 : decode cX12_isKept 58 = .ok (.ldc2_w 221, 3) := by decide +kernel
theorem dX12_isKept_61 : decode cX12_isKept 61 = .ok (.lcmp, 1) := by decide +kernel
theorem dX12_isKept_62 : decode cX12_isKept 62 = .ok (.ifCond .eq 234, 3) := by decide +kernel
theorem dX12_isKept_65 : decode cX12_isKept 65 = .ok (.aload_n 0, 1) := by decide +kernel
theorem dX12_isKept_66 : decode cX12_isKept 66 = .ok (.getfield 144, 3) := by decide +kernel
theorem dX12_isKept_69 : decode cX12_isKept 69 = .ok (.ldc2_w 223, 3) := by decide +kernel
theorem dX12_isKept_72 : decode cX12_isKept 72 = .ok (.lcmp, 1) := by decide +kernel
theorem dX12_isKept_73 : decode cX12_isKept 73 = .ok (.ifCond .eq 223, 3) := by decide +kernel
theorem dX12_isKept_76 : decode cX12_isKept 76 = .ok (.aload_n 0, 1) := by decide +kernel
theorem dX12_isKept_77 : decode cX12_isKept 77 = .ok (.getfield 144, 3) := by decide +kernel
theorem dX12_isKept_80 : decode cX12_isKept 80 = .ok (.ldc2_w 225, 3) := by decide +kernel
theorem dX12_isKept_83 : decode cX12_isKept 83 = .ok (.lcmp, 1) := by decide +kernel
theorem dX12_isKept_84 : decode cX12_isKept 84 = .ok (.ifCond .eq 212, 3) := by decide +kernel
theorem dX12_isKept_87 : decode cX12_isKept 87 = .ok (.aload_n 0, 1) := by decide +kernel
theorem dX12_isKept_88 : decode cX12_isKept 88 = .ok (.getfield 144, 3) := by decide +kernel
theorem dX12_isKept_91 : decode cX12_isKept 91 = .ok (.ldc2_w 227, 3) := by decide +kernel
theorem dX12_isKept_94 : decode cX12_isKept 94 = .ok (.lcmp, 1) := by decide +kernel
theorem dX12_isKept_95 : decode cX12_isKept 95 = .ok (.ifCond .eq 201, 3) := by decide +kernel
theorem dX12_isKept_98 : decode cX12_isKept 98 = .ok (.aload_n 0, 1) := by decide +kernel
theorem dX12_isKept_99 : decode cX12_isKept 99 = .ok (.getfield 144, 3) := by decide +kernel
theorem dX12_isKept_102 : decode cX12_isKept 102 = .ok (.ldc2_w 229, 3) := by decide +kernel
theorem dX12_isKept_105 : decode cX12_isKept 105 = .ok (.lcmp, 1) := by decide +kernel
theorem dX12_isKept_106 : decode cX12_isKept 106 = .ok (.ifCond .eq 190, 3) := by decide +kernel
theorem dX12_isKept_109 : decode cX12_isKept 109 = .ok (.aload_n 0, 1) := by decide +kernel
theorem dX12_isKept_110 : decode cX12_isKept 110 = .ok (.getfield 144, 3) := by decide +kernel
theorem dX12_isKept_113 : decode cX12_isKept 113 = .ok (.ldc2_w 231, 3) := by decide +kernel
theorem dX12_isKept_116 : decode cX12_isKept 116 = .ok (.lcmp, 1) := by decide +kernel
theorem dX12_isKept_117 : decode cX12_isKept 117 = .ok (.ifCond .eq 179, 3) := by decide +kernel
theorem dX12_isKept_120 : decode cX12_isKept 120 = .ok (.aload_n 0, 1) := by decide +kernel
theorem dX12_isKept_121 : decode cX12_isKept 121 = .ok (.getfield 144, 3) := by decide +kernel
theorem dX12_isKept_124 : decode cX12_isKept 124 = .ok (.ldc2_w 233, 3) := by decide +kernel
theorem dX12_isKept_127 : decode cX12_isKept 127 = .ok (.lcmp, 1) := by decide +kernel
theorem dX12_isKept_128 : decode cX12_isKept 128 = .ok (.ifCond .eq 168, 3) := by decide +kernel
theorem dX12_isKept_131 : decode cX12_isKept 131 = .ok (.aload_n 0, 1) := by decide +kernel
theorem dX12_isKept_132 : decode cX12_isKept 132 = .ok (.getfield 144, 3) := by decide +kernel
theorem dX12_isKept_135 : decode cX12_isKept 135 = .ok (.ldc2_w 235, 3) := by decide +kernel
theorem dX12_isKept_138 : decode cX12_isKept 138 = .ok (.lcmp, 1) := by decide +kernel
theorem dX12_isKept_139 : decode cX12_isKept 139 = .ok (.ifCond .eq 157, 3) := by decide +kernel
theorem dX12_isKept_142 : decode cX12_isKept 142 = .ok (.aload_n 0, 1) := by decide +kernel
theorem dX12_isKept_143 : decode cX12_isKept 143 = .ok (.getfield 144, 3) := by decide +kernel
theorem dX12_isKept_146 : decode cX12_isKept 146 = .ok (.ldc2_w 237, 3) := by decide +kernel
theorem dX12_isKept_149 : decode cX12_isKept 149 = .ok (.lcmp, 1) := by decide +kernel
theorem dX12_isKept_150 : decode cX12_isKept 150 = .ok (.ifCond .eq 146, 3) := by decide +kernel
theorem dX12_isKept_153 : decode cX12_isKept 153 = .ok (.aload_n 0, 1) := by decide +kernel
theorem dX12_isKept_154 : decode cX12_isKept 154 = .ok (.getfield 144, 3) := by decide +kernel
theorem dX12_isKept_157 : decode cX12_isKept 157 = .ok (.ldc2_w 239, 3) := by decide +kernel
theorem dX12_isKept_160 : decode cX12_isKept 160 = .ok (.lcmp, 1) := by decide +kernel
theorem dX12_isKept_161 : decode cX12_isKept 161 = .ok (.ifCond .eq 135, 3) := by decide +kernel
theorem dX12_isKept_164 : decode cX12_isKept 164 = .ok (.aload_n 0, 1) := by decide +kernel
theorem dX12_isKept_165 : decode cX12_isKept 165 = .ok (.getfield 144, 3) := by decide +kernel
theorem dX12_isKept_168 : decode cX12_isKept 168 = .ok (.ldc2_w 241, 3) := by decide +kernel
theorem dX12_isKept_171 : decode cX12_isKept 171 = .ok (.lcmp, 1) := by decide +kernel
theorem dX12_isKept_172 : decode cX12_isKept 172 = .ok (.ifCond .eq 124, 3) := by decide +kernel
theorem dX12_isKept_175 : decode cX12_isKept 175 = .ok (.aload_n 0, 1) := by decide +kernel
theorem dX12_isKept_176 : decode cX12_isKept 176 = .ok (.getfield 144, 3) := by decide +kernel
theorem dX12_isKept_179 : decode cX12_isKept 179 = .ok (.ldc2_w 243, 3) := by decide +kernel
theorem dX12_isKept_182 : decode cX12_isKept 182 = .ok (.lcmp, 1) := by decide +kernel
theorem dX12_isKept_183 : decode cX12_isKept 183 = .ok (.ifCond .eq 113, 3) := by decide +kernel
theorem dX12_isKept_186 : decode cX12_isKept 186 = .ok (.aload_n 0, 1) := by decide +kernel
theorem dX12_isKept_187 : decode cX12_isKept 187 = .ok (.getfield 144, 3) := by decide +kernel
theorem dX12_isKept_190 : decode cX12_isKept 190 = .ok (.ldc2_w 245, 3) := by decide +kernel
theorem dX12_isKept_193 : decode cX12_isKept 193 = .ok (.lcmp, 1) := by decide +kernel
theorem dX12_isKept_194 : decode cX12_isKept 194 = .ok (.ifCond .eq 102, 3) := by decide +kernel
theorem dX12_isKept_197 : decode cX12_isKept 197 = .ok (.aload_n 0, 1) := by decide +kernel
theorem dX12_isKept_198 : decode cX12_isKept 198 = .ok (.getfield 144, 3) := by decide +kernel
theorem dX12_isKept_201 : decode cX12_isKept 201 = .ok (.ldc2_w 247, 3) := by decide +kernel
theorem dX12_isKept_204 : decode cX12_isKept 204 = .ok (.lcmp, 1) := by decide +kernel
theorem dX12_isKept_205 : decode cX12_isKept 205 = .ok (.ifCond .eq 91, 3) := by decide +kernel
theorem dX12_isKept_208 : decode cX12_isKept 208 = .ok (.aload_n 0, 1) := by decide +kernel
theorem dX12_isKept_209 : decode cX12_isKept 209 = .ok (.getfield 144, 3) := by decide +kernel
theorem dX12_isKept_212 : decode cX12_isKept 212 = .ok (.ldc2_w 249, 3) := by decide +kernel
theorem dX12_isKept_215 : decode cX12_isKept 215 = .ok (.lcmp, 1) := by decide +kernel
theorem dX12_isKept_216 : decode cX12_isKept 216 = .ok (.ifCond .eq 80, 3) := by decide +kernel
theorem dX12_isKept_219 : decode cX12_isKept 219 = .ok (.aload_n 0, 1) := by decide +kernel
theorem dX12_isKept_220 : decode cX12_isKept 220 = .ok (.getfield 144, 3) := by decide +kernel
theorem dX12_isKept_223 : decode cX12_isKept 223 = .ok (.ldc2_w 251, 3) := by decide +kernel
theorem dX12_isKept_226 : decode cX12_isKept 226 = .ok (.lcmp, 1) := by decide +kernel
theorem dX12_isKept_227 : decode cX12_isKept 227 = .ok (.ifCond .eq 69, 3) := by decide +kernel
theorem dX12_isKept_230 : decode cX12_isKept 230 = .ok (.aload_n 0, 1) := by decide +kernel
theorem dX12_isKept_231 : decode cX12_isKept 231 = .ok (.getfield 144, 3) := by decide +kernel
theorem dX12_isKept_234 : decode cX12_isKept 234 = .ok (.ldc2_w 253, 3) := by decide +kernel
theorem dX12_isKept_237 : decode cX12_isKept 237 = .ok (.lcmp, 1) := by decide +kernel
theorem dX12_isKept_238 : decode cX12_isKept 238 = .ok (.ifCond .eq 58, 3) := by decide +kernel
theorem dX12_isKept_241 : decode cX12_isKept 241 = .ok (.aload_n 0, 1) := by decide +kernel
theorem dX12_isKept_242 : decode cX12_isKept 242 = .ok (.getfield 144, 3) := by decide +kernel
theorem dX12_isKept_245 : decode cX12_isKept 245 = .ok (.ldc2_w 255, 3) := by decide +kernel
theorem dX12_isKept_248 : decode cX12_isKept 248 = .ok (.lcmp, 1) := by decide +kernel
theorem dX12_isKept_249 : decode cX12_isKept 249 = .ok (.ifCond .eq 47, 3) := by decide +kernel
theorem dX12_isKept_252 : decode cX12_isKept 252 = .ok (.aload_n 0, 1) := by decide +kernel
theorem dX12_isKept_253 : decode cX12_isKept 253 = .ok (.getfield 144, 3) := by decide +kernel
theorem dX12_isKept_256 : decode cX12_isKept 256 = .ok (.ldc2_w 257, 3) := by decide +kernel
theorem dX12_isKept_259 : decode cX12_isKept 259 = .ok (.lcmp, 1) := by decide +kernel
theorem dX12_isKept_260 : decode cX12_isKept 260 = .ok (.ifCond .eq 36, 3) := by decide +kernel
theorem dX12_isKept_263 : decode cX12_isKept 263 = .ok (.aload_n 0, 1) := by decide +kernel
theorem dX12_isKept_264 : decode cX12_isKept 264 = .ok (.getfield 144, 3) := by decide +kernel
theorem dX12_isKept_267 : decode cX12_isKept 267 = .ok (.ldc2_w 180, 3) := by decide +kernel
theorem dX12_isKept_270 : decode cX12_isKept 270 = .ok (.lcmp, 1) := by decide +kernel
theorem dX12_isKept_271 : decode cX12_isKept 271 = .ok (.ifCond .eq 25, 3) := by decide +kernel
theorem dX12_isKept_274 : decode cX12_isKept 274 = .ok (.aload_n 0, 1) := by decide +kernel
theorem dX12_isKept_275 : decode cX12_isKept 275 = .ok (.getfield 144, 3) := by decide +kernel
theorem dX12_isKept_278 : decode cX12_isKept 278 = .ok (.ldc2_w 200, 3) := by decide +kernel
theorem dX12_isKept_281 : decode cX12_isKept 281 = .ok (.lcmp, 1) := by decide +kernel
theorem dX12_isKept_282 : decode cX12_isKept 282 = .ok (.ifCond .eq 14, 3) := by decide +kernel
theorem dX12_isKept_285 : decode cX12_isKept 285 = .ok (.aload_n 0, 1) := by decide +kernel
theorem dX12_isKept_286 : decode cX12_isKept 286 = .ok (.getfield 144, 3) := by decide +kernel
theorem dX12_isKept_289 : decode cX12_isKept 289 = .ok (.ldc2_w 202, 3) := by decide +kernel
theorem dX12_isKept_292 : decode cX12_isKept 292 = .ok (.lcmp, 1) := by decide +kernel
theorem dX12_isKept_293 : decode cX12_isKept 293 = .ok (.ifCond .ne 7, 3) := by decide +kernel
theorem dX12_isKept_296 : decode cX12_isKept 296 = .ok (.iconst 1, 1) := by decide +kernel
theorem dX12_isKept_297 : decode cX12_isKept 297 = .ok (.goto 4, 3) := by decide +kernel
theorem dX12_isKept_300 : decode cX12_isKept 300 = .ok (.iconst 0, 1) := by decide +kernel
theorem dX12_isKept_301 : decode cX12_isKept 301 = .ok (.ireturn, 1) := by decide +kernel
def g_X12_isKept (h : zH) (t0 : Nat) : Option Bool := if (h.1 t0 6) = 1 then (if (lg_cmp (h.2 t0 7) 232608281) = 0 then (some true) else (if (lg_cmp (h.2 t0 7) 923) = 0 then (some true) else (if (lg_cmp (h.2 t0 7) 109240) = 0 then (some true) else (if (lg_cmp (h.2 t0 7) 110424740) = 0 then (some true) else (if (lg_cmp (h.2 t0 7) 161370) = 0 then (some true) else (if (lg_cmp (h.2 t0 7) 1503) = 0 then (some true) else (if (lg_cmp (h.2 t0 7) 82408) = 0 then (some true) else (if (lg_cmp (h.2 t0 7) 400375) = 0 then (some true) else (if (lg_cmp (h.2 t0 7) 4085956) = 0 then (some true) else (if (lg_cmp (h.2 t0 7) 2690893) = 0 then (some true) else (if (lg_cmp (h.2 t0 7) 14631) = 0 then (some true) else (if (lg_cmp (h.2 t0 7) 144524) = 0 then (some true) else (if (lg_cmp (h.2 t0 7) 60311) = 0 then (some true) else (if (lg_cmp (h.2 t0 7) 3164) = 0 then (some true) else (if (lg_cmp (h.2 t0 7) 2968) = 0 then (some true) else (if (lg_cmp (h.2 t0 7) 388609) = 0 then (some true) else (if (lg_cmp (h.2 t0 7) 6409157) = 0 then (some true) else (if (lg_cmp (h.2 t0 7) 11263) = 0 then (some true) else (if (lg_cmp (h.2 t0 7) 13596964) = 0 then (some true) else (if (lg_cmp (h.2 t0 7) 8740238) = 0 then (some true) else (if (lg_cmp (h.2 t0 7) 10124021) = 0 then (some true) else (if (lg_cmp (h.2 t0 7) 6257) = 0 then (some true) else (if (lg_cmp (h.2 t0 7) 117812495) = 0 then (some true) else (if (lg_cmp (h.2 t0 7) 10631) = 0 then (some true) else (if (lg_cmp (h.2 t0 7) 1111) = 0 then (some true) else (if (lg_cmp (h.2 t0 7) 423) = 0 then (some true) else (some false))))))))))))))))))))))))))) else (some true)
set_option maxRecDepth 100000 in
set_option maxHeartbeats 4000000 in
theorem b_X12_isKept {K : zK} {G : zG} (hK : zC K G cX12_isKept RX12 1 0 0 (some .boolean)) {h : zH} {t0 : Nat} (ht0 : zT t0 = (11, 0)) {r : Bool} (hE : zE K G (some (.int (zb r))) h) (hg : g_X12_isKept h t0 = some r) : zW K G 1 0 [(0, .ref (G.2.2.2 t0))] [] h := by
  rw [g_X12_isKept] at hg
  refine z_aload_n (pc := 0) hK 0 dX12_isKept_0 rfl (z_getI (pc := 1) hK f_X12_151_11 ht0 dX12_isKept_1 (z_iconst (pc := 4) hK dX12_isKept_4 zc_i1 (z_icmp_eq (pc := 5) hK 10 dX12_isKept_5 (by decide) (fun c_1 => ?_) (fun c_1 => ?_))))
  · rw [if_pos c_1] at hg
    refine z_aload_n (pc := 10) hK 0 dX12_isKept_10 rfl (z_getL (pc := 11) hK f_X12_144_11 ht0 dX12_isKept_11 (z_ldc2 (pc := 14) hK q_1484 dX12_isKept_14 (z_lcmp (pc := 17) hK dX12_isKept_17 (z_if_eq (pc := 18) hK 296 dX12_isKept_18 (by decide) (fun c_2 => ?_) (fun c_2 => ?_)))))
    · rw [if_pos c_2] at hg
      exact z_iconst (pc := 296) hK dX12_isKept_296 zc_i1 (z_goto (pc := 297) hK 301 dX12_isKept_297 (by decide) (z_zretP (pc := 301) hK rfl hE hg dX12_isKept_301))
    · rw [if_neg c_2] at hg
      refine z_aload_n (pc := 21) hK 0 dX12_isKept_21 rfl (z_getL (pc := 22) hK f_X12_144_11 ht0 dX12_isKept_22 (z_ldc2 (pc := 25) hK q_1501 dX12_isKept_25 (z_lcmp (pc := 28) hK dX12_isKept_28 (z_if_eq (pc := 29) hK 296 dX12_isKept_29 (by decide) (fun c_3 => ?_) (fun c_3 => ?_)))))
      · rw [if_pos c_3] at hg
        exact z_iconst (pc := 296) hK dX12_isKept_296 zc_i1 (z_goto (pc := 297) hK 301 dX12_isKept_297 (by decide) (z_zretP (pc := 301) hK rfl hE hg dX12_isKept_301))
      · rw [if_neg c_3] at hg
        refine z_aload_n (pc := 32) hK 0 dX12_isKept_32 rfl (z_getL (pc := 33) hK f_X12_144_11 ht0 dX12_isKept_33 (z_ldc2 (pc := 36) hK q_1502 dX12_isKept_36 (z_lcmp (pc := 39) hK dX12_isKept_39 (z_if_eq (pc := 40) hK 296 dX12_isKept_40 (by decide) (fun c_4 => ?_) (fun c_4 => ?_)))))
        · rw [if_pos c_4] at hg
          exact z_iconst (pc := 296) hK dX12_isKept_296 zc_i1 (z_goto (pc := 297) hK 301 dX12_isKept_297 (by decide) (z_zretP (pc := 301) hK rfl hE hg dX12_isKept_301))
        · rw [if_neg c_4] at hg
          refine z_aload_n (pc := 43) hK 0 dX12_isKept_43 rfl (z_getL (pc := 44) hK f_X12_144_11 ht0 dX12_isKept_44 (z_ldc2 (pc := 47) hK q_1503 dX12_isKept_47 (z_lcmp (pc := 50) hK dX12_isKept_50 (z_if_eq (pc := 51) hK 296 dX12_isKept_51 (by decide) (fun c_5 => ?_) (fun c_5 => ?_)))))
          · rw [if_pos c_5] at hg
            exact z_iconst (pc := 296) hK dX12_isKept_296 zc_i1 (z_goto (pc := 297) hK 301 dX12_isKept_297 (by decide) (z_zretP (pc := 301) hK rfl hE hg dX12_isKept_301))
          · rw [if_neg c_5] at hg
            refine z_aload_n (pc := 54) hK 0 dX12_isKept_54 rfl (z_getL (pc := 55) hK f_X12_144_11 ht0 dX12_isKept_55 (z_ldc2 (pc := 58) hK q_1504 dX12_isKept_58 (z_lcmp (pc := 61) hK dX12_isKept_61 (z_if_eq (pc := 62) hK 296 dX12_isKept_62 (by decide) (fun c_6 => ?_) (fun c_6 => ?_)))))
            · rw [if_pos c_6] at hg
              exact z_iconst (pc := 296) hK dX12_isKept_296 zc_i1 (z_goto (pc := 297) hK 301 dX12_isKept_297 (by decide) (z_zretP (pc := 301) hK rfl hE hg dX12_isKept_301))
            · rw [if_neg c_6] at hg
              refine z_aload_n (pc := 65) hK 0 dX12_isKept_65 rfl (z_getL (pc := 66) hK f_X12_144_11 ht0 dX12_isKept_66 (z_ldc2 (pc := 69) hK q_1505 dX12_isKept_69 (z_lcmp (pc := 72) hK dX12_isKept_72 (z_if_eq (pc := 73) hK 296 dX12_isKept_73 (by decide) (fun c_7 => ?_) (fun c_7 => ?_)))))
              · rw [if_pos c_7] at hg
                exact z_iconst (pc := 296) hK dX12_isKept_296 zc_i1 (z_goto (pc := 297) hK 301 dX12_isKept_297 (by decide) (z_zretP (pc := 301) hK rfl hE hg dX12_isKept_301))
              · rw [if_neg c_7] at hg
                refine z_aload_n (pc := 76) hK 0 dX12_isKept_76 rfl (z_getL (pc := 77) hK f_X12_144_11 ht0 dX12_isKept_77 (z_ldc2 (pc := 80) hK q_1506 dX12_isKept_80 (z_lcmp (pc := 83) hK dX12_isKept_83 (z_if_eq (pc := 84) hK 296 dX12_isKept_84 (by decide) (fun c_8 => ?_) (fun c_8 => ?_)))))
                · rw [if_pos c_8] at hg
                  exact z_iconst (pc := 296) hK dX12_isKept_296 zc_i1 (z_goto (pc := 297) hK 301 dX12_isKept_297 (by decide) (z_zretP (pc := 301) hK rfl hE hg dX12_isKept_301))
                · rw [if_neg c_8] at hg
                  refine z_aload_n (pc := 87) hK 0 dX12_isKept_87 rfl (z_getL (pc := 88) hK f_X12_144_11 ht0 dX12_isKept_88 (z_ldc2 (pc := 91) hK q_1507 dX12_isKept_91 (z_lcmp (pc := 94) hK dX12_isKept_94 (z_if_eq (pc := 95) hK 296 dX12_isKept_95 (by decide) (fun c_9 => ?_) (fun c_9 => ?_)))))
                  · rw [if_pos c_9] at hg
                    exact z_iconst (pc := 296) hK dX12_isKept_296 zc_i1 (z_goto (pc := 297) hK 301 dX12_isKept_297 (by decide) (z_zretP (pc := 301) hK rfl hE hg dX12_isKept_301))
                  · rw [if_neg c_9] at hg
                    refine z_aload_n (pc := 98) hK 0 dX12_isKept_98 rfl (z_getL (pc := 99) hK f_X12_144_11 ht0 dX12_isKept_99 (z_ldc2 (pc := 102) hK q_1508 dX12_isKept_102 (z_lcmp (pc := 105) hK dX12_isKept_105 (z_if_eq (pc := 106) hK 296 dX12_isKept_106 (by decide) (fun c_10 => ?_) (fun c_10 => ?_)))))
                    · rw [if_pos c_10] at hg
                      exact z_iconst (pc := 296) hK dX12_isKept_296 zc_i1 (z_goto (pc := 297) hK 301 dX12_isKept_297 (by decide) (z_zretP (pc := 301) hK rfl hE hg dX12_isKept_301))
                    · rw [if_neg c_10] at hg
                      refine z_aload_n (pc := 109) hK 0 dX12_isKept_109 rfl (z_getL (pc := 110) hK f_X12_144_11 ht0 dX12_isKept_110 (z_ldc2 (pc := 113) hK q_1509 dX12_isKept_113 (z_lcmp (pc := 116) hK dX12_isKept_116 (z_if_eq (pc := 117) hK 296 dX12_isKept_117 (by decide) (fun c_11 => ?_) (fun c_11 => ?_)))))
                      · rw [if_pos c_11] at hg
                        exact z_iconst (pc := 296) hK dX12_isKept_296 zc_i1 (z_goto (pc := 297) hK 301 dX12_isKept_297 (by decide) (z_zretP (pc := 301) hK rfl hE hg dX12_isKept_301))
                      · rw [if_neg c_11] at hg
                        refine z_aload_n (pc := 120) hK 0 dX12_isKept_120 rfl (z_getL (pc := 121) hK f_X12_144_11 ht0 dX12_isKept_121 (z_ldc2 (pc := 124) hK q_1510 dX12_isKept_124 (z_lcmp (pc := 127) hK dX12_isKept_127 (z_if_eq (pc := 128) hK 296 dX12_isKept_128 (by decide) (fun c_12 => ?_) (fun c_12 => ?_)))))
                        · rw [if_pos c_12] at hg
                          exact z_iconst (pc := 296) hK dX12_isKept_296 zc_i1 (z_goto (pc := 297) hK 301 dX12_isKept_297 (by decide) (z_zretP (pc := 301) hK rfl hE hg dX12_isKept_301))
                        · rw [if_neg c_12] at hg
                          refine z_aload_n (pc := 131) hK 0 dX12_isKept_131 rfl (z_getL (pc := 132) hK f_X12_144_11 ht0 dX12_isKept_132 (z_ldc2 (pc := 135) hK q_1511 dX12_isKept_135 (z_lcmp (pc := 138) hK dX12_isKept_138 (z_if_eq (pc := 139) hK 296 dX12_isKept_139 (by decide) (fun c_13 => ?_) (fun c_13 => ?_)))))
                          · rw [if_pos c_13] at hg
                            exact z_iconst (pc := 296) hK dX12_isKept_296 zc_i1 (z_goto (pc := 297) hK 301 dX12_isKept_297 (by decide) (z_zretP (pc := 301) hK rfl hE hg dX12_isKept_301))
                          · rw [if_neg c_13] at hg
                            refine z_aload_n (pc := 142) hK 0 dX12_isKept_142 rfl (z_getL (pc := 143) hK f_X12_144_11 ht0 dX12_isKept_143 (z_ldc2 (pc := 146) hK q_1512 dX12_isKept_146 (z_lcmp (pc := 149) hK dX12_isKept_149 (z_if_eq (pc := 150) hK 296 dX12_isKept_150 (by decide) (fun c_14 => ?_) (fun c_14 => ?_)))))
                            · rw [if_pos c_14] at hg
                              exact z_iconst (pc := 296) hK dX12_isKept_296 zc_i1 (z_goto (pc := 297) hK 301 dX12_isKept_297 (by decide) (z_zretP (pc := 301) hK rfl hE hg dX12_isKept_301))
                            · rw [if_neg c_14] at hg
                              refine z_aload_n (pc := 153) hK 0 dX12_isKept_153 rfl (z_getL (pc := 154) hK f_X12_144_11 ht0 dX12_isKept_154 (z_ldc2 (pc := 157) hK q_1513 dX12_isKept_157 (z_lcmp (pc := 160) hK dX12_isKept_160 (z_if_eq (pc := 161) hK 296 dX12_isKept_161 (by decide) (fun c_15 => ?_) (fun c_15 => ?_)))))
                              · rw [if_pos c_15] at hg
                                exact z_iconst (pc := 296) hK dX12_isKept_296 zc_i1 (z_goto (pc := 297) hK 301 dX12_isKept_297 (by decide) (z_zretP (pc := 301) hK rfl hE hg dX12_isKept_301))
                              · rw [if_neg c_15] at hg
                                refine z_aload_n (pc := 164) hK 0 dX12_isKept_164 rfl (z_getL (pc := 165) hK f_X12_144_11 ht0 dX12_isKept_165 (z_ldc2 (pc := 168) hK q_1514 dX12_isKept_168 (z_lcmp (pc := 171) hK dX12_isKept_171 (z_if_eq (pc := 172) hK 296 dX12_isKept_172 (by decide) (fun c_16 => ?_) (fun c_16 => ?_)))))
                                · rw [if_pos c_16] at hg
                                  exact z_iconst (pc := 296) hK dX12_isKept_296 zc_i1 (z_goto (pc := 297) hK 301 dX12_isKept_297 (by decide) (z_zretP (pc := 301) hK rfl hE hg dX12_isKept_301))
                                · rw [if_neg c_16] at hg
                                  refine z_aload_n (pc := 175) hK 0 dX12_isKept_175 rfl (z_getL (pc := 176) hK f_X12_144_11 ht0 dX12_isKept_176 (z_ldc2 (pc := 179) hK q_1515 dX12_isKept_179 (z_lcmp (pc := 182) hK dX12_isKept_182 (z_if_eq (pc := 183) hK 296 dX12_isKept_183 (by decide) (fun c_17 => ?_) (fun c_17 => ?_)))))
                                  · rw [if_pos c_17] at hg
                                    exact z_iconst (pc := 296) hK dX12_isKept_296 zc_i1 (z_goto (pc := 297) hK 301 dX12_isKept_297 (by decide) (z_zretP (pc := 301) hK rfl hE hg dX12_isKept_301))
                                  · rw [if_neg c_17] at hg
                                    refine z_aload_n (pc := 186) hK 0 dX12_isKept_186 rfl (z_getL (pc := 187) hK f_X12_144_11 ht0 dX12_isKept_187 (z_ldc2 (pc := 190) hK q_1516 dX12_isKept_190 (z_lcmp (pc := 193) hK dX12_isKept_193 (z_if_eq (pc := 194) hK 296 dX12_isKept_194 (by decide) (fun c_18 => ?_) (fun c_18 => ?_)))))
                                    · rw [if_pos c_18] at hg
                                      exact z_iconst (pc := 296) hK dX12_isKept_296 zc_i1 (z_goto (pc := 297) hK 301 dX12_isKept_297 (by decide) (z_zretP (pc := 301) hK rfl hE hg dX12_isKept_301))
                                    · rw [if_neg c_18] at hg
                                      refine z_aload_n (pc := 197) hK 0 dX12_isKept_197 rfl (z_getL (pc := 198) hK f_X12_144_11 ht0 dX12_isKept_198 (z_ldc2 (pc := 201) hK q_1517 dX12_isKept_201 (z_lcmp (pc := 204) hK dX12_isKept_204 (z_if_eq (pc := 205) hK 296 dX12_isKept_205 (by decide) (fun c_19 => ?_) (fun c_19 => ?_)))))
                                      · rw [if_pos c_19] at hg
                                        exact z_iconst (pc := 296) hK dX12_isKept_296 zc_i1 (z_goto (pc := 297) hK 301 dX12_isKept_297 (by decide) (z_zretP (pc := 301) hK rfl hE hg dX12_isKept_301))
                                      · rw [if_neg c_19] at hg
                                        refine z_aload_n (pc := 208) hK 0 dX12_isKept_208 rfl (z_getL (pc := 209) hK f_X12_144_11 ht0 dX12_isKept_209 (z_ldc2 (pc := 212) hK q_1518 dX12_isKept_212 (z_lcmp (pc := 215) hK dX12_isKept_215 (z_if_eq (pc := 216) hK 296 dX12_isKept_216 (by decide) (fun c_20 => ?_) (fun c_20 => ?_)))))
                                        · rw [if_pos c_20] at hg
                                          exact z_iconst (pc := 296) hK dX12_isKept_296 zc_i1 (z_goto (pc := 297) hK 301 dX12_isKept_297 (by decide) (z_zretP (pc := 301) hK rfl hE hg dX12_isKept_301))
                                        · rw [if_neg c_20] at hg
                                          refine z_aload_n (pc := 219) hK 0 dX12_isKept_219 rfl (z_getL (pc := 220) hK f_X12_144_11 ht0 dX12_isKept_220 (z_ldc2 (pc := 223) hK q_1519 dX12_isKept_223 (z_lcmp (pc := 226) hK dX12_isKept_226 (z_if_eq (pc := 227) hK 296 dX12_isKept_227 (by decide) (fun c_21 => ?_) (fun c_21 => ?_)))))
                                          · rw [if_pos c_21] at hg
                                            exact z_iconst (pc := 296) hK dX12_isKept_296 zc_i1 (z_goto (pc := 297) hK 301 dX12_isKept_297 (by decide) (z_zretP (pc := 301) hK rfl hE hg dX12_isKept_301))
                                          · rw [if_neg c_21] at hg
                                            refine z_aload_n (pc := 230) hK 0 dX12_isKept_230 rfl (z_getL (pc := 231) hK f_X12_144_11 ht0 dX12_isKept_231 (z_ldc2 (pc := 234) hK q_1520 dX12_isKept_234 (z_lcmp (pc := 237) hK dX12_isKept_237 (z_if_eq (pc := 238) hK 296 dX12_isKept_238 (by decide) (fun c_22 => ?_) (fun c_22 => ?_)))))
                                            · rw [if_pos c_22] at hg
                                              exact z_iconst (pc := 296) hK dX12_isKept_296 zc_i1 (z_goto (pc := 297) hK 301 dX12_isKept_297 (by decide) (z_zretP (pc := 301) hK rfl hE hg dX12_isKept_301))
                                            · rw [if_neg c_22] at hg
                                              refine z_aload_n (pc := 241) hK 0 dX12_isKept_241 rfl (z_getL (pc := 242) hK f_X12_144_11 ht0 dX12_isKept_242 (z_ldc2 (pc := 245) hK q_1521 dX12_isKept_245 (z_lcmp (pc := 248) hK dX12_isKept_248 (z_if_eq (pc := 249) hK 296 dX12_isKept_249 (by decide) (fun c_23 => ?_) (fun c_23 => ?_)))))
                                              · rw [if_pos c_23] at hg
                                                exact z_iconst (pc := 296) hK dX12_isKept_296 zc_i1 (z_goto (pc := 297) hK 301 dX12_isKept_297 (by decide) (z_zretP (pc := 301) hK rfl hE hg dX12_isKept_301))
                                              · rw [if_neg c_23] at hg
                                                refine z_aload_n (pc := 252) hK 0 dX12_isKept_252 rfl (z_getL (pc := 253) hK f_X12_144_11 ht0 dX12_isKept_253 (z_ldc2 (pc := 256) hK q_1522 dX12_isKept_256 (z_lcmp (pc := 259) hK dX12_isKept_259 (z_if_eq (pc := 260) hK 296 dX12_isKept_260 (by decide) (fun c_24 => ?_) (fun c_24 => ?_)))))
                                                · rw [if_pos c_24] at hg
                                                  exact z_iconst (pc := 296) hK dX12_isKept_296 zc_i1 (z_goto (pc := 297) hK 301 dX12_isKept_297 (by decide) (z_zretP (pc := 301) hK rfl hE hg dX12_isKept_301))
                                                · rw [if_neg c_24] at hg
                                                  refine z_aload_n (pc := 263) hK 0 dX12_isKept_263 rfl (z_getL (pc := 264) hK f_X12_144_11 ht0 dX12_isKept_264 (z_ldc2 (pc := 267) hK q_1523 dX12_isKept_267 (z_lcmp (pc := 270) hK dX12_isKept_270 (z_if_eq (pc := 271) hK 296 dX12_isKept_271 (by decide) (fun c_25 => ?_) (fun c_25 => ?_)))))
                                                  · rw [if_pos c_25] at hg
                                                    exact z_iconst (pc := 296) hK dX12_isKept_296 zc_i1 (z_goto (pc := 297) hK 301 dX12_isKept_297 (by decide) (z_zretP (pc := 301) hK rfl hE hg dX12_isKept_301))
                                                  · rw [if_neg c_25] at hg
                                                    refine z_aload_n (pc := 274) hK 0 dX12_isKept_274 rfl (z_getL (pc := 275) hK f_X12_144_11 ht0 dX12_isKept_275 (z_ldc2 (pc := 278) hK q_1524 dX12_isKept_278 (z_lcmp (pc := 281) hK dX12_isKept_281 (z_if_eq (pc := 282) hK 296 dX12_isKept_282 (by decide) (fun c_26 => ?_) (fun c_26 => ?_)))))
                                                    · rw [if_pos c_26] at hg
                                                      exact z_iconst (pc := 296) hK dX12_isKept_296 zc_i1 (z_goto (pc := 297) hK 301 dX12_isKept_297 (by decide) (z_zretP (pc := 301) hK rfl hE hg dX12_isKept_301))
                                                    · rw [if_neg c_26] at hg
                                                      refine z_aload_n (pc := 285) hK 0 dX12_isKept_285 rfl (z_getL (pc := 286) hK f_X12_144_11 ht0 dX12_isKept_286 (z_ldc2 (pc := 289) hK q_1525 dX12_isKept_289 (z_lcmp (pc := 292) hK dX12_isKept_292 (z_if_ne (pc := 293) hK 300 dX12_isKept_293 (by decide) (fun c_27 => ?_) (fun c_27 => ?_)))))
                                                      · rw [if_neg c_27] at hg
                                                        exact z_iconst (pc := 300) hK dX12_isKept_300 zc_i0 (z_zretP (pc := 301) hK rfl hE hg dX12_isKept_301)
                                                      · rw [if_pos c_27] at hg
                                                        exact z_iconst (pc := 296) hK dX12_isKept_296 zc_i1 (z_goto (pc := 297) hK 301 dX12_isKept_297 (by decide) (z_zretP (pc := 301) hK rfl hE hg dX12_isKept_301))
  · rw [if_neg c_1] at hg
    exact z_iconst (pc := 8) hK dX12_isKept_8 zc_i1 (z_zretP (pc := 9) hK rfl hE hg dX12_isKept_9)
theorem m_X12_isKept {l : Launch} {G : zG} (hG : zD G) {h : zH} {t0 : Nat} (ht0 : zT t0 = (11, 0)) {r : Bool} (hg : g_X12_isKept h t0 = some r) : zM l G yX12_isKept cX12_isKept 1 (some .boolean) 0 0 [.ref (G.2.2.2 t0)] h (some (.int (zb r))) h :=
  zM_of hG pn_X12 (Nat.le_of_ble_eq_true rfl) (fun K _ hK hE => b_X12_isKept hK ht0 hE hg)
theorem dX12_named_0 : decode cX12_named 0 = .ok (.bipush 7, 2) := by decide +kernel
theorem dX12_named_2 : decode cX12_named 2 = .ok (.iload_n 1, 1) := by decide +kernel
theorem dX12_named_3 : decode cX12_named 3 = .ok (.imul, 1) := by decide +kernel
theorem dX12_named_4 : decode cX12_named 4 = .ok (.istore_n 2, 1) := by decide +kernel
theorem dX12_named_5 : decode cX12_named 5 = .ok (.iload_n 2, 1) := by decide +kernel
theorem dX12_named_6 : decode cX12_named 6 = .ok (.bipush 7, 2) := by decide +kernel
theorem dX12_named_8 : decode cX12_named 8 = .ok (.iload_n 1, 1) := by decide +kernel
theorem dX12_named_9 : decode cX12_named 9 = .ok (.imul, 1) := by decide +kernel
theorem dX12_named_10 : decode cX12_named 10 = .ok (.aload_n 0, 1) := by decide +kernel
theorem dX12_named_11 : decode cX12_named 11 = .ok (.getfield 13, 3) := by decide +kernel
theorem dX12_named_14 : decode cX12_named 14 = .ok (.iconst 4, 1) := by decide +kernel
theorem dX12_named_15 : decode cX12_named 15 = .ok (.iload_n 1, 1) := by decide +kernel
theorem dX12_named_16 : decode cX12_named 16 = .ok (.imul, 1) := by decide +kernel
theorem dX12_named_17 : decode cX12_named 17 = .ok (.iconst 0, 1) := by decide +kernel
theorem dX12_named_18 : decode cX12_named 18 = .ok (.iadd, 1) := by decide +kernel
theorem dX12_named_19 : decode cX12_named 19 = .ok (.iaload, 1) := by decide +kernel
theorem dX12_named_20 : decode cX12_named 20 = .ok (.iadd, 1) := by decide +kernel
theorem dX12_named_21 : decode cX12_named 21 = .ok (.if_icmp .ge 30, 3) := by decide +kernel
theorem dX12_named_24 : decode cX12_named 24 = .ok (.aload_n 0, 1) := by decide +kernel
theorem dX12_named_25 : decode cX12_named 25 = .ok (.getfield 16, 3) := by decide +kernel
theorem dX12_named_28 : decode cX12_named 28 = .ok (.iload_n 2, 1) := by decide +kernel
theorem dX12_named_29 : decode cX12_named 29 = .ok (.laload, 1) := by decide +kernel
theorem dX12_named_30 : decode cX12_named 30 = .ok (.aload_n 0, 1) := by decide +kernel
theorem dX12_named_31 : decode cX12_named 31 = .ok (.getfield 144, 3) := by decide +kernel
theorem dX12_named_34 : decode cX12_named 34 = .ok (.lcmp, 1) := by decide +kernel
theorem dX12_named_35 : decode cX12_named 35 = .ok (.ifCond .ne 10, 3) := by decide +kernel
theorem dX12_named_38 : decode cX12_named 38 = .ok (.iload_n 2, 1) := by decide +kernel
theorem dX12_named_39 : decode cX12_named 39 = .ok (.bipush 7, 2) := by decide +kernel
theorem dX12_named_41 : decode cX12_named 41 = .ok (.iload_n 1, 1) := by decide +kernel
theorem dX12_named_42 : decode cX12_named 42 = .ok (.imul, 1) := by decide +kernel
theorem dX12_named_43 : decode cX12_named 43 = .ok (.isub, 1) := by decide +kernel
theorem dX12_named_44 : decode cX12_named 44 = .ok (.ireturn, 1) := by decide +kernel
theorem dX12_named_45 : decode cX12_named 45 = .ok (.iinc 2 1, 3) := by decide +kernel
theorem dX12_named_48 : decode cX12_named 48 = .ok (.goto (-43), 3) := by decide +kernel
theorem dX12_named_51 : decode cX12_named 51 = .ok (.iconst (-1), 1) := by decide +kernel
theorem dX12_named_52 : decode cX12_named 52 = .ok (.ireturn, 1) := by decide +kernel
def g_X12_named_5 (h : zH) (t0 : Nat)  : Nat → Int32 → Int32 → Option Int32
  | 0, _, _ => none
  | n + 1, x1, x2 => zgu (zin ((4 * x1) + 0) 8) <| if ((7 * x1) + (h.1 (zR t0 10) (zx ((4 * x1) + 0)))) ≤ x2 then (some (-1)) else (zgu (zin x2 14) <| if (lg_cmp (h.2 (zR t0 11) (zx x2)) (h.2 t0 7)) = 0 then (some (x2 - (7 * x1))) else (g_X12_named_5 h t0 n x1 (x2 + 1)))
def g_X12_named (h : zH) (t0 : Nat) (x1 : Int32) : Option Int32 := g_X12_named_5 h t0 zfu x1 (7 * x1)
set_option maxRecDepth 100000 in
set_option maxHeartbeats 4000000 in
theorem b_X12_named_5 {K : zK} {G : zG} (hK : zC K G cX12_named RX12 3 0 0 (some .int)) {h : zH} {t0 : Nat} (ht0 : zT t0 = (11, 0)) {r : Int32} (hE : zE K G (some (.int r)) h) : ∀ (n : Nat) (x1 : Int32) (x2 : Int32), g_X12_named_5 h t0 n x1 x2 = some r → zW K G 3 5 [(0, .ref (G.2.2.2 t0)), (1, .int x1), (2, .int x2)] [] h := by
  intro n
  induction n with
  | zero => intro x1 x2 hg; exact nomatch (show none = some r from hg)
  | succ n ih =>
    intro x1 x2 hg
    rw [g_X12_named_5] at hg
    obtain ⟨c_1, hg⟩ := zgu_some hg
    refine z_iload_n (pc := 5) hK 2 dX12_named_5 rfl (z_bipush (pc := 6) hK dX12_named_6 zc_b7 (z_iload_n (pc := 8) hK 1 dX12_named_8 rfl (z_imul (pc := 9) hK dX12_named_9 (z_aload_n (pc := 10) hK 0 dX12_named_10 rfl (z_getR (pc := 11) hK f_X12_13_11 ht0 dX12_named_11 (z_iconst (pc := 14) hK dX12_named_14 zc_i4 (z_iload_n (pc := 15) hK 1 dX12_named_15 rfl (z_imul (pc := 16) hK dX12_named_16 (z_iconst (pc := 17) hK dX12_named_17 zc_i0 (z_iadd (pc := 18) hK dX12_named_18 (z_iald (pc := 19) hK (zt_11_10 ht0) c_1 dX12_named_19 (z_iadd (pc := 20) hK dX12_named_20 (z_icmp_ge (pc := 21) hK 51 dX12_named_21 (by decide) (fun c_2 => ?_) (fun c_2 => ?_))))))))))))))
    · rw [if_pos c_2] at hg
      exact z_iconst (pc := 51) hK dX12_named_51 zc_im1 (z_iretP (pc := 52) hK hE hg dX12_named_52)
    · rw [if_neg c_2] at hg
      obtain ⟨c_3, hg⟩ := zgu_some hg
      refine z_aload_n (pc := 24) hK 0 dX12_named_24 rfl (z_getR (pc := 25) hK f_X12_16_11 ht0 dX12_named_25 (z_iload_n (pc := 28) hK 2 dX12_named_28 rfl (z_lald (pc := 29) hK (zt_11_11 ht0) c_3 dX12_named_29 (z_aload_n (pc := 30) hK 0 dX12_named_30 rfl (z_getL (pc := 31) hK f_X12_144_11 ht0 dX12_named_31 (z_lcmp (pc := 34) hK dX12_named_34 (z_if_ne (pc := 35) hK 45 dX12_named_35 (by decide) (fun c_4 => ?_) (fun c_4 => ?_))))))))
      · rw [if_neg c_4] at hg
        exact z_iinc (pc := 45) hK 2 (lv' := [(2, .int (x2 + 1)), (0, .ref (G.2.2.2 t0)), (1, .int x1)]) dX12_named_45 rfl (zc_n1 _) (by decide) rfl (z_goto (pc := 48) hK 5 dX12_named_48 (by decide) (zsub (lv' := [(0, .ref (G.2.2.2 t0)), (1, .int x1), (2, .int (x2 + 1))]) [1, 2, 0] rfl (ih x1 (x2 + 1) hg)))
      · rw [if_pos c_4] at hg
        exact z_iload_n (pc := 38) hK 2 dX12_named_38 rfl (z_bipush (pc := 39) hK dX12_named_39 zc_b7 (z_iload_n (pc := 41) hK 1 dX12_named_41 rfl (z_imul (pc := 42) hK dX12_named_42 (z_isub (pc := 43) hK dX12_named_43 (z_iretP (pc := 44) hK hE hg dX12_named_44)))))
set_option maxRecDepth 100000 in
set_option maxHeartbeats 4000000 in
theorem b_X12_named {K : zK} {G : zG} (hK : zC K G cX12_named RX12 3 0 0 (some .int)) {h : zH} {t0 : Nat} {x1 : Int32} (ht0 : zT t0 = (11, 0)) {r : Int32} (hE : zE K G (some (.int r)) h) (hg : g_X12_named h t0 x1 = some r) : zW K G 3 0 [(0, .ref (G.2.2.2 t0)), (1, .int x1)] [] h := by
  rw [g_X12_named] at hg
  exact z_bipush (pc := 0) hK dX12_named_0 zc_b7 (z_iload_n (pc := 2) hK 1 dX12_named_2 rfl (z_imul (pc := 3) hK dX12_named_3 (z_istore_n (pc := 4) hK (lv' := [(2, .int (7 * x1)), (0, .ref (G.2.2.2 t0)), (1, .int x1)]) dX12_named_4 (by decide) rfl (zsub (lv' := [(0, .ref (G.2.2.2 t0)), (1, .int x1), (2, .int (7 * x1))]) [1, 2, 0] rfl (b_X12_named_5 hK ht0 hE zfu x1 (7 * x1) hg)))))
theorem m_X12_named {l : Launch} {G : zG} (hG : zD G) {h : zH} {t0 : Nat} {x1 : Int32} (ht0 : zT t0 = (11, 0)) {r : Int32} (hg : g_X12_named h t0 x1 = some r) : zM l G yX12_named cX12_named 3 (some .int) 0 0 [.ref (G.2.2.2 t0), .int x1] h (some (.int r)) h :=
  zM_of hG pn_X12 (Nat.le_of_ble_eq_true rfl) (fun K _ hK hE => b_X12_named hK ht0 hE hg)
theorem dX12_needsNumber_0 : decode cX12_needsNumber 0 = .ok (.aload_n 0, 1) := by decide +kernel
theorem dX12_needsNumber_1 : decode cX12_needsNumber 1 = .ok (.getfield 151, 3) := by decide +kernel
theorem dX12_needsNumber_4 : decode cX12_needsNumber 4 = .ok (.iconst 2, 1) := by decide +kernel
theorem dX12_needsNumber_5 : decode cX12_needsNumber 5 = .ok (.if_icmp .eq 9, 3) := by decide +kernel
theorem dX12_needsNumber_8 : decode cX12_needsNumber 8 = .ok (.aload_n 0, 1) := by decide +kernel
theorem dX12_needsNumber_9 : decode cX12_needsNumber 9 = .ok (.iconst 1, 1) := by decide +kernel
theorem dX12_needsNumber_10 : decode cX12_needsNumber 10 = .ok (.invokevirtual 190, 3) := by decide +kernel
theorem dX12_needsNumber_13 : decode cX12_needsNumber 13 = .ok (.ireturn, 1) := by decide +kernel
theorem dX12_needsNumber_14 : decode cX12_needsNumber 14 = .ok (.aload_n 0, 1) := by decide +kernel
theorem dX12_needsNumber_15 : decode cX12_needsNumber 15 = .ok (.getfield 148, 3) := by decide +kernel
theorem dX12_needsNumber_18 : decode cX12_needsNumber 18 = .ok (.iload_n 1, 1) := by decide +kernel
theorem dX12_needsNumber_19 : decode cX12_needsNumber 19 = .ok (.iload_n 2, 1) := by decide +kernel
theorem dX12_needsNumber_20 : decode cX12_needsNumber 20 = .ok (.invokestatic 259, 3) := by decide +kernel
theorem dX12_needsNumber_23 : decode cX12_needsNumber 23 = .ok (.ifCond .ne 9, 3) := by decide +kernel
theorem dX12_needsNumber_26 : decode cX12_needsNumber 26 = .ok (.aload_n 0, 1) := by decide +kernel
theorem dX12_needsNumber_27 : decode cX12_needsNumber 27 = .ok (.iconst 4, 1) := by decide +kernel
theorem dX12_needsNumber_28 : decode cX12_needsNumber 28 = .ok (.invokevirtual 190, 3) := by decide +kernel
theorem dX12_needsNumber_31 : decode cX12_needsNumber 31 = .ok (.ireturn, 1) := by decide +kernel
theorem dX12_needsNumber_32 : decode cX12_needsNumber 32 = .ok (.aload_n 0, 1) := by decide +kernel
theorem dX12_needsNumber_33 : decode cX12_needsNumber 33 = .ok (.aload_n 0, 1) := by decide +kernel
theorem dX12_needsNumber_34 : decode cX12_needsNumber 34 = .ok (.getfield 148, 3) := by decide +kernel
theorem dX12_needsNumber_37 : decode cX12_needsNumber 37 = .ok (.putfield 263, 3) := by decide +kernel
theorem dX12_needsNumber_40 : decode cX12_needsNumber 40 = .ok (.aload_n 0, 1) := by decide +kernel
theorem dX12_needsNumber_41 : decode cX12_needsNumber 41 = .ok (.invokevirtual 197, 3) := by decide +kernel
theorem dX12_needsNumber_44 : decode cX12_needsNumber 44 = .ok (.iconst 1, 1) := by decide +kernel
theorem dX12_needsNumber_45 : decode cX12_needsNumber 45 = .ok (.ireturn, 1) := by decide +kernel
def g_X12_needsNumber (h : zH) (t0 : Nat) (x1 : Int32) (x2 : Int32) : Option (Bool × zH) := if (h.1 t0 6) = 2 then ((g_X12_within h (h.1 t0 8) x1 x2).bind fun v_2 => if (zb v_2) = 0 then ((g_X12_fails h t0 4).bind fun v_6 => some (v_6.1, v_6.2)) else (zlet (zpi h t0 35 (h.1 t0 8)) fun h_4 => (g_X12_nextToken h_4 t0).bind fun v_5 => some (true, v_5))) else ((g_X12_fails h t0 1).bind fun v_7 => some (v_7.1, v_7.2))
set_option maxRecDepth 100000 in
set_option maxHeartbeats 4000000 in
theorem b_X12_needsNumber {K : zK} {G : zG} (hK : zC K G cX12_needsNumber RX12 3 2 42 (some .boolean)) {h : zH} {t0 : Nat} {x1 : Int32} {x2 : Int32} (ht0 : zT t0 = (11, 0)) {r : Bool × zH} (hE : zE K G (some (.int (zb r.1))) r.2) (hg : g_X12_needsNumber h t0 x1 x2 = some r) : zW K G 3 0 [(0, .ref (G.2.2.2 t0)), (1, .int x1), (2, .int x2)] [] h := by
  rw [g_X12_needsNumber] at hg
  refine z_aload_n (pc := 0) hK 0 dX12_needsNumber_0 rfl (z_getI (pc := 1) hK f_X12_151_11 ht0 dX12_needsNumber_1 (z_iconst (pc := 4) hK dX12_needsNumber_4 zc_i2 (z_icmp_eq (pc := 5) hK 14 dX12_needsNumber_5 (by decide) (fun c_1 => ?_) (fun c_1 => ?_))))
  · rw [if_pos c_1] at hg
    obtain ⟨v_2, qv_2, hg⟩ := zbind_some hg
    refine z_aload_n (pc := 14) hK 0 dX12_needsNumber_14 rfl (z_getI (pc := 15) hK f_X12_148_11 ht0 dX12_needsNumber_15 (z_iload_n (pc := 18) hK 1 dX12_needsNumber_18 rfl (z_iload_n (pc := 19) hK 2 dX12_needsNumber_19 rfl (z_callSi (pc := 20) hK [.int (h.1 t0 8), .int x1, .int x2] (m_X12_within (zC_D hK) qv_2) ss_X12_within q_1538 rfl [] rfl (Nat.le_of_ble_eq_true rfl) ⟨by decide, by decide⟩ dX12_needsNumber_20 (z_if_ne (pc := 23) hK 32 dX12_needsNumber_23 (by decide) (fun c_3 => ?_) (fun c_3 => ?_))))))
    · rw [if_neg c_3] at hg
      obtain ⟨h_4, eh_4, hg⟩ := zlet_some hg
      obtain ⟨v_5, qv_5, hg⟩ := zbind_some hg
      exact z_aload_n (pc := 32) hK 0 dX12_needsNumber_32 rfl (z_aload_n (pc := 33) hK 0 dX12_needsNumber_33 rfl (z_getI (pc := 34) hK f_X12_148_11 ht0 dX12_needsNumber_34 (z_putI (pc := 37) hK f_X12_263_11 fp_11_35 ht0 dX12_needsNumber_37 (z_nameH eh_4 (z_aload_n (pc := 40) hK 0 dX12_needsNumber_40 rfl (z_callVv (pc := 41) hK [] (m_X12_nextToken (zC_D hK) ht0 qv_5) sv_X12_nextToken q_1474 ht0 rfl [] rfl (Nat.le_of_ble_eq_true rfl) ⟨by decide, by decide⟩ dX12_needsNumber_41 (z_iconst (pc := 44) hK dX12_needsNumber_44 zc_i1 (z_zretE (pc := 45) hK rfl hE hg dX12_needsNumber_45))))))))
    · rw [if_pos c_3] at hg
      obtain ⟨v_6, qv_6, hg⟩ := zbind_some hg
      exact z_aload_n (pc := 26) hK 0 dX12_needsNumber_26 rfl (z_iconst (pc := 27) hK dX12_needsNumber_27 zc_i4 (z_callVi (pc := 28) hK [.int 4] (m_X12_fails (zC_D hK) ht0 qv_6) sv_X12_fails q_1493 ht0 rfl [] rfl (Nat.le_of_ble_eq_true rfl) ⟨by decide, by decide⟩ dX12_needsNumber_28 (z_zretE (pc := 31) hK rfl hE hg dX12_needsNumber_31)))
  · rw [if_neg c_1] at hg
    obtain ⟨v_7, qv_7, hg⟩ := zbind_some hg
    exact z_aload_n (pc := 8) hK 0 dX12_needsNumber_8 rfl (z_iconst (pc := 9) hK dX12_needsNumber_9 zc_i1 (z_callVi (pc := 10) hK [.int 1] (m_X12_fails (zC_D hK) ht0 qv_7) sv_X12_fails q_1493 ht0 rfl [] rfl (Nat.le_of_ble_eq_true rfl) ⟨by decide, by decide⟩ dX12_needsNumber_10 (z_zretE (pc := 13) hK rfl hE hg dX12_needsNumber_13)))
theorem m_X12_needsNumber {l : Launch} {G : zG} (hG : zD G) {h : zH} {t0 : Nat} {x1 : Int32} {x2 : Int32} (ht0 : zT t0 = (11, 0)) {r : Bool × zH} (hg : g_X12_needsNumber h t0 x1 x2 = some r) : zM l G yX12_needsNumber cX12_needsNumber 3 (some .boolean) 2 42 [.ref (G.2.2.2 t0), .int x1, .int x2] h (some (.int (zb r.1))) r.2 :=
  zM_of hG pn_X12 (Nat.le_of_ble_eq_true rfl) (fun K _ hK hE => b_X12_needsNumber hK ht0 hE hg)
theorem dX12_needsBoth_0 : decode cX12_needsBoth 0 = .ok (.aload_n 0, 1) := by decide +kernel
theorem dX12_needsBoth_1 : decode cX12_needsBoth 1 = .ok (.lload_n 1, 1) := by decide +kernel
theorem dX12_needsBoth_2 : decode cX12_needsBoth 2 = .ok (.invokevirtual 182, 3) := by decide +kernel
theorem dX12_needsBoth_5 : decode cX12_needsBoth 5 = .ok (.ifCond .ne 9, 3) := by decide +kernel
theorem dX12_needsBoth_8 : decode cX12_needsBoth 8 = .ok (.aload_n 0, 1) := by decide +kernel
theorem dX12_needsBoth_9 : decode cX12_needsBoth 9 = .ok (.iconst 1, 1) := by decide +kernel
theorem dX12_needsBoth_10 : decode cX12_needsBoth 10 = .ok (.invokevirtual 190, 3) := by decide +kernel
theorem dX12_needsBoth_13 : decode cX12_needsBoth 13 = .ok (.ireturn, 1) := by decide +kernel
theorem dX12_needsBoth_14 : decode cX12_needsBoth 14 = .ok (.aload_n 0, 1) := by decide +kernel
theorem dX12_needsBoth_15 : decode cX12_needsBoth 15 = .ok (.invokevirtual 197, 3) := by decide +kernel
theorem dX12_needsBoth_18 : decode cX12_needsBoth 18 = .ok (.aload_n 0, 1) := by decide +kernel
theorem dX12_needsBoth_19 : decode cX12_needsBoth 19 = .ok (.iload_n 3, 1) := by decide +kernel
theorem dX12_needsBoth_20 : decode cX12_needsBoth 20 = .ok (.iload 4, 2) := by decide +kernel
theorem dX12_needsBoth_22 : decode cX12_needsBoth 22 = .ok (.invokevirtual 266, 3) := by decide +kernel
theorem dX12_needsBoth_25 : decode cX12_needsBoth 25 = .ok (.ireturn, 1) := by decide +kernel
def g_X12_needsBoth (h : zH) (t0 : Nat) (x1 : Int64) (x3 : Int32) (x4 : Int32) : Option (Bool × zH) := (g_X12_isWord h t0 x1).bind fun v_1 => if (zb v_1) = 0 then ((g_X12_fails h t0 1).bind fun v_5 => some (v_5.1, v_5.2)) else ((g_X12_nextToken h t0).bind fun v_3 => (g_X12_needsNumber v_3 t0 x3 x4).bind fun v_4 => some (v_4.1, v_4.2))
set_option maxRecDepth 100000 in
set_option maxHeartbeats 4000000 in
theorem b_X12_needsBoth {K : zK} {G : zG} (hK : zC K G cX12_needsBoth RX12 5 3 64 (some .boolean)) {h : zH} {t0 : Nat} {x1 : Int64} {x3 : Int32} {x4 : Int32} (ht0 : zT t0 = (11, 0)) {r : Bool × zH} (hE : zE K G (some (.int (zb r.1))) r.2) (hg : g_X12_needsBoth h t0 x1 x3 x4 = some r) : zW K G 5 0 [(0, .ref (G.2.2.2 t0)), (1, .long x1), (3, .int x3), (4, .int x4)] [] h := by
  rw [g_X12_needsBoth] at hg
  obtain ⟨v_1, qv_1, hg⟩ := zbind_some hg
  refine z_aload_n (pc := 0) hK 0 dX12_needsBoth_0 rfl (z_lload_n (pc := 1) hK 1 dX12_needsBoth_1 rfl (z_callVi (pc := 2) hK [.long x1] (m_X12_isWord (zC_D hK) ht0 qv_1) sv_X12_isWord q_1485 ht0 rfl [] rfl (Nat.le_of_ble_eq_true rfl) ⟨by decide, by decide⟩ dX12_needsBoth_2 (z_if_ne (pc := 5) hK 14 dX12_needsBoth_5 (by decide) (fun c_2 => ?_) (fun c_2 => ?_))))
  · rw [if_neg c_2] at hg
    obtain ⟨v_3, qv_3, hg⟩ := zbind_some hg
    obtain ⟨v_4, qv_4, hg⟩ := zbind_some hg
    exact z_aload_n (pc := 14) hK 0 dX12_needsBoth_14 rfl (z_callVv (pc := 15) hK [] (m_X12_nextToken (zC_D hK) ht0 qv_3) sv_X12_nextToken q_1474 ht0 rfl [] rfl (Nat.le_of_ble_eq_true rfl) ⟨by decide, by decide⟩ dX12_needsBoth_15 (z_aload_n (pc := 18) hK 0 dX12_needsBoth_18 rfl (z_iload_n (pc := 19) hK 2 dX12_needsBoth_19 rfl (z_iload (pc := 20) hK 3 dX12_needsBoth_20 rfl (z_callVi (pc := 22) hK [.int x3, .int x4] (m_X12_needsNumber (zC_D hK) ht0 qv_4) sv_X12_needsNumber q_1534 ht0 rfl [] rfl (Nat.le_of_ble_eq_true rfl) ⟨by decide, by decide⟩ dX12_needsBoth_22 (z_zretE (pc := 25) hK rfl hE hg dX12_needsBoth_25))))))
  · rw [if_pos c_2] at hg
    obtain ⟨v_5, qv_5, hg⟩ := zbind_some hg
    exact z_aload_n (pc := 8) hK 0 dX12_needsBoth_8 rfl (z_iconst (pc := 9) hK dX12_needsBoth_9 zc_i1 (z_callVi (pc := 10) hK [.int 1] (m_X12_fails (zC_D hK) ht0 qv_5) sv_X12_fails q_1493 ht0 rfl [] rfl (Nat.le_of_ble_eq_true rfl) ⟨by decide, by decide⟩ dX12_needsBoth_10 (z_zretE (pc := 13) hK rfl hE hg dX12_needsBoth_13)))
theorem m_X12_needsBoth {l : Launch} {G : zG} (hG : zD G) {h : zH} {t0 : Nat} {x1 : Int64} {x3 : Int32} {x4 : Int32} (ht0 : zT t0 = (11, 0)) {r : Bool × zH} (hg : g_X12_needsBoth h t0 x1 x3 x4 = some r) : zM l G yX12_needsBoth cX12_needsBoth 5 (some .boolean) 3 64 [.ref (G.2.2.2 t0), .long x1, .int x3, .int x4] h (some (.int (zb r.1))) r.2 :=
  zM_of hG pn_X12 (Nat.le_of_ble_eq_true rfl) (fun K _ hK hE => b_X12_needsBoth hK ht0 hE hg)
theorem dX12_closes_0 : decode cX12_closes 0 = .ok (.aload_n 0, 1) := by decide +kernel
theorem dX12_closes_1 : decode cX12_closes 1 = .ok (.bipush 59, 2) := by decide +kernel
theorem dX12_closes_3 : decode cX12_closes 3 = .ok (.invokevirtual 186, 3) := by decide +kernel
theorem dX12_closes_6 : decode cX12_closes 6 = .ok (.ifCond .ne 9, 3) := by decide +kernel
theorem dX12_closes_9 : decode cX12_closes 9 = .ok (.aload_n 0, 1) := by decide +kernel
theorem dX12_closes_10 : decode cX12_closes 10 = .ok (.iconst 1, 1) := by decide +kernel
theorem dX12_closes_11 : decode cX12_closes 11 = .ok (.invokevirtual 190, 3) := by decide +kernel
theorem dX12_closes_14 : decode cX12_closes 14 = .ok (.ireturn, 1) := by decide +kernel
theorem dX12_closes_15 : decode cX12_closes 15 = .ok (.aload_n 0, 1) := by decide +kernel
theorem dX12_closes_16 : decode cX12_closes 16 = .ok (.invokevirtual 197, 3) := by decide +kernel
theorem dX12_closes_19 : decode cX12_closes 19 = .ok (.iconst 1, 1) := by decide +kernel
theorem dX12_closes_20 : decode cX12_closes 20 = .ok (.ireturn, 1) := by decide +kernel
def g_X12_closes (h : zH) (t0 : Nat) : Option (Bool × zH) := (g_X12_isSign h t0 59).bind fun v_1 => if (zb v_1) = 0 then ((g_X12_fails h t0 1).bind fun v_4 => some (v_4.1, v_4.2)) else ((g_X12_nextToken h t0).bind fun v_3 => some (true, v_3))
set_option maxRecDepth 100000 in
set_option maxHeartbeats 4000000 in
theorem b_X12_closes {K : zK} {G : zG} (hK : zC K G cX12_closes RX12 1 2 42 (some .boolean)) {h : zH} {t0 : Nat} (ht0 : zT t0 = (11, 0)) {r : Bool × zH} (hE : zE K G (some (.int (zb r.1))) r.2) (hg : g_X12_closes h t0 = some r) : zW K G 1 0 [(0, .ref (G.2.2.2 t0))] [] h := by
  rw [g_X12_closes] at hg
  obtain ⟨v_1, qv_1, hg⟩ := zbind_some hg
  refine z_aload_n (pc := 0) hK 0 dX12_closes_0 rfl (z_bipush (pc := 1) hK dX12_closes_1 zc_b59 (z_callVi (pc := 3) hK [.int 59] (m_X12_isSign (zC_D hK) ht0 qv_1) sv_X12_isSign q_1545 ht0 rfl [] rfl (Nat.le_of_ble_eq_true rfl) ⟨by decide, by decide⟩ dX12_closes_3 (z_if_ne (pc := 6) hK 15 dX12_closes_6 (by decide) (fun c_2 => ?_) (fun c_2 => ?_))))
  · rw [if_neg c_2] at hg
    obtain ⟨v_3, qv_3, hg⟩ := zbind_some hg
    exact z_aload_n (pc := 15) hK 0 dX12_closes_15 rfl (z_callVv (pc := 16) hK [] (m_X12_nextToken (zC_D hK) ht0 qv_3) sv_X12_nextToken q_1474 ht0 rfl [] rfl (Nat.le_of_ble_eq_true rfl) ⟨by decide, by decide⟩ dX12_closes_16 (z_iconst (pc := 19) hK dX12_closes_19 zc_i1 (z_zretE (pc := 20) hK rfl hE hg dX12_closes_20)))
  · rw [if_pos c_2] at hg
    obtain ⟨v_4, qv_4, hg⟩ := zbind_some hg
    exact z_aload_n (pc := 9) hK 0 dX12_closes_9 rfl (z_iconst (pc := 10) hK dX12_closes_10 zc_i1 (z_callVi (pc := 11) hK [.int 1] (m_X12_fails (zC_D hK) ht0 qv_4) sv_X12_fails q_1493 ht0 rfl [] rfl (Nat.le_of_ble_eq_true rfl) ⟨by decide, by decide⟩ dX12_closes_11 (z_zretE (pc := 14) hK rfl hE hg dX12_closes_14)))
theorem m_X12_closes {l : Launch} {G : zG} (hG : zD G) {h : zH} {t0 : Nat} (ht0 : zT t0 = (11, 0)) {r : Bool × zH} (hg : g_X12_closes h t0 = some r) : zM l G yX12_closes cX12_closes 1 (some .boolean) 2 42 [.ref (G.2.2.2 t0)] h (some (.int (zb r.1))) r.2 :=
  zM_of hG pn_X12 (Nat.le_of_ble_eq_true rfl) (fun K _ hK hE => b_X12_closes hK ht0 hE hg)
theorem dX12_needsPerson_0 : decode cX12_needsPerson 0 = .ok (.aload_n 0, 1) := by decide +kernel
theorem dX12_needsPerson_1 : decode cX12_needsPerson 1 = .ok (.invokevirtual 270, 3) := by decide +kernel
theorem dX12_needsPerson_4 : decode cX12_needsPerson 4 = .ok (.ifCond .eq 9, 3) := by decide +kernel
theorem dX12_needsPerson_7 : decode cX12_needsPerson 7 = .ok (.aload_n 0, 1) := by decide +kernel
theorem dX12_needsPerson_8 : decode cX12_needsPerson 8 = .ok (.iconst 1, 1) := by decide +kernel
theorem dX12_needsPerson_9 : decode cX12_needsPerson 9 = .ok (.invokevirtual 190, 3) := by decide +kernel
theorem dX12_needsPerson_12 : decode cX12_needsPerson 12 = .ok (.ireturn, 1) := by decide +kernel
theorem dX12_needsPerson_13 : decode cX12_needsPerson 13 = .ok (.aload_n 0, 1) := by decide +kernel
theorem dX12_needsPerson_14 : decode cX12_needsPerson 14 = .ok (.aload_n 0, 1) := by decide +kernel
theorem dX12_needsPerson_15 : decode cX12_needsPerson 15 = .ok (.iload_n 1, 1) := by decide +kernel
theorem dX12_needsPerson_16 : decode cX12_needsPerson 16 = .ok (.invokevirtual 274, 3) := by decide +kernel
theorem dX12_needsPerson_19 : decode cX12_needsPerson 19 = .ok (.putfield 263, 3) := by decide +kernel
theorem dX12_needsPerson_22 : decode cX12_needsPerson 22 = .ok (.aload_n 0, 1) := by decide +kernel
theorem dX12_needsPerson_23 : decode cX12_needsPerson 23 = .ok (.getfield 263, 3) := by decide +kernel
theorem dX12_needsPerson_26 : decode cX12_needsPerson 26 = .ok (.ifCond .ge 11, 3) := by decide +kernel
theorem dX12_needsPerson_29 : decode cX12_needsPerson 29 = .ok (.aload_n 0, 1) := by decide +kernel
theorem dX12_needsPerson_30 : decode cX12_needsPerson 30 = .ok (.iconst 2, 1) := by decide +kernel
theorem dX12_needsPerson_31 : decode cX12_needsPerson 31 = .ok (.invokevirtual 190, 3) := by decide +kernel
theorem dX12_needsPerson_34 : decode cX12_needsPerson 34 = .ok (.ifCond .eq 7, 3) := by decide +kernel
theorem dX12_needsPerson_37 : decode cX12_needsPerson 37 = .ok (.iconst 1, 1) := by decide +kernel
theorem dX12_needsPerson_38 : decode cX12_needsPerson 38 = .ok (.goto 4, 3) := by decide +kernel
theorem dX12_needsPerson_41 : decode cX12_needsPerson 41 = .ok (.iconst 0, 1) := by decide +kernel
theorem dX12_needsPerson_42 : decode cX12_needsPerson 42 = .ok (.ireturn, 1) := by decide +kernel
def g_X12_needsPerson (h : zH) (t0 : Nat) (x1 : Int32) : Option (Bool × zH) := (g_X12_isKept h t0).bind fun v_1 => if (zb v_1) = 0 then ((g_X12_named h t0 x1).bind fun v_3 => zlet (zpi h t0 35 v_3) fun h_4 => if 0 ≤ (h_4.1 t0 35) then (some (true, h_4)) else ((g_X12_fails h_4 t0 2).bind fun v_6 => if (zb v_6.1) = 0 then (some (false, v_6.2)) else (some (true, v_6.2)))) else ((g_X12_fails h t0 1).bind fun v_8 => some (v_8.1, v_8.2))
set_option maxRecDepth 100000 in
set_option maxHeartbeats 4000000 in
theorem b_X12_needsPerson {K : zK} {G : zG} (hK : zC K G cX12_needsPerson RX12 2 1 22 (some .boolean)) {h : zH} {t0 : Nat} {x1 : Int32} (ht0 : zT t0 = (11, 0)) {r : Bool × zH} (hE : zE K G (some (.int (zb r.1))) r.2) (hg : g_X12_needsPerson h t0 x1 = some r) : zW K G 2 0 [(0, .ref (G.2.2.2 t0)), (1, .int x1)] [] h := by
  rw [g_X12_needsPerson] at hg
  obtain ⟨v_1, qv_1, hg⟩ := zbind_some hg
  refine z_aload_n (pc := 0) hK 0 dX12_needsPerson_0 rfl (z_callVi (pc := 1) hK [] (m_X12_isKept (zC_D hK) ht0 qv_1) sv_X12_isKept q_1497 ht0 rfl [] rfl (Nat.le_of_ble_eq_true rfl) ⟨by decide, by decide⟩ dX12_needsPerson_1 (z_if_eq (pc := 4) hK 13 dX12_needsPerson_4 (by decide) (fun c_2 => ?_) (fun c_2 => ?_)))
  · rw [if_pos c_2] at hg
    obtain ⟨v_3, qv_3, hg⟩ := zbind_some hg
    obtain ⟨h_4, eh_4, hg⟩ := zlet_some hg
    refine z_aload_n (pc := 13) hK 0 dX12_needsPerson_13 rfl (z_aload_n (pc := 14) hK 0 dX12_needsPerson_14 rfl (z_iload_n (pc := 15) hK 1 dX12_needsPerson_15 rfl (z_callVi (pc := 16) hK [.int x1] (m_X12_named (zC_D hK) ht0 qv_3) sv_X12_named q_1526 ht0 rfl [.ref (G.2.2.2 t0)] rfl (Nat.le_of_ble_eq_true rfl) ⟨by decide, by decide⟩ dX12_needsPerson_16 (z_putI (pc := 19) hK f_X12_263_11 fp_11_35 ht0 dX12_needsPerson_19 (z_nameH eh_4 (z_aload_n (pc := 22) hK 0 dX12_needsPerson_22 rfl (z_getI (pc := 23) hK f_X12_263_11 ht0 dX12_needsPerson_23 (z_if_ge (pc := 26) hK 37 dX12_needsPerson_26 (by decide) (fun c_5 => ?_) (fun c_5 => ?_)))))))))
    · rw [if_pos c_5] at hg
      exact z_iconst (pc := 37) hK dX12_needsPerson_37 zc_i1 (z_goto (pc := 38) hK 42 dX12_needsPerson_38 (by decide) (z_zretE (pc := 42) hK rfl hE hg dX12_needsPerson_42))
    · rw [if_neg c_5] at hg
      obtain ⟨v_6, qv_6, hg⟩ := zbind_some hg
      refine z_aload_n (pc := 29) hK 0 dX12_needsPerson_29 rfl (z_iconst (pc := 30) hK dX12_needsPerson_30 zc_i2 (z_callVi (pc := 31) hK [.int 2] (m_X12_fails (zC_D hK) ht0 qv_6) sv_X12_fails q_1493 ht0 rfl [] rfl (Nat.le_of_ble_eq_true rfl) ⟨by decide, by decide⟩ dX12_needsPerson_31 (z_if_eq (pc := 34) hK 41 dX12_needsPerson_34 (by decide) (fun c_7 => ?_) (fun c_7 => ?_))))
      · rw [if_pos c_7] at hg
        exact z_iconst (pc := 41) hK dX12_needsPerson_41 zc_i0 (z_zretE (pc := 42) hK rfl hE hg dX12_needsPerson_42)
      · rw [if_neg c_7] at hg
        exact z_iconst (pc := 37) hK dX12_needsPerson_37 zc_i1 (z_goto (pc := 38) hK 42 dX12_needsPerson_38 (by decide) (z_zretE (pc := 42) hK rfl hE hg dX12_needsPerson_42))
  · rw [if_neg c_2] at hg
    obtain ⟨v_8, qv_8, hg⟩ := zbind_some hg
    exact z_aload_n (pc := 7) hK 0 dX12_needsPerson_7 rfl (z_iconst (pc := 8) hK dX12_needsPerson_8 zc_i1 (z_callVi (pc := 9) hK [.int 1] (m_X12_fails (zC_D hK) ht0 qv_8) sv_X12_fails q_1493 ht0 rfl [] rfl (Nat.le_of_ble_eq_true rfl) ⟨by decide, by decide⟩ dX12_needsPerson_9 (z_zretE (pc := 12) hK rfl hE hg dX12_needsPerson_12)))
theorem m_X12_needsPerson {l : Launch} {G : zG} (hG : zD G) {h : zH} {t0 : Nat} {x1 : Int32} (ht0 : zT t0 = (11, 0)) {r : Bool × zH} (hg : g_X12_needsPerson h t0 x1 = some r) : zM l G yX12_needsPerson cX12_needsPerson 2 (some .boolean) 1 22 [.ref (G.2.2.2 t0), .int x1] h (some (.int (zb r.1))) r.2 :=
  zM_of hG pn_X12 (Nat.le_of_ble_eq_true rfl) (fun K _ hK hE => b_X12_needsPerson hK ht0 hE hg)
theorem dX12_needsTwo_0 : decode cX12_needsTwo 0 = .ok (.aload_n 0, 1) := by decide +kernel
theorem dX12_needsTwo_1 : decode cX12_needsTwo 1 = .ok (.iload_n 1, 1) := by decide +kernel
theorem dX12_needsTwo_2 : decode cX12_needsTwo 2 = .ok (.invokevirtual 277, 3) := by decide +kernel
theorem dX12_needsTwo_5 : decode cX12_needsTwo 5 = .ok (.ifCond .ne 5, 3) := by decide +kernel
theorem dX12_needsTwo_8 : decode cX12_needsTwo 8 = .ok (.iconst 0, 1) := by decide +kernel
theorem dX12_needsTwo_9 : decode cX12_needsTwo 9 = .ok (.ireturn, 1) := by decide +kernel
theorem dX12_needsTwo_10 : decode cX12_needsTwo 10 = .ok (.aload_n 0, 1) := by decide +kernel
theorem dX12_needsTwo_11 : decode cX12_needsTwo 11 = .ok (.aload_n 0, 1) := by decide +kernel
theorem dX12_needsTwo_12 : decode cX12_needsTwo 12 = .ok (.getfield 263, 3) := by decide +kernel
theorem dX12_needsTwo_15 : decode cX12_needsTwo 15 = .ok (.putfield 280, 3) := by decide +kernel
theorem dX12_needsTwo_18 : decode cX12_needsTwo 18 = .ok (.aload_n 0, 1) := by decide +kernel
theorem dX12_needsTwo_19 : decode cX12_needsTwo 19 = .ok (.invokevirtual 197, 3) := by decide +kernel
theorem dX12_needsTwo_22 : decode cX12_needsTwo 22 = .ok (.aload_n 0, 1) := by decide +kernel
theorem dX12_needsTwo_23 : decode cX12_needsTwo 23 = .ok (.iload_n 1, 1) := by decide +kernel
theorem dX12_needsTwo_24 : decode cX12_needsTwo 24 = .ok (.invokevirtual 277, 3) := by decide +kernel
theorem dX12_needsTwo_27 : decode cX12_needsTwo 27 = .ok (.ifCond .eq 26, 3) := by decide +kernel
theorem dX12_needsTwo_30 : decode cX12_needsTwo 30 = .ok (.aload_n 0, 1) := by decide +kernel
theorem dX12_needsTwo_31 : decode cX12_needsTwo 31 = .ok (.getfield 263, 3) := by decide +kernel
theorem dX12_needsTwo_34 : decode cX12_needsTwo 34 = .ok (.aload_n 0, 1) := by decide +kernel
theorem dX12_needsTwo_35 : decode cX12_needsTwo 35 = .ok (.getfield 280, 3) := by decide +kernel
theorem dX12_needsTwo_38 : decode cX12_needsTwo 38 = .ok (.if_icmp .ne 11, 3) := by decide +kernel
theorem dX12_needsTwo_41 : decode cX12_needsTwo 41 = .ok (.aload_n 0, 1) := by decide +kernel
theorem dX12_needsTwo_42 : decode cX12_needsTwo 42 = .ok (.iconst 3, 1) := by decide +kernel
theorem dX12_needsTwo_43 : decode cX12_needsTwo 43 = .ok (.invokevirtual 190, 3) := by decide +kernel
theorem dX12_needsTwo_46 : decode cX12_needsTwo 46 = .ok (.ifCond .eq 7, 3) := by decide +kernel
theorem dX12_needsTwo_49 : decode cX12_needsTwo 49 = .ok (.iconst 1, 1) := by decide +kernel
theorem dX12_needsTwo_50 : decode cX12_needsTwo 50 = .ok (.goto 4, 3) := by decide +kernel
theorem dX12_needsTwo_53 : decode cX12_needsTwo 53 = .ok (.iconst 0, 1) := by decide +kernel
theorem dX12_needsTwo_54 : decode cX12_needsTwo 54 = .ok (.ireturn, 1) := by decide +kernel
def g_X12_needsTwo (h : zH) (t0 : Nat) (x1 : Int32) : Option (Bool × zH) := (g_X12_needsPerson h t0 x1).bind fun v_1 => if (zb v_1.1) = 0 then (some (false, v_1.2)) else (zlet (zpi v_1.2 t0 36 (v_1.2.1 t0 35)) fun h_3 => (g_X12_nextToken h_3 t0).bind fun v_4 => (g_X12_needsPerson v_4 t0 x1).bind fun v_5 => if (zb v_5.1) = 0 then (some (false, v_5.2)) else (if (v_5.2.1 t0 35) = (v_5.2.1 t0 36) then ((g_X12_fails v_5.2 t0 3).bind fun v_8 => if (zb v_8.1) = 0 then (some (false, v_8.2)) else (some (true, v_8.2))) else (some (true, v_5.2))))
set_option maxRecDepth 100000 in
set_option maxHeartbeats 4000000 in
theorem b_X12_needsTwo {K : zK} {G : zG} (hK : zC K G cX12_needsTwo RX12 2 2 43 (some .boolean)) {h : zH} {t0 : Nat} {x1 : Int32} (ht0 : zT t0 = (11, 0)) {r : Bool × zH} (hE : zE K G (some (.int (zb r.1))) r.2) (hg : g_X12_needsTwo h t0 x1 = some r) : zW K G 2 0 [(0, .ref (G.2.2.2 t0)), (1, .int x1)] [] h := by
  rw [g_X12_needsTwo] at hg
  obtain ⟨v_1, qv_1, hg⟩ := zbind_some hg
  refine z_aload_n (pc := 0) hK 0 dX12_needsTwo_0 rfl (z_iload_n (pc := 1) hK 1 dX12_needsTwo_1 rfl (z_callVi (pc := 2) hK [.int x1] (m_X12_needsPerson (zC_D hK) ht0 qv_1) sv_X12_needsPerson q_1557 ht0 rfl [] rfl (Nat.le_of_ble_eq_true rfl) ⟨by decide, by decide⟩ dX12_needsTwo_2 (z_if_ne (pc := 5) hK 10 dX12_needsTwo_5 (by decide) (fun c_2 => ?_) (fun c_2 => ?_))))
  · rw [if_neg c_2] at hg
    obtain ⟨h_3, eh_3, hg⟩ := zlet_some hg
    obtain ⟨v_4, qv_4, hg⟩ := zbind_some hg
    obtain ⟨v_5, qv_5, hg⟩ := zbind_some hg
    refine z_aload_n (pc := 10) hK 0 dX12_needsTwo_10 rfl (z_aload_n (pc := 11) hK 0 dX12_needsTwo_11 rfl (z_getI (pc := 12) hK f_X12_263_11 ht0 dX12_needsTwo_12 (z_putI (pc := 15) hK f_X12_280_11 fp_11_36 ht0 dX12_needsTwo_15 (z_nameH eh_3 (z_aload_n (pc := 18) hK 0 dX12_needsTwo_18 rfl (z_callVv (pc := 19) hK [] (m_X12_nextToken (zC_D hK) ht0 qv_4) sv_X12_nextToken q_1474 ht0 rfl [] rfl (Nat.le_of_ble_eq_true rfl) ⟨by decide, by decide⟩ dX12_needsTwo_19 (z_aload_n (pc := 22) hK 0 dX12_needsTwo_22 rfl (z_iload_n (pc := 23) hK 1 dX12_needsTwo_23 rfl (z_callVi (pc := 24) hK [.int x1] (m_X12_needsPerson (zC_D hK) ht0 qv_5) sv_X12_needsPerson q_1557 ht0 rfl [] rfl (Nat.le_of_ble_eq_true rfl) ⟨by decide, by decide⟩ dX12_needsTwo_24 (z_if_eq (pc := 27) hK 53 dX12_needsTwo_27 (by decide) (fun c_6 => ?_) (fun c_6 => ?_)))))))))))
    · rw [if_pos c_6] at hg
      exact z_iconst (pc := 53) hK dX12_needsTwo_53 zc_i0 (z_zretE (pc := 54) hK rfl hE hg dX12_needsTwo_54)
    · rw [if_neg c_6] at hg
      refine z_aload_n (pc := 30) hK 0 dX12_needsTwo_30 rfl (z_getI (pc := 31) hK f_X12_263_11 ht0 dX12_needsTwo_31 (z_aload_n (pc := 34) hK 0 dX12_needsTwo_34 rfl (z_getI (pc := 35) hK f_X12_280_11 ht0 dX12_needsTwo_35 (z_icmp_ne (pc := 38) hK 49 dX12_needsTwo_38 (by decide) (fun c_7 => ?_) (fun c_7 => ?_)))))
      · rw [if_neg c_7] at hg
        exact z_iconst (pc := 49) hK dX12_needsTwo_49 zc_i1 (z_goto (pc := 50) hK 54 dX12_needsTwo_50 (by decide) (z_zretE (pc := 54) hK rfl hE hg dX12_needsTwo_54))
      · rw [if_pos c_7] at hg
        obtain ⟨v_8, qv_8, hg⟩ := zbind_some hg
        refine z_aload_n (pc := 41) hK 0 dX12_needsTwo_41 rfl (z_iconst (pc := 42) hK dX12_needsTwo_42 zc_i3 (z_callVi (pc := 43) hK [.int 3] (m_X12_fails (zC_D hK) ht0 qv_8) sv_X12_fails q_1493 ht0 rfl [] rfl (Nat.le_of_ble_eq_true rfl) ⟨by decide, by decide⟩ dX12_needsTwo_43 (z_if_eq (pc := 46) hK 53 dX12_needsTwo_46 (by decide) (fun c_9 => ?_) (fun c_9 => ?_))))
        · rw [if_pos c_9] at hg
          exact z_iconst (pc := 53) hK dX12_needsTwo_53 zc_i0 (z_zretE (pc := 54) hK rfl hE hg dX12_needsTwo_54)
        · rw [if_neg c_9] at hg
          exact z_iconst (pc := 49) hK dX12_needsTwo_49 zc_i1 (z_goto (pc := 50) hK 54 dX12_needsTwo_50 (by decide) (z_zretE (pc := 54) hK rfl hE hg dX12_needsTwo_54))
  · rw [if_pos c_2] at hg
    exact z_iconst (pc := 8) hK dX12_needsTwo_8 zc_i0 (z_zretE (pc := 9) hK rfl hE hg dX12_needsTwo_9)
theorem m_X12_needsTwo {l : Launch} {G : zG} (hG : zD G) {h : zH} {t0 : Nat} {x1 : Int32} (ht0 : zT t0 = (11, 0)) {r : Bool × zH} (hg : g_X12_needsTwo h t0 x1 = some r) : zM l G yX12_needsTwo cX12_needsTwo 2 (some .boolean) 2 43 [.ref (G.2.2.2 t0), .int x1] h (some (.int (zb r.1))) r.2 :=
  zM_of hG pn_X12 (Nat.le_of_ble_eq_true rfl) (fun K _ hK hE => b_X12_needsTwo hK ht0 hE hg)
