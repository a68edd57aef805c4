theorem d_Mod_add_0 : decode b_Mod_add 0 = .ok (.aload_n 0, 1) := by decide +kernel
theorem d_Mod_add_1 : decode b_Mod_add 1 = .ok (.invokevirtual 83, 3) := by decide +kernel
theorem d_Mod_add_4 : decode b_Mod_add 4 = .ok (.istore 5, 2) := by decide +kernel
theorem d_Mod_add_6 : decode b_Mod_add 6 = .ok (.iload_n 1, 1) := by decide +kernel
theorem d_Mod_add_7 : decode b_Mod_add 7 = .ok (.ifCond .le 46, 3) := by decide +kernel
theorem d_Mod_add_10 : decode b_Mod_add 10 = .ok (.iload_n 1, 1) := by decide +kernel
theorem d_Mod_add_11 : decode b_Mod_add 11 = .ok (.ldc 87, 2) := by decide +kernel
theorem d_Mod_add_13 : decode b_Mod_add 13 = .ok (.if_icmp .gt 40, 3) := by decide +kernel
theorem d_Mod_add_16 : decode b_Mod_add 16 = .ok (.iload_n 2, 1) := by decide +kernel
theorem d_Mod_add_17 : decode b_Mod_add 17 = .ok (.ifCond .lt 36, 3) := by decide +kernel
theorem d_Mod_add_20 : decode b_Mod_add 20 = .ok (.iload_n 2, 1) := by decide +kernel
theorem d_Mod_add_21 : decode b_Mod_add 21 = .ok (.ldc 45, 2) := by decide +kernel
theorem d_Mod_add_23 : decode b_Mod_add 23 = .ok (.if_icmp .ge 30, 3) := by decide +kernel
theorem d_Mod_add_26 : decode b_Mod_add 26 = .ok (.iload_n 3, 1) := by decide +kernel
theorem d_Mod_add_27 : decode b_Mod_add 27 = .ok (.ifCond .lt 26, 3) := by decide +kernel
theorem d_Mod_add_30 : decode b_Mod_add 30 = .ok (.iload_n 3, 1) := by decide +kernel
theorem d_Mod_add_31 : decode b_Mod_add 31 = .ok (.sipush 8192, 3) := by decide +kernel
theorem d_Mod_add_34 : decode b_Mod_add 34 = .ok (.if_icmp .ge 19, 3) := by decide +kernel
theorem d_Mod_add_37 : decode b_Mod_add 37 = .ok (.iload 4, 2) := by decide +kernel
theorem d_Mod_add_39 : decode b_Mod_add 39 = .ok (.ifCond .le 14, 3) := by decide +kernel
theorem d_Mod_add_42 : decode b_Mod_add 42 = .ok (.iload 4, 2) := by decide +kernel
theorem d_Mod_add_44 : decode b_Mod_add 44 = .ok (.bipush 8, 2) := by decide +kernel
theorem d_Mod_add_46 : decode b_Mod_add 46 = .ok (.if_icmp .ge 7, 3) := by decide +kernel
theorem d_Mod_add_49 : decode b_Mod_add 49 = .ok (.iconst 1, 1) := by decide +kernel
theorem d_Mod_add_50 : decode b_Mod_add 50 = .ok (.goto 4, 3) := by decide +kernel
theorem d_Mod_add_53 : decode b_Mod_add 53 = .ok (.iconst 0, 1) := by decide +kernel
theorem d_Mod_add_54 : decode b_Mod_add 54 = .ok (.istore 6, 2) := by decide +kernel
theorem d_Mod_add_56 : decode b_Mod_add 56 = .ok (.iload 6, 2) := by decide +kernel
theorem d_Mod_add_58 : decode b_Mod_add 58 = .ok (.ifCond .eq 12, 3) := by decide +kernel
theorem d_Mod_add_61 : decode b_Mod_add 61 = .ok (.aload_n 0, 1) := by decide +kernel
theorem d_Mod_add_62 : decode b_Mod_add 62 = .ok (.iload 5, 2) := by decide +kernel
theorem d_Mod_add_64 : decode b_Mod_add 64 = .ok (.invokevirtual 88, 3) := by decide +kernel
theorem d_Mod_add_67 : decode b_Mod_add 67 = .ok (.ifCond .ne 5, 3) := by decide +kernel
theorem d_Mod_add_70 : decode b_Mod_add 70 = .ok (.iconst (-1), 1) := by decide +kernel
theorem d_Mod_add_71 : decode b_Mod_add 71 = .ok (.ireturn, 1) := by decide +kernel
theorem d_Mod_add_72 : decode b_Mod_add 72 = .ok (.aload_n 0, 1) := by decide +kernel
theorem d_Mod_add_73 : decode b_Mod_add 73 = .ok (.iload 5, 2) := by decide +kernel
theorem d_Mod_add_75 : decode b_Mod_add 75 = .ok (.invokevirtual 92, 3) := by decide +kernel
theorem d_Mod_add_78 : decode b_Mod_add 78 = .ok (.ifCond .lt 6, 3) := by decide +kernel
theorem d_Mod_add_81 : decode b_Mod_add 81 = .ok (.bipush (-3), 2) := by decide +kernel
theorem d_Mod_add_83 : decode b_Mod_add 83 = .ok (.ireturn, 1) := by decide +kernel
theorem d_Mod_add_84 : decode b_Mod_add 84 = .ok (.aload_n 0, 1) := by decide +kernel
theorem d_Mod_add_85 : decode b_Mod_add 85 = .ok (.iload_n 1, 1) := by decide +kernel
theorem d_Mod_add_86 : decode b_Mod_add 86 = .ok (.i2l, 1) := by decide +kernel
theorem d_Mod_add_87 : decode b_Mod_add 87 = .ok (.invokevirtual 96, 3) := by decide +kernel
theorem d_Mod_add_90 : decode b_Mod_add 90 = .ok (.istore 7, 2) := by decide +kernel
theorem d_Mod_add_92 : decode b_Mod_add 92 = .ok (.aload_n 0, 1) := by decide +kernel
theorem d_Mod_add_93 : decode b_Mod_add 93 = .ok (.getfield 74, 3) := by decide +kernel
theorem d_Mod_add_96 : decode b_Mod_add 96 = .ok (.sipush 600, 3) := by decide +kernel
theorem d_Mod_add_99 : decode b_Mod_add 99 = .ok (.if_icmp .eq 18, 3) := by decide +kernel
theorem d_Mod_add_102 : decode b_Mod_add 102 = .ok (.iload 7, 2) := by decide +kernel
theorem d_Mod_add_104 : decode b_Mod_add 104 = .ok (.ifCond .ge 16, 3) := by decide +kernel
theorem d_Mod_add_107 : decode b_Mod_add 107 = .ok (.aload_n 0, 1) := by decide +kernel
theorem d_Mod_add_108 : decode b_Mod_add 108 = .ok (.getfield 80, 3) := by decide +kernel
theorem d_Mod_add_111 : decode b_Mod_add 111 = .ok (.sipush 1500, 3) := by decide +kernel
theorem d_Mod_add_114 : decode b_Mod_add 114 = .ok (.if_icmp .ne 6, 3) := by decide +kernel
theorem d_Mod_add_117 : decode b_Mod_add 117 = .ok (.bipush (-4), 2) := by decide +kernel
theorem d_Mod_add_119 : decode b_Mod_add 119 = .ok (.ireturn, 1) := by decide +kernel
theorem d_Mod_add_120 : decode b_Mod_add 120 = .ok (.aload_n 0, 1) := by decide +kernel
theorem d_Mod_add_121 : decode b_Mod_add 121 = .ok (.iload 7, 2) := by decide +kernel
theorem d_Mod_add_123 : decode b_Mod_add 123 = .ok (.ifCond .ge 12, 3) := by decide +kernel
theorem d_Mod_add_126 : decode b_Mod_add 126 = .ok (.aload_n 0, 1) := by decide +kernel
theorem d_Mod_add_127 : decode b_Mod_add 127 = .ok (.getfield 80, 3) := by decide +kernel
theorem d_Mod_add_130 : decode b_Mod_add 130 = .ok (.iconst 1, 1) := by decide +kernel
theorem d_Mod_add_131 : decode b_Mod_add 131 = .ok (.iadd, 1) := by decide +kernel
theorem d_Mod_add_132 : decode b_Mod_add 132 = .ok (.goto 7, 3) := by decide +kernel
theorem d_Mod_add_135 : decode b_Mod_add 135 = .ok (.aload_n 0, 1) := by decide +kernel
theorem d_Mod_add_136 : decode b_Mod_add 136 = .ok (.getfield 80, 3) := by decide +kernel
theorem d_Mod_add_139 : decode b_Mod_add 139 = .ok (.putfield 80, 3) := by decide +kernel
theorem d_Mod_add_142 : decode b_Mod_add 142 = .ok (.iload 7, 2) := by decide +kernel
theorem d_Mod_add_144 : decode b_Mod_add 144 = .ok (.ifCond .ge 12, 3) := by decide +kernel
theorem d_Mod_add_147 : decode b_Mod_add 147 = .ok (.aload_n 0, 1) := by decide +kernel
theorem d_Mod_add_148 : decode b_Mod_add 148 = .ok (.getfield 80, 3) := by decide +kernel
theorem d_Mod_add_151 : decode b_Mod_add 151 = .ok (.iconst 1, 1) := by decide +kernel
theorem d_Mod_add_152 : decode b_Mod_add 152 = .ok (.isub, 1) := by decide +kernel
theorem d_Mod_add_153 : decode b_Mod_add 153 = .ok (.goto 5, 3) := by decide +kernel
theorem d_Mod_add_156 : decode b_Mod_add 156 = .ok (.iload 7, 2) := by decide +kernel
theorem d_Mod_add_158 : decode b_Mod_add 158 = .ok (.istore 7, 2) := by decide +kernel
theorem d_Mod_add_160 : decode b_Mod_add 160 = .ok (.aload_n 0, 1) := by decide +kernel
theorem d_Mod_add_161 : decode b_Mod_add 161 = .ok (.getfield 33, 3) := by decide +kernel
theorem d_Mod_add_164 : decode b_Mod_add 164 = .ok (.iload 7, 2) := by decide +kernel
theorem d_Mod_add_166 : decode b_Mod_add 166 = .ok (.iload_n 1, 1) := by decide +kernel
theorem d_Mod_add_167 : decode b_Mod_add 167 = .ok (.iastore, 1) := by decide +kernel
theorem d_Mod_add_168 : decode b_Mod_add 168 = .ok (.aload_n 0, 1) := by decide +kernel
theorem d_Mod_add_169 : decode b_Mod_add 169 = .ok (.getfield 36, 3) := by decide +kernel
theorem d_Mod_add_172 : decode b_Mod_add 172 = .ok (.iload 7, 2) := by decide +kernel
theorem d_Mod_add_174 : decode b_Mod_add 174 = .ok (.iload_n 2, 1) := by decide +kernel
theorem d_Mod_add_175 : decode b_Mod_add 175 = .ok (.iastore, 1) := by decide +kernel
theorem d_Mod_add_176 : decode b_Mod_add 176 = .ok (.aload_n 0, 1) := by decide +kernel
theorem d_Mod_add_177 : decode b_Mod_add 177 = .ok (.getfield 39, 3) := by decide +kernel
theorem d_Mod_add_180 : decode b_Mod_add 180 = .ok (.iload 7, 2) := by decide +kernel
theorem d_Mod_add_182 : decode b_Mod_add 182 = .ok (.iload_n 3, 1) := by decide +kernel
theorem d_Mod_add_183 : decode b_Mod_add 183 = .ok (.iastore, 1) := by decide +kernel
theorem d_Mod_add_184 : decode b_Mod_add 184 = .ok (.aload_n 0, 1) := by decide +kernel
theorem d_Mod_add_185 : decode b_Mod_add 185 = .ok (.getfield 42, 3) := by decide +kernel
theorem d_Mod_add_188 : decode b_Mod_add 188 = .ok (.iload 7, 2) := by decide +kernel
theorem d_Mod_add_190 : decode b_Mod_add 190 = .ok (.iload 4, 2) := by decide +kernel
theorem d_Mod_add_192 : decode b_Mod_add 192 = .ok (.iastore, 1) := by decide +kernel
theorem d_Mod_add_193 : decode b_Mod_add 193 = .ok (.aload_n 0, 1) := by decide +kernel
theorem d_Mod_add_194 : decode b_Mod_add 194 = .ok (.getfield 13, 3) := by decide +kernel
theorem d_Mod_add_197 : decode b_Mod_add 197 = .ok (.aload_n 0, 1) := by decide +kernel
theorem d_Mod_add_198 : decode b_Mod_add 198 = .ok (.getfield 74, 3) := by decide +kernel
theorem d_Mod_add_201 : decode b_Mod_add 201 = .ok (.iload 5, 2) := by decide +kernel
theorem d_Mod_add_203 : decode b_Mod_add 203 = .ok (.iastore, 1) := by decide +kernel
theorem d_Mod_add_204 : decode b_Mod_add 204 = .ok (.iconst 0, 1) := by decide +kernel
theorem d_Mod_add_205 : decode b_Mod_add 205 = .ok (.istore 8, 2) := by decide +kernel
theorem d_Mod_add_207 : decode b_Mod_add 207 = .ok (.iload 8, 2) := by decide +kernel
theorem d_Mod_add_209 : decode b_Mod_add 209 = .ok (.iload 5, 2) := by decide +kernel
theorem d_Mod_add_211 : decode b_Mod_add 211 = .ok (.if_icmp .ge 33, 3) := by decide +kernel
theorem d_Mod_add_214 : decode b_Mod_add 214 = .ok (.aload_n 0, 1) := by decide +kernel
theorem d_Mod_add_215 : decode b_Mod_add 215 = .ok (.getfield 17, 3) := by decide +kernel
theorem d_Mod_add_218 : decode b_Mod_add 218 = .ok (.sipush 256, 3) := by decide +kernel
theorem d_Mod_add_221 : decode b_Mod_add 221 = .ok (.aload_n 0, 1) := by decide +kernel
theorem d_Mod_add_222 : decode b_Mod_add 222 = .ok (.getfield 74, 3) := by decide +kernel
theorem d_Mod_add_225 : decode b_Mod_add 225 = .ok (.imul, 1) := by decide +kernel
theorem d_Mod_add_226 : decode b_Mod_add 226 = .ok (.iload 8, 2) := by decide +kernel
theorem d_Mod_add_228 : decode b_Mod_add 228 = .ok (.iadd, 1) := by decide +kernel
theorem d_Mod_add_229 : decode b_Mod_add 229 = .ok (.aload_n 0, 1) := by decide +kernel
theorem d_Mod_add_230 : decode b_Mod_add 230 = .ok (.getfield 7, 3) := by decide +kernel
theorem d_Mod_add_233 : decode b_Mod_add 233 = .ok (.iload 8, 2) := by decide +kernel
theorem d_Mod_add_235 : decode b_Mod_add 235 = .ok (.iaload, 1) := by decide +kernel
theorem d_Mod_add_236 : decode b_Mod_add 236 = .ok (.i2b, 1) := by decide +kernel
theorem d_Mod_add_237 : decode b_Mod_add 237 = .ok (.bastore, 1) := by decide +kernel
theorem d_Mod_add_238 : decode b_Mod_add 238 = .ok (.iinc 8 1, 3) := by decide +kernel
theorem d_Mod_add_241 : decode b_Mod_add 241 = .ok (.goto (-34), 3) := by decide +kernel
theorem d_Mod_add_244 : decode b_Mod_add 244 = .ok (.aload_n 0, 1) := by decide +kernel
theorem d_Mod_add_245 : decode b_Mod_add 245 = .ok (.getfield 21, 3) := by decide +kernel
theorem d_Mod_add_248 : decode b_Mod_add 248 = .ok (.aload_n 0, 1) := by decide +kernel
theorem d_Mod_add_249 : decode b_Mod_add 249 = .ok (.getfield 74, 3) := by decide +kernel
theorem d_Mod_add_252 : decode b_Mod_add 252 = .ok (.iload_n 1, 1) := by decide +kernel
theorem d_Mod_add_253 : decode b_Mod_add 253 = .ok (.iastore, 1) := by decide +kernel
theorem d_Mod_add_254 : decode b_Mod_add 254 = .ok (.aload_n 0, 1) := by decide +kernel
theorem d_Mod_add_255 : decode b_Mod_add 255 = .ok (.getfield 24, 3) := by decide +kernel
theorem d_Mod_add_258 : decode b_Mod_add 258 = .ok (.aload_n 0, 1) := by decide +kernel
theorem d_Mod_add_259 : decode b_Mod_add 259 = .ok (.getfield 74, 3) := by decide +kernel
theorem d_Mod_add_262 : decode b_Mod_add 262 = .ok (.iload_n 2, 1) := by decide +kernel
theorem d_Mod_add_263 : decode b_Mod_add 263 = .ok (.iastore, 1) := by decide +kernel
theorem d_Mod_add_264 : decode b_Mod_add 264 = .ok (.aload_n 0, 1) := by decide +kernel
theorem d_Mod_add_265 : decode b_Mod_add 265 = .ok (.getfield 27, 3) := by decide +kernel
theorem d_Mod_add_268 : decode b_Mod_add 268 = .ok (.aload_n 0, 1) := by decide +kernel
theorem d_Mod_add_269 : decode b_Mod_add 269 = .ok (.getfield 74, 3) := by decide +kernel
theorem d_Mod_add_272 : decode b_Mod_add 272 = .ok (.iload_n 3, 1) := by decide +kernel
theorem d_Mod_add_273 : decode b_Mod_add 273 = .ok (.iastore, 1) := by decide +kernel
theorem d_Mod_add_274 : decode b_Mod_add 274 = .ok (.aload_n 0, 1) := by decide +kernel
theorem d_Mod_add_275 : decode b_Mod_add 275 = .ok (.getfield 30, 3) := by decide +kernel
theorem d_Mod_add_278 : decode b_Mod_add 278 = .ok (.aload_n 0, 1) := by decide +kernel
theorem d_Mod_add_279 : decode b_Mod_add 279 = .ok (.getfield 74, 3) := by decide +kernel
theorem d_Mod_add_282 : decode b_Mod_add 282 = .ok (.iload 4, 2) := by decide +kernel
theorem d_Mod_add_284 : decode b_Mod_add 284 = .ok (.iastore, 1) := by decide +kernel
theorem d_Mod_add_285 : decode b_Mod_add 285 = .ok (.aload_n 0, 1) := by decide +kernel
theorem d_Mod_add_286 : decode b_Mod_add 286 = .ok (.dup, 1) := by decide +kernel
theorem d_Mod_add_287 : decode b_Mod_add 287 = .ok (.getfield 74, 3) := by decide +kernel
theorem d_Mod_add_290 : decode b_Mod_add 290 = .ok (.iconst 1, 1) := by decide +kernel
theorem d_Mod_add_291 : decode b_Mod_add 291 = .ok (.iadd, 1) := by decide +kernel
theorem d_Mod_add_292 : decode b_Mod_add 292 = .ok (.putfield 74, 3) := by decide +kernel
theorem d_Mod_add_295 : decode b_Mod_add 295 = .ok (.aload_n 0, 1) := by decide +kernel
theorem d_Mod_add_296 : decode b_Mod_add 296 = .ok (.getfield 74, 3) := by decide +kernel
theorem d_Mod_add_299 : decode b_Mod_add 299 = .ok (.ireturn, 1) := by decide +kernel
theorem d_Mod_use_0 : decode b_Mod_use 0 = .ok (.aload_n 0, 1) := by decide +kernel
theorem d_Mod_use_1 : decode b_Mod_use 1 = .ok (.getfield 64, 3) := by decide +kernel
theorem d_Mod_use_4 : decode b_Mod_use 4 = .ok (.istore_n 1, 1) := by decide +kernel
theorem d_Mod_use_5 : decode b_Mod_use 5 = .ok (.aload_n 0, 1) := by decide +kernel
theorem d_Mod_use_6 : decode b_Mod_use 6 = .ok (.iconst 0, 1) := by decide +kernel
theorem d_Mod_use_7 : decode b_Mod_use 7 = .ok (.putfield 64, 3) := by decide +kernel
theorem d_Mod_use_10 : decode b_Mod_use 10 = .ok (.iload_n 1, 1) := by decide +kernel
theorem d_Mod_use_11 : decode b_Mod_use 11 = .ok (.ireturn, 1) := by decide +kernel
theorem d_Mod_isName_0 : decode b_Mod_isName 0 = .ok (.iload_n 1, 1) := by decide +kernel
theorem d_Mod_isName_1 : decode b_Mod_isName 1 = .ok (.ifCond .le 36, 3) := by decide +kernel
theorem d_Mod_isName_4 : decode b_Mod_isName 4 = .ok (.iload_n 1, 1) := by decide +kernel
theorem d_Mod_isName_5 : decode b_Mod_isName 5 = .ok (.iconst 3, 1) := by decide +kernel
theorem d_Mod_isName_6 : decode b_Mod_isName 6 = .ok (.if_icmp .ge 31, 3) := by decide +kernel
theorem d_Mod_isName_9 : decode b_Mod_isName 9 = .ok (.aload_n 0, 1) := by decide +kernel
theorem d_Mod_isName_10 : decode b_Mod_isName 10 = .ok (.getfield 7, 3) := by decide +kernel
theorem d_Mod_isName_13 : decode b_Mod_isName 13 = .ok (.iconst 0, 1) := by decide +kernel
theorem d_Mod_isName_14 : decode b_Mod_isName 14 = .ok (.iaload, 1) := by decide +kernel
theorem d_Mod_isName_15 : decode b_Mod_isName 15 = .ok (.bipush 46, 2) := by decide +kernel
theorem d_Mod_isName_17 : decode b_Mod_isName 17 = .ok (.if_icmp .ne 20, 3) := by decide +kernel
theorem d_Mod_isName_20 : decode b_Mod_isName 20 = .ok (.aload_n 0, 1) := by decide +kernel
theorem d_Mod_isName_21 : decode b_Mod_isName 21 = .ok (.getfield 7, 3) := by decide +kernel
theorem d_Mod_isName_24 : decode b_Mod_isName 24 = .ok (.iload_n 1, 1) := by decide +kernel
theorem d_Mod_isName_25 : decode b_Mod_isName 25 = .ok (.iconst 1, 1) := by decide +kernel
theorem d_Mod_isName_26 : decode b_Mod_isName 26 = .ok (.isub, 1) := by decide +kernel
theorem d_Mod_isName_27 : decode b_Mod_isName 27 = .ok (.iaload, 1) := by decide +kernel
theorem d_Mod_isName_28 : decode b_Mod_isName 28 = .ok (.bipush 46, 2) := by decide +kernel
theorem d_Mod_isName_30 : decode b_Mod_isName 30 = .ok (.if_icmp .ne 7, 3) := by decide +kernel
theorem d_Mod_isName_33 : decode b_Mod_isName 33 = .ok (.iconst 1, 1) := by decide +kernel
theorem d_Mod_isName_34 : decode b_Mod_isName 34 = .ok (.goto 4, 3) := by decide +kernel
theorem d_Mod_isName_37 : decode b_Mod_isName 37 = .ok (.iconst 0, 1) := by decide +kernel
theorem d_Mod_isName_38 : decode b_Mod_isName 38 = .ok (.istore_n 2, 1) := by decide +kernel
theorem d_Mod_isName_39 : decode b_Mod_isName 39 = .ok (.iload_n 1, 1) := by decide +kernel
theorem d_Mod_isName_40 : decode b_Mod_isName 40 = .ok (.ifCond .le 18, 3) := by decide +kernel
theorem d_Mod_isName_43 : decode b_Mod_isName 43 = .ok (.iload_n 1, 1) := by decide +kernel
theorem d_Mod_isName_44 : decode b_Mod_isName 44 = .ok (.sipush 256, 3) := by decide +kernel
theorem d_Mod_isName_47 : decode b_Mod_isName 47 = .ok (.if_icmp .gt 11, 3) := by decide +kernel
theorem d_Mod_isName_50 : decode b_Mod_isName 50 = .ok (.iload_n 2, 1) := by decide +kernel
theorem d_Mod_isName_51 : decode b_Mod_isName 51 = .ok (.ifCond .ne 7, 3) := by decide +kernel
theorem d_Mod_isName_54 : decode b_Mod_isName 54 = .ok (.iconst 1, 1) := by decide +kernel
theorem d_Mod_isName_55 : decode b_Mod_isName 55 = .ok (.goto 4, 3) := by decide +kernel
theorem d_Mod_isName_58 : decode b_Mod_isName 58 = .ok (.iconst 0, 1) := by decide +kernel
theorem d_Mod_isName_59 : decode b_Mod_isName 59 = .ok (.istore_n 3, 1) := by decide +kernel
theorem d_Mod_isName_60 : decode b_Mod_isName 60 = .ok (.iconst 0, 1) := by decide +kernel
theorem d_Mod_isName_61 : decode b_Mod_isName 61 = .ok (.istore 4, 2) := by decide +kernel
theorem d_Mod_isName_63 : decode b_Mod_isName 63 = .ok (.iload 4, 2) := by decide +kernel
theorem d_Mod_isName_65 : decode b_Mod_isName 65 = .ok (.iload_n 1, 1) := by decide +kernel
theorem d_Mod_isName_66 : decode b_Mod_isName 66 = .ok (.if_icmp .ge 41, 3) := by decide +kernel
theorem d_Mod_isName_69 : decode b_Mod_isName 69 = .ok (.iload_n 3, 1) := by decide +kernel
theorem d_Mod_isName_70 : decode b_Mod_isName 70 = .ok (.ifCond .eq 37, 3) := by decide +kernel
theorem d_Mod_isName_73 : decode b_Mod_isName 73 = .ok (.aload_n 0, 1) := by decide +kernel
theorem d_Mod_isName_74 : decode b_Mod_isName 74 = .ok (.getfield 7, 3) := by decide +kernel
theorem d_Mod_isName_77 : decode b_Mod_isName 77 = .ok (.iload 4, 2) := by decide +kernel
theorem d_Mod_isName_79 : decode b_Mod_isName 79 = .ok (.iaload, 1) := by decide +kernel
theorem d_Mod_isName_80 : decode b_Mod_isName 80 = .ok (.ifCond .eq 19, 3) := by decide +kernel
theorem d_Mod_isName_83 : decode b_Mod_isName 83 = .ok (.aload_n 0, 1) := by decide +kernel
theorem d_Mod_isName_84 : decode b_Mod_isName 84 = .ok (.getfield 7, 3) := by decide +kernel
theorem d_Mod_isName_87 : decode b_Mod_isName 87 = .ok (.iload 4, 2) := by decide +kernel
theorem d_Mod_isName_89 : decode b_Mod_isName 89 = .ok (.iaload, 1) := by decide +kernel
theorem d_Mod_isName_90 : decode b_Mod_isName 90 = .ok (.bipush 47, 2) := by decide +kernel
theorem d_Mod_isName_92 : decode b_Mod_isName 92 = .ok (.if_icmp .eq 7, 3) := by decide +kernel
theorem d_Mod_isName_95 : decode b_Mod_isName 95 = .ok (.iconst 1, 1) := by decide +kernel
theorem d_Mod_isName_96 : decode b_Mod_isName 96 = .ok (.goto 4, 3) := by decide +kernel
theorem d_Mod_isName_99 : decode b_Mod_isName 99 = .ok (.iconst 0, 1) := by decide +kernel
theorem d_Mod_isName_100 : decode b_Mod_isName 100 = .ok (.istore_n 3, 1) := by decide +kernel
theorem d_Mod_isName_101 : decode b_Mod_isName 101 = .ok (.iinc 4 1, 3) := by decide +kernel
theorem d_Mod_isName_104 : decode b_Mod_isName 104 = .ok (.goto (-41), 3) := by decide +kernel
theorem d_Mod_isName_107 : decode b_Mod_isName 107 = .ok (.iload_n 3, 1) := by decide +kernel
theorem d_Mod_isName_108 : decode b_Mod_isName 108 = .ok (.ireturn, 1) := by decide +kernel
theorem d_Mod_entryOfTape_0 : decode b_Mod_entryOfTape 0 = .ok (.bipush (-2), 2) := by decide +kernel
theorem d_Mod_entryOfTape_2 : decode b_Mod_entryOfTape 2 = .ok (.istore_n 2, 1) := by decide +kernel
theorem d_Mod_entryOfTape_3 : decode b_Mod_entryOfTape 3 = .ok (.iconst 0, 1) := by decide +kernel
theorem d_Mod_entryOfTape_4 : decode b_Mod_entryOfTape 4 = .ok (.istore_n 3, 1) := by decide +kernel
theorem d_Mod_entryOfTape_5 : decode b_Mod_entryOfTape 5 = .ok (.iload_n 3, 1) := by decide +kernel
theorem d_Mod_entryOfTape_6 : decode b_Mod_entryOfTape 6 = .ok (.aload_n 0, 1) := by decide +kernel
theorem d_Mod_entryOfTape_7 : decode b_Mod_entryOfTape 7 = .ok (.getfield 74, 3) := by decide +kernel
theorem d_Mod_entryOfTape_10 : decode b_Mod_entryOfTape 10 = .ok (.if_icmp .ge 24, 3) := by decide +kernel
theorem d_Mod_entryOfTape_13 : decode b_Mod_entryOfTape 13 = .ok (.aload_n 0, 1) := by decide +kernel
theorem d_Mod_entryOfTape_14 : decode b_Mod_entryOfTape 14 = .ok (.iload_n 1, 1) := by decide +kernel
theorem d_Mod_entryOfTape_15 : decode b_Mod_entryOfTape 15 = .ok (.iload_n 3, 1) := by decide +kernel
theorem d_Mod_entryOfTape_16 : decode b_Mod_entryOfTape 16 = .ok (.invokevirtual 77, 3) := by decide +kernel
theorem d_Mod_entryOfTape_19 : decode b_Mod_entryOfTape 19 = .ok (.ifCond .ne 7, 3) := by decide +kernel
theorem d_Mod_entryOfTape_22 : decode b_Mod_entryOfTape 22 = .ok (.iload_n 3, 1) := by decide +kernel
theorem d_Mod_entryOfTape_23 : decode b_Mod_entryOfTape 23 = .ok (.goto 4, 3) := by decide +kernel
theorem d_Mod_entryOfTape_26 : decode b_Mod_entryOfTape 26 = .ok (.iload_n 2, 1) := by decide +kernel
theorem d_Mod_entryOfTape_27 : decode b_Mod_entryOfTape 27 = .ok (.istore_n 2, 1) := by decide +kernel
theorem d_Mod_entryOfTape_28 : decode b_Mod_entryOfTape 28 = .ok (.iinc 3 1, 3) := by decide +kernel
theorem d_Mod_entryOfTape_31 : decode b_Mod_entryOfTape 31 = .ok (.goto (-26), 3) := by decide +kernel
theorem d_Mod_entryOfTape_34 : decode b_Mod_entryOfTape 34 = .ok (.iload_n 2, 1) := by decide +kernel
theorem d_Mod_entryOfTape_35 : decode b_Mod_entryOfTape 35 = .ok (.ireturn, 1) := by decide +kernel
theorem d_Mod_orderOfTape_0 : decode b_Mod_orderOfTape 0 = .ok (.iconst 0, 1) := by decide +kernel
theorem d_Mod_orderOfTape_1 : decode b_Mod_orderOfTape 1 = .ok (.istore_n 3, 1) := by decide +kernel
theorem d_Mod_orderOfTape_2 : decode b_Mod_orderOfTape 2 = .ok (.iload_n 3, 1) := by decide +kernel
theorem d_Mod_orderOfTape_3 : decode b_Mod_orderOfTape 3 = .ok (.iload_n 1, 1) := by decide +kernel
theorem d_Mod_orderOfTape_4 : decode b_Mod_orderOfTape 4 = .ok (.if_icmp .ge 48, 3) := by decide +kernel
theorem d_Mod_orderOfTape_7 : decode b_Mod_orderOfTape 7 = .ok (.iload_n 3, 1) := by decide +kernel
theorem d_Mod_orderOfTape_8 : decode b_Mod_orderOfTape 8 = .ok (.aload_n 0, 1) := by decide +kernel
theorem d_Mod_orderOfTape_9 : decode b_Mod_orderOfTape 9 = .ok (.getfield 13, 3) := by decide +kernel
theorem d_Mod_orderOfTape_12 : decode b_Mod_orderOfTape 12 = .ok (.iload_n 2, 1) := by decide +kernel
theorem d_Mod_orderOfTape_13 : decode b_Mod_orderOfTape 13 = .ok (.iaload, 1) := by decide +kernel
theorem d_Mod_orderOfTape_14 : decode b_Mod_orderOfTape 14 = .ok (.if_icmp .ge 38, 3) := by decide +kernel
theorem d_Mod_orderOfTape_17 : decode b_Mod_orderOfTape 17 = .ok (.aload_n 0, 1) := by decide +kernel
theorem d_Mod_orderOfTape_18 : decode b_Mod_orderOfTape 18 = .ok (.getfield 7, 3) := by decide +kernel
theorem d_Mod_orderOfTape_21 : decode b_Mod_orderOfTape 21 = .ok (.iload_n 3, 1) := by decide +kernel
theorem d_Mod_orderOfTape_22 : decode b_Mod_orderOfTape 22 = .ok (.iaload, 1) := by decide +kernel
theorem d_Mod_orderOfTape_23 : decode b_Mod_orderOfTape 23 = .ok (.aload_n 0, 1) := by decide +kernel
theorem d_Mod_orderOfTape_24 : decode b_Mod_orderOfTape 24 = .ok (.iload_n 2, 1) := by decide +kernel
theorem d_Mod_orderOfTape_25 : decode b_Mod_orderOfTape 25 = .ok (.iload_n 3, 1) := by decide +kernel
theorem d_Mod_orderOfTape_26 : decode b_Mod_orderOfTape 26 = .ok (.invokevirtual 70, 3) := by decide +kernel
theorem d_Mod_orderOfTape_29 : decode b_Mod_orderOfTape 29 = .ok (.if_icmp .eq 17, 3) := by decide +kernel
theorem d_Mod_orderOfTape_32 : decode b_Mod_orderOfTape 32 = .ok (.aload_n 0, 1) := by decide +kernel
theorem d_Mod_orderOfTape_33 : decode b_Mod_orderOfTape 33 = .ok (.getfield 7, 3) := by decide +kernel
theorem d_Mod_orderOfTape_36 : decode b_Mod_orderOfTape 36 = .ok (.iload_n 3, 1) := by decide +kernel
theorem d_Mod_orderOfTape_37 : decode b_Mod_orderOfTape 37 = .ok (.iaload, 1) := by decide +kernel
theorem d_Mod_orderOfTape_38 : decode b_Mod_orderOfTape 38 = .ok (.aload_n 0, 1) := by decide +kernel
theorem d_Mod_orderOfTape_39 : decode b_Mod_orderOfTape 39 = .ok (.iload_n 2, 1) := by decide +kernel
theorem d_Mod_orderOfTape_40 : decode b_Mod_orderOfTape 40 = .ok (.iload_n 3, 1) := by decide +kernel
theorem d_Mod_orderOfTape_41 : decode b_Mod_orderOfTape 41 = .ok (.invokevirtual 70, 3) := by decide +kernel
theorem d_Mod_orderOfTape_44 : decode b_Mod_orderOfTape 44 = .ok (.isub, 1) := by decide +kernel
theorem d_Mod_orderOfTape_45 : decode b_Mod_orderOfTape 45 = .ok (.ireturn, 1) := by decide +kernel
theorem d_Mod_orderOfTape_46 : decode b_Mod_orderOfTape 46 = .ok (.iinc 3 1, 3) := by decide +kernel
theorem d_Mod_orderOfTape_49 : decode b_Mod_orderOfTape 49 = .ok (.goto (-47), 3) := by decide +kernel
theorem d_Mod_orderOfTape_52 : decode b_Mod_orderOfTape 52 = .ok (.iload_n 1, 1) := by decide +kernel
theorem d_Mod_orderOfTape_53 : decode b_Mod_orderOfTape 53 = .ok (.aload_n 0, 1) := by decide +kernel
theorem d_Mod_orderOfTape_54 : decode b_Mod_orderOfTape 54 = .ok (.getfield 13, 3) := by decide +kernel
theorem d_Mod_orderOfTape_57 : decode b_Mod_orderOfTape 57 = .ok (.iload_n 2, 1) := by decide +kernel
theorem d_Mod_orderOfTape_58 : decode b_Mod_orderOfTape 58 = .ok (.iaload, 1) := by decide +kernel
theorem d_Mod_orderOfTape_59 : decode b_Mod_orderOfTape 59 = .ok (.isub, 1) := by decide +kernel
theorem d_Mod_orderOfTape_60 : decode b_Mod_orderOfTape 60 = .ok (.ireturn, 1) := by decide +kernel
theorem d_Mod_nameByte_0 : decode b_Mod_nameByte 0 = .ok (.aload_n 0, 1) := by decide +kernel
theorem d_Mod_nameByte_1 : decode b_Mod_nameByte 1 = .ok (.getfield 17, 3) := by decide +kernel
theorem d_Mod_nameByte_4 : decode b_Mod_nameByte 4 = .ok (.sipush 256, 3) := by decide +kernel
theorem d_Mod_nameByte_7 : decode b_Mod_nameByte 7 = .ok (.iload_n 1, 1) := by decide +kernel
theorem d_Mod_nameByte_8 : decode b_Mod_nameByte 8 = .ok (.imul, 1) := by decide +kernel
theorem d_Mod_nameByte_9 : decode b_Mod_nameByte 9 = .ok (.iload_n 2, 1) := by decide +kernel
theorem d_Mod_nameByte_10 : decode b_Mod_nameByte 10 = .ok (.iadd, 1) := by decide +kernel
theorem d_Mod_nameByte_11 : decode b_Mod_nameByte 11 = .ok (.baload, 1) := by decide +kernel
theorem d_Mod_nameByte_12 : decode b_Mod_nameByte 12 = .ok (.sipush 255, 3) := by decide +kernel
theorem d_Mod_nameByte_15 : decode b_Mod_nameByte 15 = .ok (.iand, 1) := by decide +kernel
theorem d_Mod_nameByte_16 : decode b_Mod_nameByte 16 = .ok (.ireturn, 1) := by decide +kernel
theorem d_Mod_knownAt_0 : decode b_Mod_knownAt 0 = .ok (.bipush (-2), 2) := by decide +kernel
theorem d_Mod_knownAt_2 : decode b_Mod_knownAt 2 = .ok (.istore_n 3, 1) := by decide +kernel
theorem d_Mod_knownAt_3 : decode b_Mod_knownAt 3 = .ok (.iconst 0, 1) := by decide +kernel
theorem d_Mod_knownAt_4 : decode b_Mod_knownAt 4 = .ok (.istore 4, 2) := by decide +kernel
theorem d_Mod_knownAt_6 : decode b_Mod_knownAt 6 = .ok (.iload 4, 2) := by decide +kernel
theorem d_Mod_knownAt_8 : decode b_Mod_knownAt 8 = .ok (.aload_n 0, 1) := by decide +kernel
theorem d_Mod_knownAt_9 : decode b_Mod_knownAt 9 = .ok (.getfield 80, 3) := by decide +kernel
theorem d_Mod_knownAt_12 : decode b_Mod_knownAt 12 = .ok (.if_icmp .ge 29, 3) := by decide +kernel
theorem d_Mod_knownAt_15 : decode b_Mod_knownAt 15 = .ok (.aload_n 0, 1) := by decide +kernel
theorem d_Mod_knownAt_16 : decode b_Mod_knownAt 16 = .ok (.getfield 33, 3) := by decide +kernel
theorem d_Mod_knownAt_19 : decode b_Mod_knownAt 19 = .ok (.iload 4, 2) := by decide +kernel
theorem d_Mod_knownAt_21 : decode b_Mod_knownAt 21 = .ok (.iaload, 1) := by decide +kernel
theorem d_Mod_knownAt_22 : decode b_Mod_knownAt 22 = .ok (.i2l, 1) := by decide +kernel
theorem d_Mod_knownAt_23 : decode b_Mod_knownAt 23 = .ok (.lload_n 1, 1) := by decide +kernel
theorem d_Mod_knownAt_24 : decode b_Mod_knownAt 24 = .ok (.lcmp, 1) := by decide +kernel
theorem d_Mod_knownAt_25 : decode b_Mod_knownAt 25 = .ok (.ifCond .ne 8, 3) := by decide +kernel
theorem d_Mod_knownAt_28 : decode b_Mod_knownAt 28 = .ok (.iload 4, 2) := by decide +kernel
theorem d_Mod_knownAt_30 : decode b_Mod_knownAt 30 = .ok (.goto 4, 3) := by decide +kernel
theorem d_Mod_knownAt_33 : decode b_Mod_knownAt 33 = .ok (.iload_n 3, 1) := by decide +kernel
theorem d_Mod_knownAt_34 : decode b_Mod_knownAt 34 = .ok (.istore_n 3, 1) := by decide +kernel
theorem d_Mod_knownAt_35 : decode b_Mod_knownAt 35 = .ok (.iinc 4 1, 3) := by decide +kernel
theorem d_Mod_knownAt_38 : decode b_Mod_knownAt 38 = .ok (.goto (-32), 3) := by decide +kernel
theorem d_Mod_knownAt_41 : decode b_Mod_knownAt 41 = .ok (.iload_n 3, 1) := by decide +kernel
theorem d_Mod_knownAt_42 : decode b_Mod_knownAt 42 = .ok (.ireturn, 1) := by decide +kernel
