theorem dL_bands_24 : decode cL_bands 24 = .ok (.imul, 1) := by decide +kernel
theorem dL_bands_25 : decode cL_bands 25 = .ok (.bipush 10, 2) := by decide +kernel
theorem dL_bands_27 : decode cL_bands 27 = .ok (.iadd, 1) := by decide +kernel
theorem dL_bands_28 : decode cL_bands 28 = .ok (.sipush 360, 3) := by decide +kernel
theorem dL_bands_31 : decode cL_bands 31 = .ok (.invokestatic 149, 3) := by decide +kernel
theorem dL_bands_34 : decode cL_bands 34 = .ok (.lstore 5, 2) := by decide +kernel
theorem dL_bands_36 : decode cL_bands 36 = .ok (.aload_n 1, 1) := by decide +kernel
theorem dL_bands_37 : decode cL_bands 37 = .ok (.iconst 0, 1) := by decide +kernel
theorem dL_bands_38 : decode cL_bands 38 = .ok (.bipush 10, 2) := by decide +kernel
theorem dL_bands_40 : decode cL_bands 40 = .ok (.sipush 360, 3) := by decide +kernel
theorem dL_bands_43 : decode cL_bands 43 = .ok (.invokestatic 149, 3) := by decide +kernel
theorem dL_bands_46 : decode cL_bands 46 = .ok (.lstore 7, 2) := by decide +kernel
theorem dL_bands_48 : decode cL_bands 48 = .ok (.iload_n 2, 1) := by decide +kernel
theorem dL_bands_49 : decode cL_bands 49 = .ok (.ifCond .eq 30, 3) := by decide +kernel
theorem dL_bands_52 : decode cL_bands 52 = .ok (.lload 5, 2) := by decide +kernel
theorem dL_bands_54 : decode cL_bands 54 = .ok (.aload_n 1, 1) := by decide +kernel
theorem dL_bands_55 : decode cL_bands 55 = .ok (.bipush 20, 2) := by decide +kernel
theorem dL_bands_57 : decode cL_bands 57 = .ok (.iaload, 1) := by decide +kernel
theorem dL_bands_58 : decode cL_bands 58 = .ok (.i2l, 1) := by decide +kernel
theorem dL_bands_59 : decode cL_bands 59 = .ok (.lmul, 1) := by decide +kernel
theorem dL_bands_60 : decode cL_bands 60 = .ok (.lload 7, 2) := by decide +kernel
theorem dL_bands_62 : decode cL_bands 62 = .ok (.aload_n 1, 1) := by decide +kernel
theorem dL_bands_63 : decode cL_bands 63 = .ok (.bipush 20, 2) := by decide +kernel
theorem dL_bands_65 : decode cL_bands 65 = .ok (.iload 4, 2) := by decide +kernel
theorem dL_bands_67 : decode cL_bands 67 = .ok (.iadd, 1) := by decide +kernel
theorem dL_bands_68 : decode cL_bands 68 = .ok (.iaload, 1) := by decide +kernel
theorem dL_bands_69 : decode cL_bands 69 = .ok (.i2l, 1) := by decide +kernel
theorem dL_bands_70 : decode cL_bands 70 = .ok (.lmul, 1) := by decide +kernel
theorem dL_bands_71 : decode cL_bands 71 = .ok (.lcmp, 1) := by decide +kernel
theorem dL_bands_72 : decode cL_bands 72 = .ok (.ifCond .ne 7, 3) := by decide +kernel
theorem dL_bands_75 : decode cL_bands 75 = .ok (.iconst 1, 1) := by decide +kernel
theorem dL_bands_76 : decode cL_bands 76 = .ok (.goto 4, 3) := by decide +kernel
theorem dL_bands_79 : decode cL_bands 79 = .ok (.iconst 0, 1) := by decide +kernel
theorem dL_bands_80 : decode cL_bands 80 = .ok (.istore_n 2, 1) := by decide +kernel
theorem dL_bands_81 : decode cL_bands 81 = .ok (.lload 5, 2) := by decide +kernel
theorem dL_bands_83 : decode cL_bands 83 = .ok (.aload_n 1, 1) := by decide +kernel
theorem dL_bands_84 : decode cL_bands 84 = .ok (.bipush 20, 2) := by decide +kernel
theorem dL_bands_86 : decode cL_bands 86 = .ok (.iload_n 3, 1) := by decide +kernel
theorem dL_bands_87 : decode cL_bands 87 = .ok (.iadd, 1) := by decide +kernel
theorem dL_bands_88 : decode cL_bands 88 = .ok (.iaload, 1) := by decide +kernel
theorem dL_bands_89 : decode cL_bands 89 = .ok (.i2l, 1) := by decide +kernel
theorem dL_bands_90 : decode cL_bands 90 = .ok (.lmul, 1) := by decide +kernel
theorem dL_bands_91 : decode cL_bands 91 = .ok (.aload_n 1, 1) := by decide +kernel
theorem dL_bands_92 : decode cL_bands 92 = .ok (.bipush 10, 2) := by decide +kernel
theorem dL_bands_94 : decode cL_bands 94 = .ok (.iload_n 3, 1) := by decide +kernel
theorem dL_bands_95 : decode cL_bands 95 = .ok (.imul, 1) := by decide +kernel
theorem dL_bands_96 : decode cL_bands 96 = .ok (.bipush 10, 2) := by decide +kernel
theorem dL_bands_98 : decode cL_bands 98 = .ok (.iload_n 3, 1) := by decide +kernel
theorem dL_bands_99 : decode cL_bands 99 = .ok (.imul, 1) := by decide +kernel
theorem dL_bands_100 : decode cL_bands 100 = .ok (.bipush 10, 2) := by decide +kernel
theorem dL_bands_102 : decode cL_bands 102 = .ok (.iadd, 1) := by decide +kernel
theorem dL_bands_103 : decode cL_bands 103 = .ok (.sipush 360, 3) := by decide +kernel
theorem dL_bands_106 : decode cL_bands 106 = .ok (.invokestatic 149, 3) := by decide +kernel
theorem dL_bands_109 : decode cL_bands 109 = .ok (.aload_n 1, 1) := by decide +kernel
theorem dL_bands_110 : decode cL_bands 110 = .ok (.bipush 20, 2) := by decide +kernel
theorem dL_bands_112 : decode cL_bands 112 = .ok (.iload 4, 2) := by decide +kernel
theorem dL_bands_114 : decode cL_bands 114 = .ok (.iadd, 1) := by decide +kernel
theorem dL_bands_115 : decode cL_bands 115 = .ok (.iaload, 1) := by decide +kernel
theorem dL_bands_116 : decode cL_bands 116 = .ok (.i2l, 1) := by decide +kernel
theorem dL_bands_117 : decode cL_bands 117 = .ok (.lmul, 1) := by decide +kernel
theorem dL_bands_118 : decode cL_bands 118 = .ok (.lcmp, 1) := by decide +kernel
theorem dL_bands_119 : decode cL_bands 119 = .ok (.ifCond .le 8, 3) := by decide +kernel
theorem dL_bands_122 : decode cL_bands 122 = .ok (.iload 4, 2) := by decide +kernel
theorem dL_bands_124 : decode cL_bands 124 = .ok (.goto 4, 3) := by decide +kernel
theorem dL_bands_127 : decode cL_bands 127 = .ok (.iload_n 3, 1) := by decide +kernel
theorem dL_bands_128 : decode cL_bands 128 = .ok (.istore_n 3, 1) := by decide +kernel
theorem dL_bands_129 : decode cL_bands 129 = .ok (.aload_n 0, 1) := by decide +kernel
theorem dL_bands_130 : decode cL_bands 130 = .ok (.iload 4, 2) := by decide +kernel
theorem dL_bands_132 : decode cL_bands 132 = .ok (.invokestatic 156, 3) := by decide +kernel
theorem dL_bands_135 : decode cL_bands 135 = .ok (.lload 5, 2) := by decide +kernel
theorem dL_bands_137 : decode cL_bands 137 = .ok (.l2f, 1) := by decide +kernel
theorem dL_bands_138 : decode cL_bands 138 = .ok (.aload_n 1, 1) := by decide +kernel
theorem dL_bands_139 : decode cL_bands 139 = .ok (.bipush 20, 2) := by decide +kernel
theorem dL_bands_141 : decode cL_bands 141 = .ok (.iload 4, 2) := by decide +kernel
theorem dL_bands_143 : decode cL_bands 143 = .ok (.iadd, 1) := by decide +kernel
theorem dL_bands_144 : decode cL_bands 144 = .ok (.iaload, 1) := by decide +kernel
theorem dL_bands_145 : decode cL_bands 145 = .ok (.i2f, 1) := by decide +kernel
theorem dL_bands_146 : decode cL_bands 146 = .ok (.fdiv, 1) := by decide +kernel
theorem dL_bands_147 : decode cL_bands 147 = .ok (.fcmp .l, 1) := by decide +kernel
theorem dL_bands_148 : decode cL_bands 148 = .ok (.ifCond .eq 5, 3) := by decide +kernel
theorem dL_bands_151 : decode cL_bands 151 = .ok (.iconst 0, 1) := by decide +kernel
theorem dL_bands_152 : decode cL_bands 152 = .ok (.ireturn, 1) := by decide +kernel
theorem dL_bands_153 : decode cL_bands 153 = .ok (.iinc 4 1, 3) := by decide +kernel
theorem dL_bands_156 : decode cL_bands 156 = .ok (.goto (-149), 3) := by decide +kernel
theorem dL_bands_159 : decode cL_bands 159 = .ok (.iconst 0, 1) := by decide +kernel
theorem dL_bands_160 : decode cL_bands 160 = .ok (.istore 4, 2) := by decide +kernel
theorem dL_bands_162 : decode cL_bands 162 = .ok (.iload 4, 2) := by decide +kernel
theorem dL_bands_164 : decode cL_bands 164 = .ok (.bipush 9, 2) := by decide +kernel
theorem dL_bands_166 : decode cL_bands 166 = .ok (.if_icmp .ge 97, 3) := by decide +kernel
theorem dL_bands_169 : decode cL_bands 169 = .ok (.iconst 0, 1) := by decide +kernel
theorem dL_bands_170 : decode cL_bands 170 = .ok (.istore 5, 2) := by decide +kernel
theorem dL_bands_172 : decode cL_bands 172 = .ok (.iload 5, 2) := by decide +kernel
theorem dL_bands_174 : decode cL_bands 174 = .ok (.iload 4, 2) := by decide +kernel
theorem dL_bands_176 : decode cL_bands 176 = .ok (.if_icmp .ge 81, 3) := by decide +kernel
theorem dL_bands_179 : decode cL_bands 179 = .ok (.iload_n 2, 1) := by decide +kernel
theorem dL_bands_180 : decode cL_bands 180 = .ok (.ifCond .eq 69, 3) := by decide +kernel
theorem dL_bands_183 : decode cL_bands 183 = .ok (.aload_n 1, 1) := by decide +kernel
theorem dL_bands_184 : decode cL_bands 184 = .ok (.bipush 10, 2) := by decide +kernel
theorem dL_bands_186 : decode cL_bands 186 = .ok (.iload 4, 2) := by decide +kernel
theorem dL_bands_188 : decode cL_bands 188 = .ok (.imul, 1) := by decide +kernel
theorem dL_bands_189 : decode cL_bands 189 = .ok (.bipush 10, 2) := by decide +kernel
theorem dL_bands_191 : decode cL_bands 191 = .ok (.iload 4, 2) := by decide +kernel
theorem dL_bands_193 : decode cL_bands 193 = .ok (.imul, 1) := by decide +kernel
theorem dL_bands_194 : decode cL_bands 194 = .ok (.bipush 10, 2) := by decide +kernel
theorem dL_bands_196 : decode cL_bands 196 = .ok (.iadd, 1) := by decide +kernel
theorem dL_bands_197 : decode cL_bands 197 = .ok (.sipush 360, 3) := by decide +kernel
theorem dL_bands_200 : decode cL_bands 200 = .ok (.invokestatic 149, 3) := by decide +kernel
theorem dL_bands_203 : decode cL_bands 203 = .ok (.aload_n 1, 1) := by decide +kernel
theorem dL_bands_204 : decode cL_bands 204 = .ok (.bipush 20, 2) := by decide +kernel
theorem dL_bands_206 : decode cL_bands 206 = .ok (.iload 5, 2) := by decide +kernel
theorem dL_bands_208 : decode cL_bands 208 = .ok (.iadd, 1) := by decide +kernel
theorem dL_bands_209 : decode cL_bands 209 = .ok (.iaload, 1) := by decide +kernel
theorem dL_bands_210 : decode cL_bands 210 = .ok (.i2l, 1) := by decide +kernel
theorem dL_bands_211 : decode cL_bands 211 = .ok (.lmul, 1) := by decide +kernel
theorem dL_bands_212 : decode cL_bands 212 = .ok (.aload_n 1, 1) := by decide +kernel
theorem dL_bands_213 : decode cL_bands 213 = .ok (.bipush 10, 2) := by decide +kernel
theorem dL_bands_215 : decode cL_bands 215 = .ok (.iload 5, 2) := by decide +kernel
theorem dL_bands_217 : decode cL_bands 217 = .ok (.imul, 1) := by decide +kernel
theorem dL_bands_218 : decode cL_bands 218 = .ok (.bipush 10, 2) := by decide +kernel
theorem dL_bands_220 : decode cL_bands 220 = .ok (.iload 5, 2) := by decide +kernel
theorem dL_bands_222 : decode cL_bands 222 = .ok (.imul, 1) := by decide +kernel
theorem dL_bands_223 : decode cL_bands 223 = .ok (.bipush 10, 2) := by decide +kernel
theorem dL_bands_225 : decode cL_bands 225 = .ok (.iadd, 1) := by decide +kernel
theorem dL_bands_226 : decode cL_bands 226 = .ok (.sipush 360, 3) := by decide +kernel
theorem dL_bands_229 : decode cL_bands 229 = .ok (.invokestatic 149, 3) := by decide +kernel
theorem dL_bands_232 : decode cL_bands 232 = .ok (.aload_n 1, 1) := by decide +kernel
theorem dL_bands_233 : decode cL_bands 233 = .ok (.bipush 20, 2) := by decide +kernel
theorem dL_bands_235 : decode cL_bands 235 = .ok (.iload 4, 2) := by decide +kernel
theorem dL_bands_237 : decode cL_bands 237 = .ok (.iadd, 1) := by decide +kernel
theorem dL_bands_238 : decode cL_bands 238 = .ok (.iaload, 1) := by decide +kernel
theorem dL_bands_239 : decode cL_bands 239 = .ok (.i2l, 1) := by decide +kernel
theorem dL_bands_240 : decode cL_bands 240 = .ok (.lmul, 1) := by decide +kernel
theorem dL_bands_241 : decode cL_bands 241 = .ok (.lcmp, 1) := by decide +kernel
theorem dL_bands_242 : decode cL_bands 242 = .ok (.ifCond .ne 7, 3) := by decide +kernel
theorem dL_bands_245 : decode cL_bands 245 = .ok (.iconst 1, 1) := by decide +kernel
theorem dL_bands_246 : decode cL_bands 246 = .ok (.goto 4, 3) := by decide +kernel
theorem dL_bands_249 : decode cL_bands 249 = .ok (.iconst 0, 1) := by decide +kernel
theorem dL_bands_250 : decode cL_bands 250 = .ok (.istore_n 2, 1) := by decide +kernel
theorem dL_bands_251 : decode cL_bands 251 = .ok (.iinc 5 1, 3) := by decide +kernel
theorem dL_bands_254 : decode cL_bands 254 = .ok (.goto (-82), 3) := by decide +kernel
theorem dL_bands_257 : decode cL_bands 257 = .ok (.iinc 4 1, 3) := by decide +kernel
theorem dL_bands_260 : decode cL_bands 260 = .ok (.goto (-98), 3) := by decide +kernel
theorem dL_bands_263 : decode cL_bands 263 = .ok (.aload_n 0, 1) := by decide +kernel
theorem dL_bands_264 : decode cL_bands 264 = .ok (.invokevirtual 159, 3) := by decide +kernel
theorem dL_bands_267 : decode cL_bands 267 = .ok (.iload_n 2, 1) := by decide +kernel
theorem dL_bands_268 : decode cL_bands 268 = .ok (.if_icmp .ne 38, 3) := by decide +kernel
theorem dL_bands_271 : decode cL_bands 271 = .ok (.aload_n 0, 1) := by decide +kernel
theorem dL_bands_272 : decode cL_bands 272 = .ok (.invokevirtual 163, 3) := by decide +kernel
theorem dL_bands_275 : decode cL_bands 275 = .ok (.iload_n 3, 1) := by decide +kernel
theorem dL_bands_276 : decode cL_bands 276 = .ok (.if_icmp .ne 30, 3) := by decide +kernel
theorem dL_bands_279 : decode cL_bands 279 = .ok (.aload_n 0, 1) := by decide +kernel
theorem dL_bands_280 : decode cL_bands 280 = .ok (.bipush 9, 2) := by decide +kernel
theorem dL_bands_282 : decode cL_bands 282 = .ok (.invokestatic 156, 3) := by decide +kernel
theorem dL_bands_285 : decode cL_bands 285 = .ok (.ldc 85, 2) := by decide +kernel
theorem dL_bands_287 : decode cL_bands 287 = .ok (.fcmp .l, 1) := by decide +kernel
theorem dL_bands_288 : decode cL_bands 288 = .ok (.ifCond .ne 18, 3) := by decide +kernel
theorem dL_bands_291 : decode cL_bands 291 = .ok (.aload_n 0, 1) := by decide +kernel
theorem dL_bands_292 : decode cL_bands 292 = .ok (.iconst (-1), 1) := by decide +kernel
theorem dL_bands_293 : decode cL_bands 293 = .ok (.invokestatic 156, 3) := by decide +kernel
theorem dL_bands_296 : decode cL_bands 296 = .ok (.ldc 85, 2) := by decide +kernel
theorem dL_bands_298 : decode cL_bands 298 = .ok (.fcmp .l, 1) := by decide +kernel
theorem dL_bands_299 : decode cL_bands 299 = .ok (.ifCond .ne 7, 3) := by decide +kernel
theorem dL_bands_302 : decode cL_bands 302 = .ok (.iconst 1, 1) := by decide +kernel
theorem dL_bands_303 : decode cL_bands 303 = .ok (.goto 4, 3) := by decide +kernel
theorem dL_bands_306 : decode cL_bands 306 = .ok (.iconst 0, 1) := by decide +kernel
theorem dL_bands_307 : decode cL_bands 307 = .ok (.ireturn, 1) := by decide +kernel
theorem dL_rings_0 : decode cL_rings 0 = .ok (.iload_n 1, 1) := by decide +kernel
theorem dL_rings_1 : decode cL_rings 1 = .ok (.bipush 60, 2) := by decide +kernel
theorem dL_rings_3 : decode cL_rings 3 = .ok (.invokestatic 109, 3) := by decide +kernel
theorem dL_rings_6 : decode cL_rings 6 = .ok (.ifCond .ne 9, 3) := by decide +kernel
theorem dL_rings_9 : decode cL_rings 9 = .ok (.sipush (-181), 3) := by decide +kernel
theorem dL_rings_12 : decode cL_rings 12 = .ok (.goto 14, 3) := by decide +kernel
theorem dL_rings_15 : decode cL_rings 15 = .ok (.iload_n 1, 1) := by decide +kernel
theorem dL_rings_16 : decode cL_rings 16 = .ok (.sipush 360, 3) := by decide +kernel
theorem dL_rings_19 : decode cL_rings 19 = .ok (.invokestatic 109, 3) := by decide +kernel
theorem dL_rings_22 : decode cL_rings 22 = .ok (.sipush 180, 3) := by decide +kernel
theorem dL_rings_25 : decode cL_rings 25 = .ok (.isub, 1) := by decide +kernel
theorem dL_rings_26 : decode cL_rings 26 = .ok (.istore_n 3, 1) := by decide +kernel
theorem dL_rings_27 : decode cL_rings 27 = .ok (.iload_n 1, 1) := by decide +kernel
theorem dL_rings_28 : decode cL_rings 28 = .ok (.bipush 6, 2) := by decide +kernel
theorem dL_rings_30 : decode cL_rings 30 = .ok (.ishr, 1) := by decide +kernel
theorem dL_rings_31 : decode cL_rings 31 = .ok (.bipush 9, 2) := by decide +kernel
theorem dL_rings_33 : decode cL_rings 33 = .ok (.invokestatic 109, 3) := by decide +kernel
theorem dL_rings_36 : decode cL_rings 36 = .ok (.ifCond .ne 19, 3) := by decide +kernel
theorem dL_rings_39 : decode cL_rings 39 = .ok (.iload_n 3, 1) := by decide +kernel
theorem dL_rings_40 : decode cL_rings 40 = .ok (.sipush 540, 3) := by decide +kernel
theorem dL_rings_43 : decode cL_rings 43 = .ok (.iadd, 1) := by decide +kernel
theorem dL_rings_44 : decode cL_rings 44 = .ok (.sipush 360, 3) := by decide +kernel
theorem dL_rings_47 : decode cL_rings 47 = .ok (.irem, 1) := by decide +kernel
theorem dL_rings_48 : decode cL_rings 48 = .ok (.sipush 180, 3) := by decide +kernel
theorem dL_rings_51 : decode cL_rings 51 = .ok (.isub, 1) := by decide +kernel
theorem dL_rings_52 : decode cL_rings 52 = .ok (.goto 16, 3) := by decide +kernel
theorem dL_rings_55 : decode cL_rings 55 = .ok (.iload_n 1, 1) := by decide +kernel
theorem dL_rings_56 : decode cL_rings 56 = .ok (.iconst 5, 1) := by decide +kernel
theorem dL_rings_57 : decode cL_rings 57 = .ok (.ishr, 1) := by decide +kernel
theorem dL_rings_58 : decode cL_rings 58 = .ok (.sipush 360, 3) := by decide +kernel
theorem dL_rings_61 : decode cL_rings 61 = .ok (.invokestatic 109, 3) := by decide +kernel
theorem dL_rings_64 : decode cL_rings 64 = .ok (.sipush 180, 3) := by decide +kernel
theorem dL_rings_67 : decode cL_rings 67 = .ok (.isub, 1) := by decide +kernel
theorem dL_rings_68 : decode cL_rings 68 = .ok (.istore 4, 2) := by decide +kernel
theorem dL_rings_70 : decode cL_rings 70 = .ok (.iload_n 1, 1) := by decide +kernel
theorem dL_rings_71 : decode cL_rings 71 = .ok (.iconst 3, 1) := by decide +kernel
theorem dL_rings_72 : decode cL_rings 72 = .ok (.ishr, 1) := by decide +kernel
theorem dL_rings_73 : decode cL_rings 73 = .ok (.bipush 60, 2) := by decide +kernel
theorem dL_rings_75 : decode cL_rings 75 = .ok (.invokestatic 109, 3) := by decide +kernel
theorem dL_rings_78 : decode cL_rings 78 = .ok (.ifCond .ne 8, 3) := by decide +kernel
theorem dL_rings_81 : decode cL_rings 81 = .ok (.bipush (-91), 2) := by decide +kernel
theorem dL_rings_83 : decode cL_rings 83 = .ok (.goto 15, 3) := by decide +kernel
theorem dL_rings_86 : decode cL_rings 86 = .ok (.iload_n 1, 1) := by decide +kernel
theorem dL_rings_87 : decode cL_rings 87 = .ok (.iconst 3, 1) := by decide +kernel
theorem dL_rings_88 : decode cL_rings 88 = .ok (.ishr, 1) := by decide +kernel
theorem dL_rings_89 : decode cL_rings 89 = .ok (.sipush 181, 3) := by decide +kernel
theorem dL_rings_92 : decode cL_rings 92 = .ok (.invokestatic 109, 3) := by decide +kernel
theorem dL_rings_95 : decode cL_rings 95 = .ok (.bipush 90, 2) := by decide +kernel
theorem dL_rings_97 : decode cL_rings 97 = .ok (.isub, 1) := by decide +kernel
theorem dL_rings_98 : decode cL_rings 98 = .ok (.istore 5, 2) := by decide +kernel
theorem dL_rings_100 : decode cL_rings 100 = .ok (.iload_n 3, 1) := by decide +kernel
theorem dL_rings_101 : decode cL_rings 101 = .ok (.sipush (-180), 3) := by decide +kernel
theorem dL_rings_104 : decode cL_rings 104 = .ok (.if_icmp .lt 7, 3) := by decide +kernel
theorem dL_rings_107 : decode cL_rings 107 = .ok (.iconst 1, 1) := by decide +kernel
theorem dL_rings_108 : decode cL_rings 108 = .ok (.goto 4, 3) := by decide +kernel
theorem dL_rings_111 : decode cL_rings 111 = .ok (.iconst 0, 1) := by decide +kernel
theorem dL_rings_112 : decode cL_rings 112 = .ok (.istore 6, 2) := by decide +kernel
theorem dL_rings_114 : decode cL_rings 114 = .ok (.iconst 0, 1) := by decide +kernel
theorem dL_rings_115 : decode cL_rings 115 = .ok (.istore 7, 2) := by decide +kernel
theorem dL_rings_117 : decode cL_rings 117 = .ok (.iload_n 3, 1) := by decide +kernel
theorem dL_rings_118 : decode cL_rings 118 = .ok (.iload 7, 2) := by decide +kernel
theorem dL_rings_120 : decode cL_rings 120 = .ok (.iadd, 1) := by decide +kernel
theorem dL_rings_121 : decode cL_rings 121 = .ok (.sipush 720, 3) := by decide +kernel
theorem dL_rings_124 : decode cL_rings 124 = .ok (.iadd, 1) := by decide +kernel
theorem dL_rings_125 : decode cL_rings 125 = .ok (.sipush 360, 3) := by decide +kernel
theorem dL_rings_128 : decode cL_rings 128 = .ok (.irem, 1) := by decide +kernel
theorem dL_rings_129 : decode cL_rings 129 = .ok (.iload 4, 2) := by decide +kernel
theorem dL_rings_131 : decode cL_rings 131 = .ok (.sipush 720, 3) := by decide +kernel
theorem dL_rings_134 : decode cL_rings 134 = .ok (.iadd, 1) := by decide +kernel
theorem dL_rings_135 : decode cL_rings 135 = .ok (.sipush 360, 3) := by decide +kernel
theorem dL_rings_138 : decode cL_rings 138 = .ok (.irem, 1) := by decide +kernel
theorem dL_rings_139 : decode cL_rings 139 = .ok (.if_icmp .eq 9, 3) := by decide +kernel
theorem dL_rings_142 : decode cL_rings 142 = .ok (.iinc 7 1, 3) := by decide +kernel
theorem dL_rings_145 : decode cL_rings 145 = .ok (.goto (-28), 3) := by decide +kernel
theorem dL_rings_148 : decode cL_rings 148 = .ok (.iload 7, 2) := by decide +kernel
theorem dL_rings_150 : decode cL_rings 150 = .ok (.sipush 180, 3) := by decide +kernel
theorem dL_rings_153 : decode cL_rings 153 = .ok (.if_icmp .gt 8, 3) := by decide +kernel
theorem dL_rings_156 : decode cL_rings 156 = .ok (.iload 7, 2) := by decide +kernel
theorem dL_rings_158 : decode cL_rings 158 = .ok (.goto 9, 3) := by decide +kernel
theorem dL_rings_161 : decode cL_rings 161 = .ok (.sipush 360, 3) := by decide +kernel
theorem dL_rings_164 : decode cL_rings 164 = .ok (.iload 7, 2) := by decide +kernel
theorem dL_rings_166 : decode cL_rings 166 = .ok (.isub, 1) := by decide +kernel
theorem dL_rings_167 : decode cL_rings 167 = .ok (.istore 8, 2) := by decide +kernel
theorem dL_rings_169 : decode cL_rings 169 = .ok (.iload 7, 2) := by decide +kernel
theorem dL_rings_171 : decode cL_rings 171 = .ok (.sipush 180, 3) := by decide +kernel
theorem dL_rings_174 : decode cL_rings 174 = .ok (.if_icmp .gt 7, 3) := by decide +kernel
theorem dL_rings_177 : decode cL_rings 177 = .ok (.iconst 1, 1) := by decide +kernel
theorem dL_rings_178 : decode cL_rings 178 = .ok (.goto 4, 3) := by decide +kernel
theorem dL_rings_181 : decode cL_rings 181 = .ok (.iconst (-1), 1) := by decide +kernel
theorem dL_rings_182 : decode cL_rings 182 = .ok (.istore 9, 2) := by decide +kernel
theorem dL_rings_184 : decode cL_rings 184 = .ok (.iconst 0, 1) := by decide +kernel
theorem dL_rings_185 : decode cL_rings 185 = .ok (.istore 10, 2) := by decide +kernel
theorem dL_rings_187 : decode cL_rings 187 = .ok (.iconst 0, 1) := by decide +kernel
theorem dL_rings_188 : decode cL_rings 188 = .ok (.istore 11, 2) := by decide +kernel
theorem dL_rings_190 : decode cL_rings 190 = .ok (.iconst 0, 1) := by decide +kernel
theorem dL_rings_191 : decode cL_rings 191 = .ok (.istore 12, 2) := by decide +kernel
theorem dL_rings_193 : decode cL_rings 193 = .ok (.iload 12, 2) := by decide +kernel
theorem dL_rings_195 : decode cL_rings 195 = .ok (.iload 8, 2) := by decide +kernel
theorem dL_rings_197 : decode cL_rings 197 = .ok (.if_icmp .ge 127, 3) := by decide +kernel
theorem dL_rings_200 : decode cL_rings 200 = .ok (.iload_n 3, 1) := by decide +kernel
theorem dL_rings_201 : decode cL_rings 201 = .ok (.sipush 180, 3) := by decide +kernel
theorem dL_rings_204 : decode cL_rings 204 = .ok (.iadd, 1) := by decide +kernel
theorem dL_rings_205 : decode cL_rings 205 = .ok (.iload 12, 2) := by decide +kernel
theorem dL_rings_207 : decode cL_rings 207 = .ok (.iload 9, 2) := by decide +kernel
theorem dL_rings_209 : decode cL_rings 209 = .ok (.imul, 1) := by decide +kernel
theorem dL_rings_210 : decode cL_rings 210 = .ok (.iadd, 1) := by decide +kernel
theorem dL_rings_211 : decode cL_rings 211 = .ok (.sipush 360, 3) := by decide +kernel
theorem dL_rings_214 : decode cL_rings 214 = .ok (.irem, 1) := by decide +kernel
theorem dL_rings_215 : decode cL_rings 215 = .ok (.sipush 360, 3) := by decide +kernel
theorem dL_rings_218 : decode cL_rings 218 = .ok (.iadd, 1) := by decide +kernel
theorem dL_rings_219 : decode cL_rings 219 = .ok (.sipush 360, 3) := by decide +kernel
theorem dL_rings_222 : decode cL_rings 222 = .ok (.irem, 1) := by decide +kernel
theorem dL_rings_223 : decode cL_rings 223 = .ok (.istore 13, 2) := by decide +kernel
theorem dL_rings_225 : decode cL_rings 225 = .ok (.iload 13, 2) := by decide +kernel
theorem dL_rings_227 : decode cL_rings 227 = .ok (.iload 9, 2) := by decide +kernel
theorem dL_rings_229 : decode cL_rings 229 = .ok (.iadd, 1) := by decide +kernel
theorem dL_rings_230 : decode cL_rings 230 = .ok (.sipush 360, 3) := by decide +kernel
theorem dL_rings_233 : decode cL_rings 233 = .ok (.iadd, 1) := by decide +kernel
theorem dL_rings_234 : decode cL_rings 234 = .ok (.sipush 360, 3) := by decide +kernel
theorem dL_rings_237 : decode cL_rings 237 = .ok (.irem, 1) := by decide +kernel
theorem dL_rings_238 : decode cL_rings 238 = .ok (.istore 14, 2) := by decide +kernel
theorem dL_rings_240 : decode cL_rings 240 = .ok (.iload 9, 2) := by decide +kernel
theorem dL_rings_242 : decode cL_rings 242 = .ok (.ifCond .le 16, 3) := by decide +kernel
theorem dL_rings_245 : decode cL_rings 245 = .ok (.iload 14, 2) := by decide +kernel
theorem dL_rings_247 : decode cL_rings 247 = .ok (.ifCond .ne 7, 3) := by decide +kernel
theorem dL_rings_250 : decode cL_rings 250 = .ok (.iconst 1, 1) := by decide +kernel
theorem dL_rings_251 : decode cL_rings 251 = .ok (.goto 17, 3) := by decide +kernel
theorem dL_rings_254 : decode cL_rings 254 = .ok (.iconst 0, 1) := by decide +kernel
theorem dL_rings_255 : decode cL_rings 255 = .ok (.goto 13, 3) := by decide +kernel
theorem dL_rings_258 : decode cL_rings 258 = .ok (.iload 13, 2) := by decide +kernel
theorem dL_rings_260 : decode cL_rings 260 = .ok (.ifCond .ne 7, 3) := by decide +kernel
theorem dL_rings_263 : decode cL_rings 263 = .ok (.iconst 1, 1) := by decide +kernel
theorem dL_rings_264 : decode cL_rings 264 = .ok (.goto 4, 3) := by decide +kernel
theorem dL_rings_267 : decode cL_rings 267 = .ok (.iconst 0, 1) := by decide +kernel
theorem dL_rings_268 : decode cL_rings 268 = .ok (.istore 15, 2) := by decide +kernel
theorem dL_rings_270 : decode cL_rings 270 = .ok (.iload 10, 2) := by decide +kernel
theorem dL_rings_272 : decode cL_rings 272 = .ok (.iload 15, 2) := by decide +kernel
theorem dL_rings_274 : decode cL_rings 274 = .ok (.ifCond .ne 20, 3) := by decide +kernel
theorem dL_rings_277 : decode cL_rings 277 = .ok (.iload 13, 2) := by decide +kernel
theorem dL_rings_279 : decode cL_rings 279 = .ok (.aload_n 2, 1) := by decide +kernel
theorem dL_rings_280 : decode cL_rings 280 = .ok (.bipush 29, 2) := by decide +kernel
theorem dL_rings_282 : decode cL_rings 282 = .ok (.iaload, 1) := by decide +kernel
theorem dL_rings_283 : decode cL_rings 283 = .ok (.idiv, 1) := by decide +kernel
theorem dL_rings_284 : decode cL_rings 284 = .ok (.iload 14, 2) := by decide +kernel
theorem dL_rings_286 : decode cL_rings 286 = .ok (.aload_n 2, 1) := by decide +kernel
theorem dL_rings_287 : decode cL_rings 287 = .ok (.bipush 29, 2) := by decide +kernel
theorem dL_rings_289 : decode cL_rings 289 = .ok (.iaload, 1) := by decide +kernel
theorem dL_rings_290 : decode cL_rings 290 = .ok (.idiv, 1) := by decide +kernel
theorem dL_rings_291 : decode cL_rings 291 = .ok (.if_icmp .eq 7, 3) := by decide +kernel
theorem dL_rings_294 : decode cL_rings 294 = .ok (.iconst 1, 1) := by decide +kernel
theorem dL_rings_295 : decode cL_rings 295 = .ok (.goto 4, 3) := by decide +kernel
theorem dL_rings_298 : decode cL_rings 298 = .ok (.iconst 0, 1) := by decide +kernel
theorem dL_rings_299 : decode cL_rings 299 = .ok (.iadd, 1) := by decide +kernel
theorem dL_rings_300 : decode cL_rings 300 = .ok (.istore 10, 2) := by decide +kernel
theorem dL_rings_302 : decode cL_rings 302 = .ok (.iload 11, 2) := by decide +kernel
theorem dL_rings_304 : decode cL_rings 304 = .ok (.iload 15, 2) := by decide +kernel
theorem dL_rings_306 : decode cL_rings 306 = .ok (.ifCond .eq 8, 3) := by decide +kernel
theorem dL_rings_309 : decode cL_rings 309 = .ok (.iload 9, 2) := by decide +kernel
theorem dL_rings_311 : decode cL_rings 311 = .ok (.goto 4, 3) := by decide +kernel
theorem dL_rings_314 : decode cL_rings 314 = .ok (.iconst 0, 1) := by decide +kernel
theorem dL_rings_315 : decode cL_rings 315 = .ok (.iadd, 1) := by decide +kernel
theorem dL_rings_316 : decode cL_rings 316 = .ok (.istore 11, 2) := by decide +kernel
theorem dL_rings_318 : decode cL_rings 318 = .ok (.iinc 12 1, 3) := by decide +kernel
theorem dL_rings_321 : decode cL_rings 321 = .ok (.goto (-128), 3) := by decide +kernel
theorem dL_rings_324 : decode cL_rings 324 = .ok (.aload_n 0, 1) := by decide +kernel
theorem dL_rings_325 : decode cL_rings 325 = .ok (.iconst 2, 1) := by decide +kernel
theorem dL_rings_326 : decode cL_rings 326 = .ok (.iload_n 3, 1) := by decide +kernel
theorem dL_rings_327 : decode cL_rings 327 = .ok (.iload 4, 2) := by decide +kernel
theorem dL_rings_329 : decode cL_rings 329 = .ok (.iconst 0, 1) := by decide +kernel
theorem dL_rings_330 : decode cL_rings 330 = .ok (.invokestatic 119, 3) := by decide +kernel
theorem dL_rings_333 : decode cL_rings 333 = .ok (.iload 6, 2) := by decide +kernel
theorem dL_rings_335 : decode cL_rings 335 = .ok (.ifCond .eq 8, 3) := by decide +kernel
theorem dL_rings_338 : decode cL_rings 338 = .ok (.iload 8, 2) := by decide +kernel
theorem dL_rings_340 : decode cL_rings 340 = .ok (.goto 5, 3) := by decide +kernel
theorem dL_rings_343 : decode cL_rings 343 = .ok (.ldc 65, 2) := by decide +kernel
theorem dL_rings_345 : decode cL_rings 345 = .ok (.if_icmp .ne 126, 3) := by decide +kernel
theorem dL_rings_348 : decode cL_rings 348 = .ok (.aload_n 0, 1) := by decide +kernel
theorem dL_rings_349 : decode cL_rings 349 = .ok (.iconst 3, 1) := by decide +kernel
theorem dL_rings_350 : decode cL_rings 350 = .ok (.iload_n 3, 1) := by decide +kernel
theorem dL_rings_351 : decode cL_rings 351 = .ok (.iload 4, 2) := by decide +kernel
theorem dL_rings_353 : decode cL_rings 353 = .ok (.iload 5, 2) := by decide +kernel
theorem dL_rings_355 : decode cL_rings 355 = .ok (.invokestatic 119, 3) := by decide +kernel
theorem dL_rings_358 : decode cL_rings 358 = .ok (.iload 6, 2) := by decide +kernel
theorem dL_rings_360 : decode cL_rings 360 = .ok (.ifCond .eq 22, 3) := by decide +kernel
theorem dL_rings_363 : decode cL_rings 363 = .ok (.iload 5, 2) := by decide +kernel
theorem dL_rings_365 : decode cL_rings 365 = .ok (.bipush (-90), 2) := by decide +kernel
theorem dL_rings_367 : decode cL_rings 367 = .ok (.if_icmp .lt 15, 3) := by decide +kernel
theorem dL_rings_370 : decode cL_rings 370 = .ok (.iload 8, 2) := by decide +kernel
theorem dL_rings_372 : decode cL_rings 372 = .ok (.aload_n 2, 1) := by decide +kernel
theorem dL_rings_373 : decode cL_rings 373 = .ok (.iload 5, 2) := by decide +kernel
theorem dL_rings_375 : decode cL_rings 375 = .ok (.invokestatic 20, 3) := by decide +kernel
theorem dL_rings_378 : decode cL_rings 378 = .ok (.imul, 1) := by decide +kernel
theorem dL_rings_379 : decode cL_rings 379 = .ok (.goto 5, 3) := by decide +kernel
theorem dL_rings_382 : decode cL_rings 382 = .ok (.ldc 65, 2) := by decide +kernel
theorem dL_rings_384 : decode cL_rings 384 = .ok (.if_icmp .ne 87, 3) := by decide +kernel
theorem dL_rings_387 : decode cL_rings 387 = .ok (.aload_n 0, 1) := by decide +kernel
theorem dL_rings_388 : decode cL_rings 388 = .ok (.iconst 4, 1) := by decide +kernel
theorem dL_rings_389 : decode cL_rings 389 = .ok (.iload_n 3, 1) := by decide +kernel
theorem dL_rings_390 : decode cL_rings 390 = .ok (.iconst 0, 1) := by decide +kernel
theorem dL_rings_391 : decode cL_rings 391 = .ok (.iconst 0, 1) := by decide +kernel
theorem dL_rings_392 : decode cL_rings 392 = .ok (.invokestatic 119, 3) := by decide +kernel
theorem dL_rings_395 : decode cL_rings 395 = .ok (.iload 6, 2) := by decide +kernel
theorem dL_rings_397 : decode cL_rings 397 = .ok (.ifCond .eq 16, 3) := by decide +kernel
theorem dL_rings_400 : decode cL_rings 400 = .ok (.iload_n 3, 1) := by decide +kernel
theorem dL_rings_401 : decode cL_rings 401 = .ok (.sipush 180, 3) := by decide +kernel
theorem dL_rings_404 : decode cL_rings 404 = .ok (.iadd, 1) := by decide +kernel
theorem dL_rings_405 : decode cL_rings 405 = .ok (.aload_n 2, 1) := by decide +kernel
theorem dL_rings_406 : decode cL_rings 406 = .ok (.bipush 29, 2) := by decide +kernel
theorem dL_rings_408 : decode cL_rings 408 = .ok (.iaload, 1) := by decide +kernel
theorem dL_rings_409 : decode cL_rings 409 = .ok (.idiv, 1) := by decide +kernel
theorem dL_rings_410 : decode cL_rings 410 = .ok (.goto 5, 3) := by decide +kernel
theorem dL_rings_413 : decode cL_rings 413 = .ok (.ldc 65, 2) := by decide +kernel
theorem dL_rings_415 : decode cL_rings 415 = .ok (.if_icmp .ne 56, 3) := by decide +kernel
theorem dL_rings_418 : decode cL_rings 418 = .ok (.aload_n 0, 1) := by decide +kernel
theorem dL_rings_419 : decode cL_rings 419 = .ok (.iconst 5, 1) := by decide +kernel
theorem dL_rings_420 : decode cL_rings 420 = .ok (.iload_n 3, 1) := by decide +kernel
theorem dL_rings_421 : decode cL_rings 421 = .ok (.iload 4, 2) := by decide +kernel
theorem dL_rings_423 : decode cL_rings 423 = .ok (.iconst 0, 1) := by decide +kernel
theorem dL_rings_424 : decode cL_rings 424 = .ok (.invokestatic 119, 3) := by decide +kernel
theorem dL_rings_427 : decode cL_rings 427 = .ok (.iload 6, 2) := by decide +kernel
theorem dL_rings_429 : decode cL_rings 429 = .ok (.ifCond .eq 8, 3) := by decide +kernel
theorem dL_rings_432 : decode cL_rings 432 = .ok (.iload 10, 2) := by decide +kernel
theorem dL_rings_434 : decode cL_rings 434 = .ok (.goto 5, 3) := by decide +kernel
theorem dL_rings_437 : decode cL_rings 437 = .ok (.ldc 65, 2) := by decide +kernel
theorem dL_rings_439 : decode cL_rings 439 = .ok (.if_icmp .ne 32, 3) := by decide +kernel
theorem dL_rings_442 : decode cL_rings 442 = .ok (.aload_n 0, 1) := by decide +kernel
theorem dL_rings_443 : decode cL_rings 443 = .ok (.bipush 6, 2) := by decide +kernel
theorem dL_rings_445 : decode cL_rings 445 = .ok (.iload_n 3, 1) := by decide +kernel
theorem dL_rings_446 : decode cL_rings 446 = .ok (.iload 4, 2) := by decide +kernel
theorem dL_rings_448 : decode cL_rings 448 = .ok (.iconst 0, 1) := by decide +kernel
theorem dL_rings_449 : decode cL_rings 449 = .ok (.invokestatic 119, 3) := by decide +kernel
theorem dL_rings_452 : decode cL_rings 452 = .ok (.iload 6, 2) := by decide +kernel
theorem dL_rings_454 : decode cL_rings 454 = .ok (.ifCond .eq 8, 3) := by decide +kernel
theorem dL_rings_457 : decode cL_rings 457 = .ok (.iload 11, 2) := by decide +kernel
theorem dL_rings_459 : decode cL_rings 459 = .ok (.goto 5, 3) := by decide +kernel
theorem dL_rings_462 : decode cL_rings 462 = .ok (.ldc 65, 2) := by decide +kernel
theorem dL_rings_464 : decode cL_rings 464 = .ok (.if_icmp .ne 7, 3) := by decide +kernel
theorem dL_rings_467 : decode cL_rings 467 = .ok (.iconst 1, 1) := by decide +kernel
theorem dL_rings_468 : decode cL_rings 468 = .ok (.goto 4, 3) := by decide +kernel
theorem dL_rings_471 : decode cL_rings 471 = .ok (.iconst 0, 1) := by decide +kernel
theorem dL_rings_472 : decode cL_rings 472 = .ok (.ireturn, 1) := by decide +kernel
theorem dL_sheets_0 : decode cL_sheets 0 = .ok (.aload_n 2, 1) := by decide +kernel
theorem dL_sheets_1 : decode cL_sheets 1 = .ok (.bipush 30, 2) := by decide +kernel
theorem dL_sheets_3 : decode cL_sheets 3 = .ok (.iaload, 1) := by decide +kernel
theorem dL_sheets_4 : decode cL_sheets 4 = .ok (.aload_n 2, 1) := by decide +kernel
theorem dL_sheets_5 : decode cL_sheets 5 = .ok (.bipush 31, 2) := by decide +kernel
theorem dL_sheets_7 : decode cL_sheets 7 = .ok (.iaload, 1) := by decide +kernel
theorem dL_sheets_8 : decode cL_sheets 8 = .ok (.imul, 1) := by decide +kernel
theorem dL_sheets_9 : decode cL_sheets 9 = .ok (.istore 7, 2) := by decide +kernel
theorem dL_sheets_11 : decode cL_sheets 11 = .ok (.iconst 0, 1) := by decide +kernel
theorem dL_sheets_12 : decode cL_sheets 12 = .ok (.istore 8, 2) := by decide +kernel
theorem dL_sheets_14 : decode cL_sheets 14 = .ok (.iconst 0, 1) := by decide +kernel
theorem dL_sheets_15 : decode cL_sheets 15 = .ok (.istore 9, 2) := by decide +kernel
theorem dL_sheets_17 : decode cL_sheets 17 = .ok (.iconst 0, 1) := by decide +kernel
theorem dL_sheets_18 : decode cL_sheets 18 = .ok (.istore 10, 2) := by decide +kernel
theorem dL_sheets_20 : decode cL_sheets 20 = .ok (.iload 10, 2) := by decide +kernel
theorem dL_sheets_22 : decode cL_sheets 22 = .ok (.iload 7, 2) := by decide +kernel
theorem dL_sheets_24 : decode cL_sheets 24 = .ok (.if_icmp .ge 229, 3) := by decide +kernel
theorem dL_sheets_27 : decode cL_sheets 27 = .ok (.iconst 0, 1) := by decide +kernel
theorem dL_sheets_28 : decode cL_sheets 28 = .ok (.istore 11, 2) := by decide +kernel
theorem dL_sheets_30 : decode cL_sheets 30 = .ok (.iconst 0, 1) := by decide +kernel
theorem dL_sheets_31 : decode cL_sheets 31 = .ok (.istore 12, 2) := by decide +kernel
theorem dL_sheets_33 : decode cL_sheets 33 = .ok (.iconst 0, 1) := by decide +kernel
theorem dL_sheets_34 : decode cL_sheets 34 = .ok (.istore 13, 2) := by decide +kernel
theorem dL_sheets_36 : decode cL_sheets 36 = .ok (.iload 13, 2) := by decide +kernel
theorem dL_sheets_38 : decode cL_sheets 38 = .ok (.iload 7, 2) := by decide +kernel
theorem dL_sheets_40 : decode cL_sheets 40 = .ok (.if_icmp .ge 83, 3) := by decide +kernel
theorem dL_sheets_43 : decode cL_sheets 43 = .ok (.aload_n 3, 1) := by decide +kernel
theorem dL_sheets_44 : decode cL_sheets 44 = .ok (.iload 13, 2) := by decide +kernel
theorem dL_sheets_46 : decode cL_sheets 46 = .ok (.iaload, 1) := by decide +kernel
theorem dL_sheets_47 : decode cL_sheets 47 = .ok (.aload_n 3, 1) := by decide +kernel
theorem dL_sheets_48 : decode cL_sheets 48 = .ok (.iload 10, 2) := by decide +kernel
theorem dL_sheets_50 : decode cL_sheets 50 = .ok (.iaload, 1) := by decide +kernel
theorem dL_sheets_51 : decode cL_sheets 51 = .ok (.if_icmp .ne 20, 3) := by decide +kernel
theorem dL_sheets_54 : decode cL_sheets 54 = .ok (.aload 4, 2) := by decide +kernel
theorem dL_sheets_56 : decode cL_sheets 56 = .ok (.iload 13, 2) := by decide +kernel
theorem dL_sheets_58 : decode cL_sheets 58 = .ok (.iaload, 1) := by decide +kernel
theorem dL_sheets_59 : decode cL_sheets 59 = .ok (.aload 4, 2) := by decide +kernel
theorem dL_sheets_61 : decode cL_sheets 61 = .ok (.iload 10, 2) := by decide +kernel
theorem dL_sheets_63 : decode cL_sheets 63 = .ok (.iaload, 1) := by decide +kernel
theorem dL_sheets_64 : decode cL_sheets 64 = .ok (.if_icmp .ne 7, 3) := by decide +kernel
theorem dL_sheets_67 : decode cL_sheets 67 = .ok (.iconst 1, 1) := by decide +kernel
theorem dL_sheets_68 : decode cL_sheets 68 = .ok (.goto 4, 3) := by decide +kernel
theorem dL_sheets_71 : decode cL_sheets 71 = .ok (.iconst 0, 1) := by decide +kernel
theorem dL_sheets_72 : decode cL_sheets 72 = .ok (.istore 14, 2) := by decide +kernel
theorem dL_sheets_74 : decode cL_sheets 74 = .ok (.iload 12, 2) := by decide +kernel
theorem dL_sheets_76 : decode cL_sheets 76 = .ok (.iload 14, 2) := by decide +kernel
theorem dL_sheets_78 : decode cL_sheets 78 = .ok (.ifCond .eq 7, 3) := by decide +kernel
theorem dL_sheets_81 : decode cL_sheets 81 = .ok (.iconst 1, 1) := by decide +kernel
theorem dL_sheets_82 : decode cL_sheets 82 = .ok (.goto 4, 3) := by decide +kernel
theorem dL_sheets_85 : decode cL_sheets 85 = .ok (.iconst 0, 1) := by decide +kernel
theorem dL_sheets_86 : decode cL_sheets 86 = .ok (.iadd, 1) := by decide +kernel
theorem dL_sheets_87 : decode cL_sheets 87 = .ok (.istore 12, 2) := by decide +kernel
theorem dL_sheets_89 : decode cL_sheets 89 = .ok (.iload 11, 2) := by decide +kernel
theorem dL_sheets_91 : decode cL_sheets 91 = .ok (.iload 14, 2) := by decide +kernel
theorem dL_sheets_93 : decode cL_sheets 93 = .ok (.ifCond .eq 20, 3) := by decide +kernel
theorem dL_sheets_96 : decode cL_sheets 96 = .ok (.aload 5, 2) := by decide +kernel
theorem dL_sheets_98 : decode cL_sheets 98 = .ok (.iload 13, 2) := by decide +kernel
theorem dL_sheets_100 : decode cL_sheets 100 = .ok (.iaload, 1) := by decide +kernel
theorem dL_sheets_101 : decode cL_sheets 101 = .ok (.aload 5, 2) := by decide +kernel
theorem dL_sheets_103 : decode cL_sheets 103 = .ok (.iload 10, 2) := by decide +kernel
theorem dL_sheets_105 : decode cL_sheets 105 = .ok (.iaload, 1) := by decide +kernel
theorem dL_sheets_106 : decode cL_sheets 106 = .ok (.if_icmp .le 7, 3) := by decide +kernel
theorem dL_sheets_109 : decode cL_sheets 109 = .ok (.iconst 1, 1) := by decide +kernel
theorem dL_sheets_110 : decode cL_sheets 110 = .ok (.goto 4, 3) := by decide +kernel
theorem dL_sheets_113 : decode cL_sheets 113 = .ok (.iconst 0, 1) := by decide +kernel
theorem dL_sheets_114 : decode cL_sheets 114 = .ok (.iadd, 1) := by decide +kernel
theorem dL_sheets_115 : decode cL_sheets 115 = .ok (.istore 11, 2) := by decide +kernel
theorem dL_sheets_117 : decode cL_sheets 117 = .ok (.iinc 13 1, 3) := by decide +kernel
theorem dL_sheets_120 : decode cL_sheets 120 = .ok (.goto (-84), 3) := by decide +kernel
theorem dL_sheets_123 : decode cL_sheets 123 = .ok (.iload 10, 2) := by decide +kernel
theorem dL_sheets_125 : decode cL_sheets 125 = .ok (.aload_n 2, 1) := by decide +kernel
theorem dL_sheets_126 : decode cL_sheets 126 = .ok (.bipush 30, 2) := by decide +kernel
theorem dL_sheets_128 : decode cL_sheets 128 = .ok (.iaload, 1) := by decide +kernel
theorem dL_sheets_129 : decode cL_sheets 129 = .ok (.irem, 1) := by decide +kernel
theorem dL_sheets_130 : decode cL_sheets 130 = .ok (.istore 13, 2) := by decide +kernel
theorem dL_sheets_132 : decode cL_sheets 132 = .ok (.iload 10, 2) := by decide +kernel
theorem dL_sheets_134 : decode cL_sheets 134 = .ok (.aload_n 2, 1) := by decide +kernel
theorem dL_sheets_135 : decode cL_sheets 135 = .ok (.bipush 30, 2) := by decide +kernel
theorem dL_sheets_137 : decode cL_sheets 137 = .ok (.iaload, 1) := by decide +kernel
theorem dL_sheets_138 : decode cL_sheets 138 = .ok (.idiv, 1) := by decide +kernel
theorem dL_sheets_139 : decode cL_sheets 139 = .ok (.istore 14, 2) := by decide +kernel
theorem dL_sheets_141 : decode cL_sheets 141 = .ok (.iload 12, 2) := by decide +kernel
theorem dL_sheets_143 : decode cL_sheets 143 = .ok (.iload 8, 2) := by decide +kernel
theorem dL_sheets_145 : decode cL_sheets 145 = .ok (.if_icmp .le 8, 3) := by decide +kernel
theorem dL_sheets_148 : decode cL_sheets 148 = .ok (.iload 12, 2) := by decide +kernel
theorem dL_sheets_150 : decode cL_sheets 150 = .ok (.goto 5, 3) := by decide +kernel
theorem dL_sheets_153 : decode cL_sheets 153 = .ok (.iload 8, 2) := by decide +kernel
theorem dL_sheets_155 : decode cL_sheets 155 = .ok (.istore 8, 2) := by decide +kernel
theorem dL_sheets_157 : decode cL_sheets 157 = .ok (.iload 9, 2) := by decide +kernel
theorem dL_sheets_159 : decode cL_sheets 159 = .ok (.iload 11, 2) := by decide +kernel
theorem dL_sheets_161 : decode cL_sheets 161 = .ok (.ifCond .ne 16, 3) := by decide +kernel
theorem dL_sheets_164 : decode cL_sheets 164 = .ok (.aload 6, 2) := by decide +kernel
theorem dL_sheets_166 : decode cL_sheets 166 = .ok (.iload 10, 2) := by decide +kernel
theorem dL_sheets_168 : decode cL_sheets 168 = .ok (.iaload, 1) := by decide +kernel
theorem dL_sheets_169 : decode cL_sheets 169 = .ok (.iconst 1, 1) := by decide +kernel
theorem dL_sheets_170 : decode cL_sheets 170 = .ok (.if_icmp .ne 7, 3) := by decide +kernel
theorem dL_sheets_173 : decode cL_sheets 173 = .ok (.iconst 1, 1) := by decide +kernel
theorem dL_sheets_174 : decode cL_sheets 174 = .ok (.goto 4, 3) := by decide +kernel
theorem dL_sheets_177 : decode cL_sheets 177 = .ok (.iconst 0, 1) := by decide +kernel
theorem dL_sheets_178 : decode cL_sheets 178 = .ok (.iadd, 1) := by decide +kernel
theorem dL_sheets_179 : decode cL_sheets 179 = .ok (.istore 9, 2) := by decide +kernel
theorem dL_sheets_181 : decode cL_sheets 181 = .ok (.aload_n 0, 1) := by decide +kernel
theorem dL_sheets_182 : decode cL_sheets 182 = .ok (.iconst 0, 1) := by decide +kernel
theorem dL_sheets_183 : decode cL_sheets 183 = .ok (.iload 13, 2) := by decide +kernel
theorem dL_sheets_185 : decode cL_sheets 185 = .ok (.iload 14, 2) := by decide +kernel
theorem dL_sheets_187 : decode cL_sheets 187 = .ok (.invokestatic 166, 3) := by decide +kernel
theorem dL_sheets_190 : decode cL_sheets 190 = .ok (.aload_n 3, 1) := by decide +kernel
theorem dL_sheets_191 : decode cL_sheets 191 = .ok (.iload 10, 2) := by decide +kernel
theorem dL_sheets_193 : decode cL_sheets 193 = .ok (.iaload, 1) := by decide +kernel
theorem dL_sheets_194 : decode cL_sheets 194 = .ok (.if_icmp .ne 51, 3) := by decide +kernel
theorem dL_sheets_197 : decode cL_sheets 197 = .ok (.aload_n 0, 1) := by decide +kernel
theorem dL_sheets_198 : decode cL_sheets 198 = .ok (.iconst 1, 1) := by decide +kernel
theorem dL_sheets_199 : decode cL_sheets 199 = .ok (.iload 13, 2) := by decide +kernel
theorem dL_sheets_201 : decode cL_sheets 201 = .ok (.iload 14, 2) := by decide +kernel
theorem dL_sheets_203 : decode cL_sheets 203 = .ok (.invokestatic 166, 3) := by decide +kernel
theorem dL_sheets_206 : decode cL_sheets 206 = .ok (.aload 4, 2) := by decide +kernel
theorem dL_sheets_208 : decode cL_sheets 208 = .ok (.iload 10, 2) := by decide +kernel
theorem dL_sheets_210 : decode cL_sheets 210 = .ok (.iaload, 1) := by decide +kernel
theorem dL_sheets_211 : decode cL_sheets 211 = .ok (.if_icmp .ne 34, 3) := by decide +kernel
theorem dL_sheets_214 : decode cL_sheets 214 = .ok (.aload_n 0, 1) := by decide +kernel
theorem dL_sheets_215 : decode cL_sheets 215 = .ok (.iconst 2, 1) := by decide +kernel
theorem dL_sheets_216 : decode cL_sheets 216 = .ok (.iload 13, 2) := by decide +kernel
theorem dL_sheets_218 : decode cL_sheets 218 = .ok (.iload 14, 2) := by decide +kernel
theorem dL_sheets_220 : decode cL_sheets 220 = .ok (.invokestatic 166, 3) := by decide +kernel
theorem dL_sheets_223 : decode cL_sheets 223 = .ok (.iload 11, 2) := by decide +kernel
theorem dL_sheets_225 : decode cL_sheets 225 = .ok (.if_icmp .ne 20, 3) := by decide +kernel
theorem dL_sheets_228 : decode cL_sheets 228 = .ok (.aload_n 0, 1) := by decide +kernel
theorem dL_sheets_229 : decode cL_sheets 229 = .ok (.iconst 3, 1) := by decide +kernel
theorem dL_sheets_230 : decode cL_sheets 230 = .ok (.iload 13, 2) := by decide +kernel
theorem dL_sheets_232 : decode cL_sheets 232 = .ok (.iload 14, 2) := by decide +kernel
theorem dL_sheets_234 : decode cL_sheets 234 = .ok (.invokestatic 166, 3) := by decide +kernel
theorem dL_sheets_237 : decode cL_sheets 237 = .ok (.aload 6, 2) := by decide +kernel
theorem dL_sheets_239 : decode cL_sheets 239 = .ok (.iload 10, 2) := by decide +kernel
theorem dL_sheets_241 : decode cL_sheets 241 = .ok (.iaload, 1) := by decide +kernel
theorem dL_sheets_242 : decode cL_sheets 242 = .ok (.if_icmp .eq 5, 3) := by decide +kernel
theorem dL_sheets_245 : decode cL_sheets 245 = .ok (.iconst 0, 1) := by decide +kernel
theorem dL_sheets_246 : decode cL_sheets 246 = .ok (.ireturn, 1) := by decide +kernel
theorem dL_sheets_247 : decode cL_sheets 247 = .ok (.iinc 10 1, 3) := by decide +kernel
theorem dL_sheets_250 : decode cL_sheets 250 = .ok (.goto (-230), 3) := by decide +kernel
theorem dL_sheets_253 : decode cL_sheets 253 = .ok (.iload_n 1, 1) := by decide +kernel
theorem dL_sheets_254 : decode cL_sheets 254 = .ok (.sipush 181, 3) := by decide +kernel
theorem dL_sheets_257 : decode cL_sheets 257 = .ok (.invokestatic 109, 3) := by decide +kernel
theorem dL_sheets_260 : decode cL_sheets 260 = .ok (.bipush 90, 2) := by decide +kernel
theorem dL_sheets_262 : decode cL_sheets 262 = .ok (.isub, 1) := by decide +kernel
theorem dL_sheets_263 : decode cL_sheets 263 = .ok (.istore 10, 2) := by decide +kernel
theorem dL_sheets_265 : decode cL_sheets 265 = .ok (.iload_n 1, 1) := by decide +kernel
theorem dL_sheets_266 : decode cL_sheets 266 = .ok (.iconst 5, 1) := by decide +kernel
theorem dL_sheets_267 : decode cL_sheets 267 = .ok (.ishr, 1) := by decide +kernel
theorem dL_sheets_268 : decode cL_sheets 268 = .ok (.bipush 60, 2) := by decide +kernel
theorem dL_sheets_270 : decode cL_sheets 270 = .ok (.invokestatic 109, 3) := by decide +kernel
theorem dL_sheets_273 : decode cL_sheets 273 = .ok (.ifCond .ne 9, 3) := by decide +kernel
theorem dL_sheets_276 : decode cL_sheets 276 = .ok (.sipush (-181), 3) := by decide +kernel
theorem dL_sheets_279 : decode cL_sheets 279 = .ok (.goto 16, 3) := by decide +kernel
theorem dL_sheets_282 : decode cL_sheets 282 = .ok (.iload_n 1, 1) := by decide +kernel
theorem dL_sheets_283 : decode cL_sheets 283 = .ok (.iconst 5, 1) := by decide +kernel
theorem dL_sheets_284 : decode cL_sheets 284 = .ok (.ishr, 1) := by decide +kernel
theorem dL_sheets_285 : decode cL_sheets 285 = .ok (.sipush 360, 3) := by decide +kernel
theorem dL_sheets_288 : decode cL_sheets 288 = .ok (.invokestatic 109, 3) := by decide +kernel
theorem dL_sheets_291 : decode cL_sheets 291 = .ok (.sipush 180, 3) := by decide +kernel
theorem dL_sheets_294 : decode cL_sheets 294 = .ok (.isub, 1) := by decide +kernel
theorem dL_sheets_295 : decode cL_sheets 295 = .ok (.istore 11, 2) := by decide +kernel
theorem dL_sheets_297 : decode cL_sheets 297 = .ok (.iconst 0, 1) := by decide +kernel
theorem dL_sheets_298 : decode cL_sheets 298 = .ok (.istore 12, 2) := by decide +kernel
theorem dL_sheets_300 : decode cL_sheets 300 = .ok (.iload 12, 2) := by decide +kernel
theorem dL_sheets_302 : decode cL_sheets 302 = .ok (.iconst 1, 1) := by decide +kernel
theorem dL_sheets_303 : decode cL_sheets 303 = .ok (.iadd, 1) := by decide +kernel
theorem dL_sheets_304 : decode cL_sheets 304 = .ok (.sipush 360, 3) := by decide +kernel
theorem dL_sheets_307 : decode cL_sheets 307 = .ok (.imul, 1) := by decide +kernel
theorem dL_sheets_308 : decode cL_sheets 308 = .ok (.iload 11, 2) := by decide +kernel
theorem dL_sheets_310 : decode cL_sheets 310 = .ok (.sipush 180, 3) := by decide +kernel
theorem dL_sheets_313 : decode cL_sheets 313 = .ok (.iadd, 1) := by decide +kernel
theorem dL_sheets_314 : decode cL_sheets 314 = .ok (.aload_n 2, 1) := by decide +kernel
theorem dL_sheets_315 : decode cL_sheets 315 = .ok (.bipush 30, 2) := by decide +kernel
theorem dL_sheets_317 : decode cL_sheets 317 = .ok (.iaload, 1) := by decide +kernel
theorem dL_sheets_318 : decode cL_sheets 318 = .ok (.imul, 1) := by decide +kernel
theorem dL_sheets_319 : decode cL_sheets 319 = .ok (.if_icmp .gt 9, 3) := by decide +kernel
theorem dL_sheets_322 : decode cL_sheets 322 = .ok (.iinc 12 1, 3) := by decide +kernel
theorem dL_sheets_325 : decode cL_sheets 325 = .ok (.goto (-25), 3) := by decide +kernel
theorem dL_sheets_328 : decode cL_sheets 328 = .ok (.iconst 0, 1) := by decide +kernel
theorem dL_sheets_329 : decode cL_sheets 329 = .ok (.istore 13, 2) := by decide +kernel
theorem dL_sheets_331 : decode cL_sheets 331 = .ok (.iload 13, 2) := by decide +kernel
theorem dL_sheets_333 : decode cL_sheets 333 = .ok (.iconst 1, 1) := by decide +kernel
theorem dL_sheets_334 : decode cL_sheets 334 = .ok (.iadd, 1) := by decide +kernel
theorem dL_sheets_335 : decode cL_sheets 335 = .ok (.aload_n 2, 1) := by decide +kernel
theorem dL_sheets_336 : decode cL_sheets 336 = .ok (.bipush 31, 2) := by decide +kernel
theorem dL_sheets_338 : decode cL_sheets 338 = .ok (.iaload, 1) := by decide +kernel
theorem dL_sheets_339 : decode cL_sheets 339 = .ok (.if_icmp .ge 30, 3) := by decide +kernel
theorem dL_sheets_342 : decode cL_sheets 342 = .ok (.iload 13, 2) := by decide +kernel
theorem dL_sheets_344 : decode cL_sheets 344 = .ok (.iconst 1, 1) := by decide +kernel
theorem dL_sheets_345 : decode cL_sheets 345 = .ok (.iadd, 1) := by decide +kernel
theorem dL_sheets_346 : decode cL_sheets 346 = .ok (.sipush 180, 3) := by decide +kernel
theorem dL_sheets_349 : decode cL_sheets 349 = .ok (.imul, 1) := by decide +kernel
theorem dL_sheets_350 : decode cL_sheets 350 = .ok (.bipush 90, 2) := by decide +kernel
theorem dL_sheets_352 : decode cL_sheets 352 = .ok (.iload 10, 2) := by decide +kernel
theorem dL_sheets_354 : decode cL_sheets 354 = .ok (.isub, 1) := by decide +kernel
theorem dL_sheets_355 : decode cL_sheets 355 = .ok (.aload_n 2, 1) := by decide +kernel
theorem dL_sheets_356 : decode cL_sheets 356 = .ok (.bipush 31, 2) := by decide +kernel
theorem dL_sheets_358 : decode cL_sheets 358 = .ok (.iaload, 1) := by decide +kernel
theorem dL_sheets_359 : decode cL_sheets 359 = .ok (.imul, 1) := by decide +kernel
theorem dL_sheets_360 : decode cL_sheets 360 = .ok (.if_icmp .gt 9, 3) := by decide +kernel
theorem dL_sheets_363 : decode cL_sheets 363 = .ok (.iinc 13 1, 3) := by decide +kernel
theorem dL_sheets_366 : decode cL_sheets 366 = .ok (.goto (-35), 3) := by decide +kernel
theorem dL_sheets_369 : decode cL_sheets 369 = .ok (.aload_n 0, 1) := by decide +kernel
theorem dL_sheets_370 : decode cL_sheets 370 = .ok (.invokevirtual 169, 3) := by decide +kernel
theorem dL_sheets_373 : decode cL_sheets 373 = .ok (.iload 8, 2) := by decide +kernel
theorem dL_sheets_375 : decode cL_sheets 375 = .ok (.if_icmp .ne 109, 3) := by decide +kernel
theorem dL_sheets_378 : decode cL_sheets 378 = .ok (.aload_n 0, 1) := by decide +kernel
theorem dL_sheets_379 : decode cL_sheets 379 = .ok (.invokevirtual 172, 3) := by decide +kernel
theorem dL_sheets_382 : decode cL_sheets 382 = .ok (.iload 9, 2) := by decide +kernel
theorem dL_sheets_384 : decode cL_sheets 384 = .ok (.if_icmp .ne 100, 3) := by decide +kernel
theorem dL_sheets_387 : decode cL_sheets 387 = .ok (.aload_n 0, 1) := by decide +kernel
theorem dL_sheets_388 : decode cL_sheets 388 = .ok (.bipush 7, 2) := by decide +kernel
theorem dL_sheets_390 : decode cL_sheets 390 = .ok (.iload 10, 2) := by decide +kernel
theorem dL_sheets_392 : decode cL_sheets 392 = .ok (.iload 11, 2) := by decide +kernel
theorem dL_sheets_394 : decode cL_sheets 394 = .ok (.iconst 0, 1) := by decide +kernel
theorem dL_sheets_395 : decode cL_sheets 395 = .ok (.invokestatic 119, 3) := by decide +kernel
theorem dL_sheets_398 : decode cL_sheets 398 = .ok (.iload 11, 2) := by decide +kernel
theorem dL_sheets_400 : decode cL_sheets 400 = .ok (.sipush (-180), 3) := by decide +kernel
theorem dL_sheets_403 : decode cL_sheets 403 = .ok (.if_icmp .ge 8, 3) := by decide +kernel
theorem dL_sheets_406 : decode cL_sheets 406 = .ok (.ldc 65, 2) := by decide +kernel
theorem dL_sheets_408 : decode cL_sheets 408 = .ok (.goto 11, 3) := by decide +kernel
theorem dL_sheets_411 : decode cL_sheets 411 = .ok (.bipush 10, 2) := by decide +kernel
theorem dL_sheets_413 : decode cL_sheets 413 = .ok (.iload 12, 2) := by decide +kernel
theorem dL_sheets_415 : decode cL_sheets 415 = .ok (.imul, 1) := by decide +kernel
theorem dL_sheets_416 : decode cL_sheets 416 = .ok (.iload 13, 2) := by decide +kernel
theorem dL_sheets_418 : decode cL_sheets 418 = .ok (.iadd, 1) := by decide +kernel
theorem dL_sheets_419 : decode cL_sheets 419 = .ok (.if_icmp .ne 65, 3) := by decide +kernel
theorem dL_sheets_422 : decode cL_sheets 422 = .ok (.aload_n 0, 1) := by decide +kernel
theorem dL_sheets_423 : decode cL_sheets 423 = .ok (.iconst 0, 1) := by decide +kernel
theorem dL_sheets_424 : decode cL_sheets 424 = .ok (.aload_n 2, 1) := by decide +kernel
theorem dL_sheets_425 : decode cL_sheets 425 = .ok (.bipush 30, 2) := by decide +kernel
theorem dL_sheets_427 : decode cL_sheets 427 = .ok (.iaload, 1) := by decide +kernel
theorem dL_sheets_428 : decode cL_sheets 428 = .ok (.iconst 0, 1) := by decide +kernel
theorem dL_sheets_429 : decode cL_sheets 429 = .ok (.invokestatic 166, 3) := by decide +kernel
theorem dL_sheets_432 : decode cL_sheets 432 = .ok (.sipush (-1001), 3) := by decide +kernel
theorem dL_sheets_435 : decode cL_sheets 435 = .ok (.if_icmp .ne 49, 3) := by decide +kernel
theorem dL_sheets_438 : decode cL_sheets 438 = .ok (.aload_n 0, 1) := by decide +kernel
theorem dL_sheets_439 : decode cL_sheets 439 = .ok (.iconst 1, 1) := by decide +kernel
theorem dL_sheets_440 : decode cL_sheets 440 = .ok (.iconst 0, 1) := by decide +kernel
theorem dL_sheets_441 : decode cL_sheets 441 = .ok (.aload_n 2, 1) := by decide +kernel
theorem dL_sheets_442 : decode cL_sheets 442 = .ok (.bipush 31, 2) := by decide +kernel
theorem dL_sheets_444 : decode cL_sheets 444 = .ok (.iaload, 1) := by decide +kernel
theorem dL_sheets_445 : decode cL_sheets 445 = .ok (.invokestatic 166, 3) := by decide +kernel
theorem dL_sheets_448 : decode cL_sheets 448 = .ok (.sipush (-1001), 3) := by decide +kernel
theorem dL_sheets_451 : decode cL_sheets 451 = .ok (.if_icmp .ne 33, 3) := by decide +kernel
theorem dL_sheets_454 : decode cL_sheets 454 = .ok (.aload_n 0, 1) := by decide +kernel
theorem dL_sheets_455 : decode cL_sheets 455 = .ok (.iconst 2, 1) := by decide +kernel
theorem dL_sheets_456 : decode cL_sheets 456 = .ok (.iconst (-1), 1) := by decide +kernel
theorem dL_sheets_457 : decode cL_sheets 457 = .ok (.iconst 0, 1) := by decide +kernel
theorem dL_sheets_458 : decode cL_sheets 458 = .ok (.invokestatic 166, 3) := by decide +kernel
theorem dL_sheets_461 : decode cL_sheets 461 = .ok (.sipush (-1001), 3) := by decide +kernel
theorem dL_sheets_464 : decode cL_sheets 464 = .ok (.if_icmp .ne 20, 3) := by decide +kernel
theorem dL_sheets_467 : decode cL_sheets 467 = .ok (.aload_n 0, 1) := by decide +kernel
theorem dL_sheets_468 : decode cL_sheets 468 = .ok (.iconst 3, 1) := by decide +kernel
theorem dL_sheets_469 : decode cL_sheets 469 = .ok (.iconst 0, 1) := by decide +kernel
theorem dL_sheets_470 : decode cL_sheets 470 = .ok (.iconst (-1), 1) := by decide +kernel
theorem dL_sheets_471 : decode cL_sheets 471 = .ok (.invokestatic 166, 3) := by decide +kernel
theorem dL_sheets_474 : decode cL_sheets 474 = .ok (.sipush (-1001), 3) := by decide +kernel
theorem dL_sheets_477 : decode cL_sheets 477 = .ok (.if_icmp .ne 7, 3) := by decide +kernel
theorem dL_sheets_480 : decode cL_sheets 480 = .ok (.iconst 1, 1) := by decide +kernel
theorem dL_sheets_481 : decode cL_sheets 481 = .ok (.goto 4, 3) := by decide +kernel
theorem dL_sheets_484 : decode cL_sheets 484 = .ok (.iconst 0, 1) := by decide +kernel
theorem dL_sheets_485 : decode cL_sheets 485 = .ok (.ireturn, 1) := by decide +kernel
theorem dL_law_0 : decode cL_law 0 = .ok (.new 24, 3) := by decide +kernel
theorem dL_law_3 : decode cL_law 3 = .ok (.dup, 1) := by decide +kernel
theorem dL_law_4 : decode cL_law 4 = .ok (.invokespecial 175, 3) := by decide +kernel
theorem dL_law_7 : decode cL_law 7 = .ok (.astore_n 1, 1) := by decide +kernel
theorem dL_law_8 : decode cL_law 8 = .ok (.bipush 33, 2) := by decide +kernel
theorem dL_law_10 : decode cL_law 10 = .ok (.newarray .int, 2) := by decide +kernel
theorem dL_law_12 : decode cL_law 12 = .ok (.astore_n 2, 1) := by decide +kernel
theorem dL_law_13 : decode cL_law 13 = .ok (.bipush 36, 2) := by decide +kernel
theorem dL_law_15 : decode cL_law 15 = .ok (.newarray .int, 2) := by decide +kernel
theorem dL_law_17 : decode cL_law 17 = .ok (.astore_n 3, 1) := by decide +kernel
theorem dL_law_18 : decode cL_law 18 = .ok (.bipush 36, 2) := by decide +kernel
theorem dL_law_20 : decode cL_law 20 = .ok (.newarray .int, 2) := by decide +kernel
theorem dL_law_22 : decode cL_law 22 = .ok (.astore 4, 2) := by decide +kernel
theorem dL_law_24 : decode cL_law 24 = .ok (.bipush 36, 2) := by decide +kernel
theorem dL_law_26 : decode cL_law 26 = .ok (.newarray .int, 2) := by decide +kernel
theorem dL_law_28 : decode cL_law 28 = .ok (.astore 5, 2) := by decide +kernel
theorem dL_law_30 : decode cL_law 30 = .ok (.bipush 36, 2) := by decide +kernel
theorem dL_law_32 : decode cL_law 32 = .ok (.newarray .int, 2) := by decide +kernel
theorem dL_law_34 : decode cL_law 34 = .ok (.astore 6, 2) := by decide +kernel
theorem dL_law_36 : decode cL_law 36 = .ok (.iconst 0, 1) := by decide +kernel
theorem dL_law_37 : decode cL_law 37 = .ok (.istore 7, 2) := by decide +kernel
theorem dL_law_39 : decode cL_law 39 = .ok (.iload 7, 2) := by decide +kernel
theorem dL_law_41 : decode cL_law 41 = .ok (.bipush 10, 2) := by decide +kernel
theorem dL_law_43 : decode cL_law 43 = .ok (.if_icmp .ge 35, 3) := by decide +kernel
theorem dL_law_46 : decode cL_law 46 = .ok (.aload_n 2, 1) := by decide +kernel
theorem dL_law_47 : decode cL_law 47 = .ok (.iload 7, 2) := by decide +kernel
theorem dL_law_49 : decode cL_law 49 = .ok (.sipush 1000, 3) := by decide +kernel
theorem dL_law_52 : decode cL_law 52 = .ok (.bipush 100, 2) := by decide +kernel
theorem dL_law_54 : decode cL_law 54 = .ok (.iload 7, 2) := by decide +kernel
theorem dL_law_56 : decode cL_law 56 = .ok (.imul, 1) := by decide +kernel
theorem dL_law_57 : decode cL_law 57 = .ok (.isub, 1) := by decide +kernel
theorem dL_law_58 : decode cL_law 58 = .ok (.iastore, 1) := by decide +kernel
theorem dL_law_59 : decode cL_law 59 = .ok (.aload_n 2, 1) := by decide +kernel
theorem dL_law_60 : decode cL_law 60 = .ok (.bipush 10, 2) := by decide +kernel
theorem dL_law_62 : decode cL_law 62 = .ok (.iload 7, 2) := by decide +kernel
theorem dL_law_64 : decode cL_law 64 = .ok (.iadd, 1) := by decide +kernel
theorem dL_law_65 : decode cL_law 65 = .ok (.sipush 1000, 3) := by decide +kernel
theorem dL_law_68 : decode cL_law 68 = .ok (.iload 7, 2) := by decide +kernel
theorem dL_law_70 : decode cL_law 70 = .ok (.imul, 1) := by decide +kernel
theorem dL_law_71 : decode cL_law 71 = .ok (.iastore, 1) := by decide +kernel
theorem dL_law_72 : decode cL_law 72 = .ok (.iinc 7 1, 3) := by decide +kernel
theorem dL_law_75 : decode cL_law 75 = .ok (.goto (-36), 3) := by decide +kernel
theorem dL_law_78 : decode cL_law 78 = .ok (.iconst 0, 1) := by decide +kernel
theorem dL_law_79 : decode cL_law 79 = .ok (.istore 7, 2) := by decide +kernel
theorem dL_law_81 : decode cL_law 81 = .ok (.iload 7, 2) := by decide +kernel
theorem dL_law_83 : decode cL_law 83 = .ok (.bipush 9, 2) := by decide +kernel
theorem dL_law_85 : decode cL_law 85 = .ok (.if_icmp .ge 19, 3) := by decide +kernel
theorem dL_law_88 : decode cL_law 88 = .ok (.aload_n 2, 1) := by decide +kernel
theorem dL_law_89 : decode cL_law 89 = .ok (.bipush 20, 2) := by decide +kernel
theorem dL_law_91 : decode cL_law 91 = .ok (.iload 7, 2) := by decide +kernel
theorem dL_law_93 : decode cL_law 93 = .ok (.iadd, 1) := by decide +kernel
theorem dL_law_94 : decode cL_law 94 = .ok (.sipush 1000, 3) := by decide +kernel
theorem dL_law_97 : decode cL_law 97 = .ok (.iastore, 1) := by decide +kernel
theorem dL_law_98 : decode cL_law 98 = .ok (.iinc 7 1, 3) := by decide +kernel
theorem dL_law_101 : decode cL_law 101 = .ok (.goto (-20), 3) := by decide +kernel
theorem dL_law_104 : decode cL_law 104 = .ok (.aload_n 2, 1) := by decide +kernel
theorem dL_law_105 : decode cL_law 105 = .ok (.bipush 29, 2) := by decide +kernel
theorem dL_law_107 : decode cL_law 107 = .ok (.bipush 15, 2) := by decide +kernel
theorem dL_law_109 : decode cL_law 109 = .ok (.iastore, 1) := by decide +kernel
theorem dL_law_110 : decode cL_law 110 = .ok (.aload_n 2, 1) := by decide +kernel
theorem dL_law_111 : decode cL_law 111 = .ok (.bipush 30, 2) := by decide +kernel
theorem dL_law_113 : decode cL_law 113 = .ok (.iconst 1, 1) := by decide +kernel
theorem dL_law_114 : decode cL_law 114 = .ok (.iastore, 1) := by decide +kernel
theorem dL_law_115 : decode cL_law 115 = .ok (.aload_n 2, 1) := by decide +kernel
theorem dL_law_116 : decode cL_law 116 = .ok (.bipush 31, 2) := by decide +kernel
theorem dL_law_118 : decode cL_law 118 = .ok (.iconst 1, 1) := by decide +kernel
theorem dL_law_119 : decode cL_law 119 = .ok (.iastore, 1) := by decide +kernel
theorem dL_law_120 : decode cL_law 120 = .ok (.aload_n 2, 1) := by decide +kernel
theorem dL_law_121 : decode cL_law 121 = .ok (.aload_n 3, 1) := by decide +kernel
theorem dL_law_122 : decode cL_law 122 = .ok (.aload 4, 2) := by decide +kernel
theorem dL_law_124 : decode cL_law 124 = .ok (.aload 5, 2) := by decide +kernel
theorem dL_law_126 : decode cL_law 126 = .ok (.aload 6, 2) := by decide +kernel
theorem dL_law_128 : decode cL_law 128 = .ok (.invokestatic 123, 3) := by decide +kernel
theorem dL_law_131 : decode cL_law 131 = .ok (.iconst 0, 1) := by decide +kernel
theorem dL_law_132 : decode cL_law 132 = .ok (.istore 7, 2) := by decide +kernel
theorem dL_law_134 : decode cL_law 134 = .ok (.iload 7, 2) := by decide +kernel
theorem dL_law_136 : decode cL_law 136 = .ok (.bipush 60, 2) := by decide +kernel
theorem dL_law_138 : decode cL_law 138 = .ok (.if_icmp .ge 155, 3) := by decide +kernel
theorem dL_law_141 : decode cL_law 141 = .ok (.aload_n 0, 1) := by decide +kernel
theorem dL_law_142 : decode cL_law 142 = .ok (.iload 7, 2) := by decide +kernel
theorem dL_law_144 : decode cL_law 144 = .ok (.invokestatic 176, 3) := by decide +kernel
theorem dL_law_147 : decode cL_law 147 = .ok (.istore 8, 2) := by decide +kernel
theorem dL_law_149 : decode cL_law 149 = .ok (.iload 8, 2) := by decide +kernel
theorem dL_law_151 : decode cL_law 151 = .ok (.iconst 4, 1) := by decide +kernel
theorem dL_law_152 : decode cL_law 152 = .ok (.ishr, 1) := by decide +kernel
theorem dL_law_153 : decode cL_law 153 = .ok (.istore 9, 2) := by decide +kernel
theorem dL_law_155 : decode cL_law 155 = .ok (.iload 8, 2) := by decide +kernel
theorem dL_law_157 : decode cL_law 157 = .ok (.bipush 16, 2) := by decide +kernel
theorem dL_law_159 : decode cL_law 159 = .ok (.invokestatic 109, 3) := by decide +kernel
theorem dL_law_162 : decode cL_law 162 = .ok (.istore 10, 2) := by decide +kernel
theorem dL_law_164 : decode cL_law 164 = .ok (.aload_n 1, 1) := by decide +kernel
theorem dL_law_165 : decode cL_law 165 = .ok (.iload 7, 2) := by decide +kernel
theorem dL_law_167 : decode cL_law 167 = .ok (.ifCond .ne 7, 3) := by decide +kernel
theorem dL_law_170 : decode cL_law 170 = .ok (.iconst 5, 1) := by decide +kernel
theorem dL_law_171 : decode cL_law 171 = .ok (.goto 5, 3) := by decide +kernel
theorem dL_law_174 : decode cL_law 174 = .ok (.iload 10, 2) := by decide +kernel
theorem dL_law_176 : decode cL_law 176 = .ok (.iload 9, 2) := by decide +kernel
theorem dL_law_178 : decode cL_law 178 = .ok (.aload_n 2, 1) := by decide +kernel
theorem dL_law_179 : decode cL_law 179 = .ok (.aload_n 3, 1) := by decide +kernel
theorem dL_law_180 : decode cL_law 180 = .ok (.aload 4, 2) := by decide +kernel
theorem dL_law_182 : decode cL_law 182 = .ok (.aload 5, 2) := by decide +kernel
theorem dL_law_184 : decode cL_law 184 = .ok (.aload 6, 2) := by decide +kernel
theorem dL_law_186 : decode cL_law 186 = .ok (.invokestatic 179, 3) := by decide +kernel
theorem dL_law_189 : decode cL_law 189 = .ok (.istore 11, 2) := by decide +kernel
theorem dL_law_191 : decode cL_law 191 = .ok (.iload 7, 2) := by decide +kernel
theorem dL_law_193 : decode cL_law 193 = .ok (.iconst 4, 1) := by decide +kernel
theorem dL_law_194 : decode cL_law 194 = .ok (.irem, 1) := by decide +kernel
theorem dL_law_195 : decode cL_law 195 = .ok (.istore 12, 2) := by decide +kernel
theorem dL_law_197 : decode cL_law 197 = .ok (.iload 11, 2) := by decide +kernel
theorem dL_law_199 : decode cL_law 199 = .ok (.ifCond .eq 78, 3) := by decide +kernel
theorem dL_law_202 : decode cL_law 202 = .ok (.iload 12, 2) := by decide +kernel
theorem dL_law_204 : decode cL_law 204 = .ok (.ifCond .ne 16, 3) := by decide +kernel
theorem dL_law_207 : decode cL_law 207 = .ok (.aload_n 1, 1) := by decide +kernel
theorem dL_law_208 : decode cL_law 208 = .ok (.iload 9, 2) := by decide +kernel
theorem dL_law_210 : decode cL_law 210 = .ok (.aload_n 2, 1) := by decide +kernel
theorem dL_law_211 : decode cL_law 211 = .ok (.invokestatic 183, 3) := by decide +kernel
theorem dL_law_214 : decode cL_law 214 = .ok (.ifCond .eq 63, 3) := by decide +kernel
theorem dL_law_217 : decode cL_law 217 = .ok (.goto 56, 3) := by decide +kernel
theorem dL_law_220 : decode cL_law 220 = .ok (.iload 12, 2) := by decide +kernel
theorem dL_law_222 : decode cL_law 222 = .ok (.iconst 1, 1) := by decide +kernel
theorem dL_law_223 : decode cL_law 223 = .ok (.if_icmp .ne 16, 3) := by decide +kernel
theorem dL_law_226 : decode cL_law 226 = .ok (.aload_n 1, 1) := by decide +kernel
theorem dL_law_227 : decode cL_law 227 = .ok (.iload 9, 2) := by decide +kernel
theorem dL_law_229 : decode cL_law 229 = .ok (.aload_n 2, 1) := by decide +kernel
theorem dL_law_230 : decode cL_law 230 = .ok (.invokestatic 187, 3) := by decide +kernel
theorem dL_law_233 : decode cL_law 233 = .ok (.ifCond .eq 44, 3) := by decide +kernel
theorem dL_law_236 : decode cL_law 236 = .ok (.goto 37, 3) := by decide +kernel
theorem dL_law_239 : decode cL_law 239 = .ok (.iload 12, 2) := by decide +kernel
theorem dL_law_241 : decode cL_law 241 = .ok (.iconst 2, 1) := by decide +kernel
theorem dL_law_242 : decode cL_law 242 = .ok (.if_icmp .ne 23, 3) := by decide +kernel
theorem dL_law_245 : decode cL_law 245 = .ok (.aload_n 1, 1) := by decide +kernel
theorem dL_law_246 : decode cL_law 246 = .ok (.iload 9, 2) := by decide +kernel
theorem dL_law_248 : decode cL_law 248 = .ok (.aload_n 2, 1) := by decide +kernel
theorem dL_law_249 : decode cL_law 249 = .ok (.aload_n 3, 1) := by decide +kernel
theorem dL_law_250 : decode cL_law 250 = .ok (.aload 4, 2) := by decide +kernel
theorem dL_law_252 : decode cL_law 252 = .ok (.aload 5, 2) := by decide +kernel
theorem dL_law_254 : decode cL_law 254 = .ok (.aload 6, 2) := by decide +kernel
theorem dL_law_256 : decode cL_law 256 = .ok (.invokestatic 190, 3) := by decide +kernel
theorem dL_law_259 : decode cL_law 259 = .ok (.ifCond .eq 18, 3) := by decide +kernel
theorem dL_law_262 : decode cL_law 262 = .ok (.goto 11, 3) := by decide +kernel
theorem dL_law_265 : decode cL_law 265 = .ok (.aload_n 1, 1) := by decide +kernel
theorem dL_law_266 : decode cL_law 266 = .ok (.aload_n 2, 1) := by decide +kernel
theorem dL_law_267 : decode cL_law 267 = .ok (.invokestatic 194, 3) := by decide +kernel
theorem dL_law_270 : decode cL_law 270 = .ok (.ifCond .eq 7, 3) := by decide +kernel
theorem dL_law_273 : decode cL_law 273 = .ok (.iconst 1, 1) := by decide +kernel
theorem dL_law_274 : decode cL_law 274 = .ok (.goto 4, 3) := by decide +kernel
theorem dL_law_277 : decode cL_law 277 = .ok (.iconst 0, 1) := by decide +kernel
theorem dL_law_278 : decode cL_law 278 = .ok (.istore 11, 2) := by decide +kernel
theorem dL_law_280 : decode cL_law 280 = .ok (.iload 11, 2) := by decide +kernel
theorem dL_law_282 : decode cL_law 282 = .ok (.ifCond .ne 5, 3) := by decide +kernel
theorem dL_law_285 : decode cL_law 285 = .ok (.iconst 0, 1) := by decide +kernel
theorem dL_law_286 : decode cL_law 286 = .ok (.ireturn, 1) := by decide +kernel
theorem dL_law_287 : decode cL_law 287 = .ok (.iinc 7 1, 3) := by decide +kernel
theorem dL_law_290 : decode cL_law 290 = .ok (.goto (-156), 3) := by decide +kernel
theorem dL_law_293 : decode cL_law 293 = .ok (.iconst 1, 1) := by decide +kernel
theorem dL_law_294 : decode cL_law 294 = .ok (.ireturn, 1) := by decide +kernel
