theorem dX5_fold_51 : decode cX5_fold 51 = .ok (.aload_n 0, 1) := by decide +kernel
theorem dX5_fold_52 : decode cX5_fold 52 = .ok (.iload 5, 2) := by decide +kernel
theorem dX5_fold_54 : decode cX5_fold 54 = .ok (.invokevirtual 109, 3) := by decide +kernel
theorem dX5_fold_57 : decode cX5_fold 57 = .ok (.ifCond .eq 25, 3) := by decide +kernel
theorem dX5_fold_60 : decode cX5_fold 60 = .ok (.aload_n 0, 1) := by decide +kernel
theorem dX5_fold_61 : decode cX5_fold 61 = .ok (.getfield 29, 3) := by decide +kernel
theorem dX5_fold_64 : decode cX5_fold 64 = .ok (.iload 5, 2) := by decide +kernel
theorem dX5_fold_66 : decode cX5_fold 66 = .ok (.iaload, 1) := by decide +kernel
theorem dX5_fold_67 : decode cX5_fold 67 = .ok (.iload 4, 2) := by decide +kernel
theorem dX5_fold_69 : decode cX5_fold 69 = .ok (.if_icmp .le 13, 3) := by decide +kernel
theorem dX5_fold_72 : decode cX5_fold 72 = .ok (.aload_n 0, 1) := by decide +kernel
theorem dX5_fold_73 : decode cX5_fold 73 = .ok (.getfield 29, 3) := by decide +kernel
theorem dX5_fold_76 : decode cX5_fold 76 = .ok (.iload 5, 2) := by decide +kernel
theorem dX5_fold_78 : decode cX5_fold 78 = .ok (.iaload, 1) := by decide +kernel
theorem dX5_fold_79 : decode cX5_fold 79 = .ok (.goto 5, 3) := by decide +kernel
theorem dX5_fold_82 : decode cX5_fold 82 = .ok (.iload 4, 2) := by decide +kernel
theorem dX5_fold_84 : decode cX5_fold 84 = .ok (.istore 4, 2) := by decide +kernel
theorem dX5_fold_86 : decode cX5_fold 86 = .ok (.iinc 5 1, 3) := by decide +kernel
theorem dX5_fold_89 : decode cX5_fold 89 = .ok (.goto (-45), 3) := by decide +kernel
theorem dX5_fold_92 : decode cX5_fold 92 = .ok (.iconst 0, 1) := by decide +kernel
theorem dX5_fold_93 : decode cX5_fold 93 = .ok (.istore 5, 2) := by decide +kernel
theorem dX5_fold_95 : decode cX5_fold 95 = .ok (.iload 5, 2) := by decide +kernel
theorem dX5_fold_97 : decode cX5_fold 97 = .ok (.bipush 36, 2) := by decide +kernel
theorem dX5_fold_99 : decode cX5_fold 99 = .ok (.if_icmp .ge 154, 3) := by decide +kernel
theorem dX5_fold_102 : decode cX5_fold 102 = .ok (.aload_n 0, 1) := by decide +kernel
theorem dX5_fold_103 : decode cX5_fold 103 = .ok (.iload 5, 2) := by decide +kernel
theorem dX5_fold_105 : decode cX5_fold 105 = .ok (.invokevirtual 109, 3) := by decide +kernel
theorem dX5_fold_108 : decode cX5_fold 108 = .ok (.ifCond .eq 139, 3) := by decide +kernel
theorem dX5_fold_111 : decode cX5_fold 111 = .ok (.iload_n 2, 1) := by decide +kernel
theorem dX5_fold_112 : decode cX5_fold 112 = .ok (.ifCond .eq 13, 3) := by decide +kernel
theorem dX5_fold_115 : decode cX5_fold 115 = .ok (.aload_n 0, 1) := by decide +kernel
theorem dX5_fold_116 : decode cX5_fold 116 = .ok (.getfield 23, 3) := by decide +kernel
theorem dX5_fold_119 : decode cX5_fold 119 = .ok (.iload 5, 2) := by decide +kernel
theorem dX5_fold_121 : decode cX5_fold 121 = .ok (.iaload, 1) := by decide +kernel
theorem dX5_fold_122 : decode cX5_fold 122 = .ok (.goto 10, 3) := by decide +kernel
theorem dX5_fold_125 : decode cX5_fold 125 = .ok (.aload_n 0, 1) := by decide +kernel
theorem dX5_fold_126 : decode cX5_fold 126 = .ok (.getfield 26, 3) := by decide +kernel
theorem dX5_fold_129 : decode cX5_fold 129 = .ok (.iload 5, 2) := by decide +kernel
theorem dX5_fold_131 : decode cX5_fold 131 = .ok (.iaload, 1) := by decide +kernel
theorem dX5_fold_132 : decode cX5_fold 132 = .ok (.iload_n 1, 1) := by decide +kernel
theorem dX5_fold_133 : decode cX5_fold 133 = .ok (.if_icmp .ge 114, 3) := by decide +kernel
theorem dX5_fold_136 : decode cX5_fold 136 = .ok (.aload_n 0, 1) := by decide +kernel
theorem dX5_fold_137 : decode cX5_fold 137 = .ok (.getfield 23, 3) := by decide +kernel
theorem dX5_fold_140 : decode cX5_fold 140 = .ok (.iload 5, 2) := by decide +kernel
theorem dX5_fold_142 : decode cX5_fold 142 = .ok (.iload_n 2, 1) := by decide +kernel
theorem dX5_fold_143 : decode cX5_fold 143 = .ok (.ifCond .eq 19, 3) := by decide +kernel
theorem dX5_fold_146 : decode cX5_fold 146 = .ok (.iconst 2, 1) := by decide +kernel
theorem dX5_fold_147 : decode cX5_fold 147 = .ok (.iload_n 1, 1) := by decide +kernel
theorem dX5_fold_148 : decode cX5_fold 148 = .ok (.imul, 1) := by decide +kernel
theorem dX5_fold_149 : decode cX5_fold 149 = .ok (.iconst 1, 1) := by decide +kernel
theorem dX5_fold_150 : decode cX5_fold 150 = .ok (.isub, 1) := by decide +kernel
theorem dX5_fold_151 : decode cX5_fold 151 = .ok (.aload_n 0, 1) := by decide +kernel
theorem dX5_fold_152 : decode cX5_fold 152 = .ok (.getfield 23, 3) := by decide +kernel
theorem dX5_fold_155 : decode cX5_fold 155 = .ok (.iload 5, 2) := by decide +kernel
theorem dX5_fold_157 : decode cX5_fold 157 = .ok (.iaload, 1) := by decide +kernel
theorem dX5_fold_158 : decode cX5_fold 158 = .ok (.isub, 1) := by decide +kernel
theorem dX5_fold_159 : decode cX5_fold 159 = .ok (.goto 10, 3) := by decide +kernel
theorem dX5_fold_162 : decode cX5_fold 162 = .ok (.aload_n 0, 1) := by decide +kernel
theorem dX5_fold_163 : decode cX5_fold 163 = .ok (.getfield 23, 3) := by decide +kernel
theorem dX5_fold_166 : decode cX5_fold 166 = .ok (.iload 5, 2) := by decide +kernel
theorem dX5_fold_168 : decode cX5_fold 168 = .ok (.iaload, 1) := by decide +kernel
theorem dX5_fold_169 : decode cX5_fold 169 = .ok (.iastore, 1) := by decide +kernel
theorem dX5_fold_170 : decode cX5_fold 170 = .ok (.aload_n 0, 1) := by decide +kernel
theorem dX5_fold_171 : decode cX5_fold 171 = .ok (.getfield 26, 3) := by decide +kernel
theorem dX5_fold_174 : decode cX5_fold 174 = .ok (.iload 5, 2) := by decide +kernel
theorem dX5_fold_176 : decode cX5_fold 176 = .ok (.iload_n 2, 1) := by decide +kernel
theorem dX5_fold_177 : decode cX5_fold 177 = .ok (.ifCond .eq 13, 3) := by decide +kernel
theorem dX5_fold_180 : decode cX5_fold 180 = .ok (.aload_n 0, 1) := by decide +kernel
theorem dX5_fold_181 : decode cX5_fold 181 = .ok (.getfield 26, 3) := by decide +kernel
theorem dX5_fold_184 : decode cX5_fold 184 = .ok (.iload 5, 2) := by decide +kernel
theorem dX5_fold_186 : decode cX5_fold 186 = .ok (.iaload, 1) := by decide +kernel
theorem dX5_fold_187 : decode cX5_fold 187 = .ok (.goto 16, 3) := by decide +kernel
theorem dX5_fold_190 : decode cX5_fold 190 = .ok (.iconst 2, 1) := by decide +kernel
theorem dX5_fold_191 : decode cX5_fold 191 = .ok (.iload_n 1, 1) := by decide +kernel
theorem dX5_fold_192 : decode cX5_fold 192 = .ok (.imul, 1) := by decide +kernel
theorem dX5_fold_193 : decode cX5_fold 193 = .ok (.iconst 1, 1) := by decide +kernel
theorem dX5_fold_194 : decode cX5_fold 194 = .ok (.isub, 1) := by decide +kernel
theorem dX5_fold_195 : decode cX5_fold 195 = .ok (.aload_n 0, 1) := by decide +kernel
theorem dX5_fold_196 : decode cX5_fold 196 = .ok (.getfield 26, 3) := by decide +kernel
theorem dX5_fold_199 : decode cX5_fold 199 = .ok (.iload 5, 2) := by decide +kernel
theorem dX5_fold_201 : decode cX5_fold 201 = .ok (.iaload, 1) := by decide +kernel
theorem dX5_fold_202 : decode cX5_fold 202 = .ok (.isub, 1) := by decide +kernel
theorem dX5_fold_203 : decode cX5_fold 203 = .ok (.iastore, 1) := by decide +kernel
theorem dX5_fold_204 : decode cX5_fold 204 = .ok (.aload_n 0, 1) := by decide +kernel
theorem dX5_fold_205 : decode cX5_fold 205 = .ok (.getfield 29, 3) := by decide +kernel
theorem dX5_fold_208 : decode cX5_fold 208 = .ok (.iload 5, 2) := by decide +kernel
theorem dX5_fold_210 : decode cX5_fold 210 = .ok (.iconst 2, 1) := by decide +kernel
theorem dX5_fold_211 : decode cX5_fold 211 = .ok (.iload 4, 2) := by decide +kernel
theorem dX5_fold_213 : decode cX5_fold 213 = .ok (.imul, 1) := by decide +kernel
theorem dX5_fold_214 : decode cX5_fold 214 = .ok (.iconst 1, 1) := by decide +kernel
theorem dX5_fold_215 : decode cX5_fold 215 = .ok (.iadd, 1) := by decide +kernel
theorem dX5_fold_216 : decode cX5_fold 216 = .ok (.aload_n 0, 1) := by decide +kernel
theorem dX5_fold_217 : decode cX5_fold 217 = .ok (.getfield 29, 3) := by decide +kernel
theorem dX5_fold_220 : decode cX5_fold 220 = .ok (.iload 5, 2) := by decide +kernel
theorem dX5_fold_222 : decode cX5_fold 222 = .ok (.iaload, 1) := by decide +kernel
theorem dX5_fold_223 : decode cX5_fold 223 = .ok (.isub, 1) := by decide +kernel
theorem dX5_fold_224 : decode cX5_fold 224 = .ok (.iastore, 1) := by decide +kernel
theorem dX5_fold_225 : decode cX5_fold 225 = .ok (.aload_n 0, 1) := by decide +kernel
theorem dX5_fold_226 : decode cX5_fold 226 = .ok (.getfield 32, 3) := by decide +kernel
theorem dX5_fold_229 : decode cX5_fold 229 = .ok (.iload 5, 2) := by decide +kernel
theorem dX5_fold_231 : decode cX5_fold 231 = .ok (.aload_n 0, 1) := by decide +kernel
theorem dX5_fold_232 : decode cX5_fold 232 = .ok (.getfield 32, 3) := by decide +kernel
theorem dX5_fold_235 : decode cX5_fold 235 = .ok (.iload 5, 2) := by decide +kernel
theorem dX5_fold_237 : decode cX5_fold 237 = .ok (.baload, 1) := by decide +kernel
theorem dX5_fold_238 : decode cX5_fold 238 = .ok (.ifCond .ne 7, 3) := by decide +kernel
theorem dX5_fold_241 : decode cX5_fold 241 = .ok (.iconst 1, 1) := by decide +kernel
theorem dX5_fold_242 : decode cX5_fold 242 = .ok (.goto 4, 3) := by decide +kernel
theorem dX5_fold_245 : decode cX5_fold 245 = .ok (.iconst 0, 1) := by decide +kernel
theorem dX5_fold_246 : decode cX5_fold 246 = .ok (.bastore, 1) := by decide +kernel
theorem dX5_fold_247 : decode cX5_fold 247 = .ok (.iinc 5 1, 3) := by decide +kernel
theorem dX5_fold_250 : decode cX5_fold 250 = .ok (.goto (-155), 3) := by decide +kernel
theorem dX5_fold_253 : decode cX5_fold 253 = .ok (.aload_n 0, 1) := by decide +kernel
theorem dX5_fold_254 : decode cX5_fold 254 = .ok (.dup, 1) := by decide +kernel
theorem dX5_fold_255 : decode cX5_fold 255 = .ok (.getfield 106, 3) := by decide +kernel
theorem dX5_fold_258 : decode cX5_fold 258 = .ok (.iconst 1, 1) := by decide +kernel
theorem dX5_fold_259 : decode cX5_fold 259 = .ok (.iadd, 1) := by decide +kernel
theorem dX5_fold_260 : decode cX5_fold 260 = .ok (.putfield 106, 3) := by decide +kernel
theorem dX5_fold_263 : decode cX5_fold 263 = .ok (.iload_n 3, 1) := by decide +kernel
theorem dX5_fold_264 : decode cX5_fold 264 = .ok (.ireturn, 1) := by decide +kernel
theorem dX5_foldColumns_0 : decode cX5_foldColumns 0 = .ok (.aload_n 0, 1) := by decide +kernel
theorem dX5_foldColumns_1 : decode cX5_foldColumns 1 = .ok (.iload_n 1, 1) := by decide +kernel
theorem dX5_foldColumns_2 : decode cX5_foldColumns 2 = .ok (.iconst 1, 1) := by decide +kernel
theorem dX5_foldColumns_3 : decode cX5_foldColumns 3 = .ok (.invokevirtual 116, 3) := by decide +kernel
theorem dX5_foldColumns_6 : decode cX5_foldColumns 6 = .ok (.ireturn, 1) := by decide +kernel
theorem dX5_foldRows_0 : decode cX5_foldRows 0 = .ok (.aload_n 0, 1) := by decide +kernel
theorem dX5_foldRows_1 : decode cX5_foldRows 1 = .ok (.iload_n 1, 1) := by decide +kernel
theorem dX5_foldRows_2 : decode cX5_foldRows 2 = .ok (.iconst 0, 1) := by decide +kernel
theorem dX5_foldRows_3 : decode cX5_foldRows 3 = .ok (.invokevirtual 116, 3) := by decide +kernel
theorem dX5_foldRows_6 : decode cX5_foldRows 6 = .ok (.ireturn, 1) := by decide +kernel
theorem dX5_unfold_0 : decode cX5_unfold 0 = .ok (.aload_n 0, 1) := by decide +kernel
theorem dX5_unfold_1 : decode cX5_unfold 1 = .ok (.iconst 0, 1) := by decide +kernel
theorem dX5_unfold_2 : decode cX5_unfold 2 = .ok (.putfield 45, 3) := by decide +kernel
theorem dX5_unfold_5 : decode cX5_unfold 5 = .ok (.aload_n 0, 1) := by decide +kernel
theorem dX5_unfold_6 : decode cX5_unfold 6 = .ok (.getfield 106, 3) := by decide +kernel
theorem dX5_unfold_9 : decode cX5_unfold 9 = .ok (.istore_n 1, 1) := by decide +kernel
theorem dX5_unfold_10 : decode cX5_unfold 10 = .ok (.aload_n 0, 1) := by decide +kernel
theorem dX5_unfold_11 : decode cX5_unfold 11 = .ok (.invokevirtual 42, 3) := by decide +kernel
theorem dX5_unfold_14 : decode cX5_unfold 14 = .ok (.iload_n 1, 1) := by decide +kernel
theorem dX5_unfold_15 : decode cX5_unfold 15 = .ok (.ireturn, 1) := by decide +kernel
theorem dX5_panel_0 : decode cX5_panel 0 = .ok (.aload_n 0, 1) := by decide +kernel
theorem dX5_panel_1 : decode cX5_panel 1 = .ok (.iload_n 1, 1) := by decide +kernel
theorem dX5_panel_2 : decode cX5_panel 2 = .ok (.invokestatic 52, 3) := by decide +kernel
theorem dX5_panel_5 : decode cX5_panel 5 = .ok (.ifCond .eq 14, 3) := by decide +kernel
theorem dX5_panel_8 : decode cX5_panel 8 = .ok (.iload_n 2, 1) := by decide +kernel
theorem dX5_panel_9 : decode cX5_panel 9 = .ok (.invokestatic 56, 3) := by decide +kernel
theorem dX5_panel_12 : decode cX5_panel 12 = .ok (.ifCond .eq 7, 3) := by decide +kernel
theorem dX5_panel_15 : decode cX5_panel 15 = .ok (.iconst 1, 1) := by decide +kernel
theorem dX5_panel_16 : decode cX5_panel 16 = .ok (.goto 4, 3) := by decide +kernel
theorem dX5_panel_19 : decode cX5_panel 19 = .ok (.iconst 0, 1) := by decide +kernel
theorem dX5_panel_20 : decode cX5_panel 20 = .ok (.invokevirtual 59, 3) := by decide +kernel
theorem dX5_panel_23 : decode cX5_panel 23 = .ok (.ifCond .ne 5, 3) := by decide +kernel
theorem dX5_panel_26 : decode cX5_panel 26 = .ok (.iconst 0, 1) := by decide +kernel
theorem dX5_panel_27 : decode cX5_panel 27 = .ok (.ireturn, 1) := by decide +kernel
theorem dX5_panel_28 : decode cX5_panel 28 = .ok (.bipush 90, 2) := by decide +kernel
theorem dX5_panel_30 : decode cX5_panel 30 = .ok (.iload_n 1, 1) := by decide +kernel
theorem dX5_panel_31 : decode cX5_panel 31 = .ok (.isub, 1) := by decide +kernel
theorem dX5_panel_32 : decode cX5_panel 32 = .ok (.aload_n 0, 1) := by decide +kernel
theorem dX5_panel_33 : decode cX5_panel 33 = .ok (.getfield 39, 3) := by decide +kernel
theorem dX5_panel_36 : decode cX5_panel 36 = .ok (.imul, 1) := by decide +kernel
theorem dX5_panel_37 : decode cX5_panel 37 = .ok (.sipush 180, 3) := by decide +kernel
theorem dX5_panel_40 : decode cX5_panel 40 = .ok (.idiv, 1) := by decide +kernel
theorem dX5_panel_41 : decode cX5_panel 41 = .ok (.istore_n 3, 1) := by decide +kernel
theorem dX5_panel_42 : decode cX5_panel 42 = .ok (.bipush 10, 2) := by decide +kernel
theorem dX5_panel_44 : decode cX5_panel 44 = .ok (.iload_n 2, 1) := by decide +kernel
theorem dX5_panel_45 : decode cX5_panel 45 = .ok (.sipush 180, 3) := by decide +kernel
theorem dX5_panel_48 : decode cX5_panel 48 = .ok (.iadd, 1) := by decide +kernel
theorem dX5_panel_49 : decode cX5_panel 49 = .ok (.aload_n 0, 1) := by decide +kernel
theorem dX5_panel_50 : decode cX5_panel 50 = .ok (.getfield 36, 3) := by decide +kernel
theorem dX5_panel_53 : decode cX5_panel 53 = .ok (.imul, 1) := by decide +kernel
theorem dX5_panel_54 : decode cX5_panel 54 = .ok (.sipush 360, 3) := by decide +kernel
theorem dX5_panel_57 : decode cX5_panel 57 = .ok (.idiv, 1) := by decide +kernel
theorem dX5_panel_58 : decode cX5_panel 58 = .ok (.imul, 1) := by decide +kernel
theorem dX5_panel_59 : decode cX5_panel 59 = .ok (.iload_n 3, 1) := by decide +kernel
theorem dX5_panel_60 : decode cX5_panel 60 = .ok (.aload_n 0, 1) := by decide +kernel
theorem dX5_panel_61 : decode cX5_panel 61 = .ok (.getfield 39, 3) := by decide +kernel
theorem dX5_panel_64 : decode cX5_panel 64 = .ok (.if_icmp .ge 7, 3) := by decide +kernel
theorem dX5_panel_67 : decode cX5_panel 67 = .ok (.iload_n 3, 1) := by decide +kernel
theorem dX5_panel_68 : decode cX5_panel 68 = .ok (.goto 9, 3) := by decide +kernel
theorem dX5_panel_71 : decode cX5_panel 71 = .ok (.aload_n 0, 1) := by decide +kernel
theorem dX5_panel_72 : decode cX5_panel 72 = .ok (.getfield 39, 3) := by decide +kernel
theorem dX5_panel_75 : decode cX5_panel 75 = .ok (.iconst 1, 1) := by decide +kernel
theorem dX5_panel_76 : decode cX5_panel 76 = .ok (.isub, 1) := by decide +kernel
theorem dX5_panel_77 : decode cX5_panel 77 = .ok (.iadd, 1) := by decide +kernel
theorem dX5_panel_78 : decode cX5_panel 78 = .ok (.ireturn, 1) := by decide +kernel
theorem dX5_has_0 : decode cX5_has 0 = .ok (.aload_n 0, 1) := by decide +kernel
theorem dX5_has_1 : decode cX5_has 1 = .ok (.iload_n 1, 1) := by decide +kernel
theorem dX5_has_2 : decode cX5_has 2 = .ok (.ifCond .lt 27, 3) := by decide +kernel
theorem dX5_has_5 : decode cX5_has 5 = .ok (.iload_n 1, 1) := by decide +kernel
theorem dX5_has_6 : decode cX5_has 6 = .ok (.aload_n 0, 1) := by decide +kernel
theorem dX5_has_7 : decode cX5_has 7 = .ok (.getfield 36, 3) := by decide +kernel
theorem dX5_has_10 : decode cX5_has 10 = .ok (.if_icmp .ge 19, 3) := by decide +kernel
theorem dX5_has_13 : decode cX5_has 13 = .ok (.iload_n 2, 1) := by decide +kernel
theorem dX5_has_14 : decode cX5_has 14 = .ok (.ifCond .lt 15, 3) := by decide +kernel
theorem dX5_has_17 : decode cX5_has 17 = .ok (.iload_n 2, 1) := by decide +kernel
theorem dX5_has_18 : decode cX5_has 18 = .ok (.aload_n 0, 1) := by decide +kernel
theorem dX5_has_19 : decode cX5_has 19 = .ok (.getfield 39, 3) := by decide +kernel
theorem dX5_has_22 : decode cX5_has 22 = .ok (.if_icmp .ge 7, 3) := by decide +kernel
theorem dX5_has_25 : decode cX5_has 25 = .ok (.iconst 1, 1) := by decide +kernel
theorem dX5_has_26 : decode cX5_has 26 = .ok (.goto 4, 3) := by decide +kernel
theorem dX5_has_29 : decode cX5_has 29 = .ok (.iconst 0, 1) := by decide +kernel
theorem dX5_has_30 : decode cX5_has 30 = .ok (.invokevirtual 59, 3) := by decide +kernel
theorem dX5_has_33 : decode cX5_has 33 = .ok (.ireturn, 1) := by decide +kernel
theorem dX5_placeX_0 : decode cX5_placeX 0 = .ok (.aload_n 0, 1) := by decide +kernel
theorem dX5_placeX_1 : decode cX5_placeX 1 = .ok (.iload_n 1, 1) := by decide +kernel
theorem dX5_placeX_2 : decode cX5_placeX 2 = .ok (.iload_n 2, 1) := by decide +kernel
theorem dX5_placeX_3 : decode cX5_placeX 3 = .ok (.invokevirtual 119, 3) := by decide +kernel
theorem dX5_placeX_6 : decode cX5_placeX 6 = .ok (.ifCond .eq 17, 3) := by decide +kernel
theorem dX5_placeX_9 : decode cX5_placeX 9 = .ok (.aload_n 0, 1) := by decide +kernel
theorem dX5_placeX_10 : decode cX5_placeX 10 = .ok (.getfield 23, 3) := by decide +kernel
theorem dX5_placeX_13 : decode cX5_placeX 13 = .ok (.bipush 6, 2) := by decide +kernel
theorem dX5_placeX_15 : decode cX5_placeX 15 = .ok (.iload_n 1, 1) := by decide +kernel
theorem dX5_placeX_16 : decode cX5_placeX 16 = .ok (.imul, 1) := by decide +kernel
theorem dX5_placeX_17 : decode cX5_placeX 17 = .ok (.iload_n 2, 1) := by decide +kernel
theorem dX5_placeX_18 : decode cX5_placeX 18 = .ok (.iadd, 1) := by decide +kernel
theorem dX5_placeX_19 : decode cX5_placeX 19 = .ok (.iaload, 1) := by decide +kernel
theorem dX5_placeX_20 : decode cX5_placeX 20 = .ok (.goto 4, 3) := by decide +kernel
theorem dX5_placeX_23 : decode cX5_placeX 23 = .ok (.iconst 0, 1) := by decide +kernel
theorem dX5_placeX_24 : decode cX5_placeX 24 = .ok (.ireturn, 1) := by decide +kernel
theorem dX5_placeY_0 : decode cX5_placeY 0 = .ok (.aload_n 0, 1) := by decide +kernel
theorem dX5_placeY_1 : decode cX5_placeY 1 = .ok (.iload_n 1, 1) := by decide +kernel
theorem dX5_placeY_2 : decode cX5_placeY 2 = .ok (.iload_n 2, 1) := by decide +kernel
theorem dX5_placeY_3 : decode cX5_placeY 3 = .ok (.invokevirtual 119, 3) := by decide +kernel
theorem dX5_placeY_6 : decode cX5_placeY 6 = .ok (.ifCond .eq 17, 3) := by decide +kernel
theorem dX5_placeY_9 : decode cX5_placeY 9 = .ok (.aload_n 0, 1) := by decide +kernel
theorem dX5_placeY_10 : decode cX5_placeY 10 = .ok (.getfield 26, 3) := by decide +kernel
theorem dX5_placeY_13 : decode cX5_placeY 13 = .ok (.bipush 6, 2) := by decide +kernel
theorem dX5_placeY_15 : decode cX5_placeY 15 = .ok (.iload_n 1, 1) := by decide +kernel
theorem dX5_placeY_16 : decode cX5_placeY 16 = .ok (.imul, 1) := by decide +kernel
theorem dX5_placeY_17 : decode cX5_placeY 17 = .ok (.iload_n 2, 1) := by decide +kernel
theorem dX5_placeY_18 : decode cX5_placeY 18 = .ok (.iadd, 1) := by decide +kernel
theorem dX5_placeY_19 : decode cX5_placeY 19 = .ok (.iaload, 1) := by decide +kernel
theorem dX5_placeY_20 : decode cX5_placeY 20 = .ok (.goto 4, 3) := by decide +kernel
theorem dX5_placeY_23 : decode cX5_placeY 23 = .ok (.iconst 0, 1) := by decide +kernel
theorem dX5_placeY_24 : decode cX5_placeY 24 = .ok (.ireturn, 1) := by decide +kernel
theorem dX5_stacked_0 : decode cX5_stacked 0 = .ok (.iconst 0, 1) := by decide +kernel
theorem dX5_stacked_1 : decode cX5_stacked 1 = .ok (.istore_n 3, 1) := by decide +kernel
theorem dX5_stacked_2 : decode cX5_stacked 2 = .ok (.iconst 0, 1) := by decide +kernel
theorem dX5_stacked_3 : decode cX5_stacked 3 = .ok (.istore 4, 2) := by decide +kernel
theorem dX5_stacked_5 : decode cX5_stacked 5 = .ok (.iload 4, 2) := by decide +kernel
theorem dX5_stacked_7 : decode cX5_stacked 7 = .ok (.bipush 36, 2) := by decide +kernel
theorem dX5_stacked_9 : decode cX5_stacked 9 = .ok (.if_icmp .ge 90, 3) := by decide +kernel
theorem dX5_stacked_12 : decode cX5_stacked 12 = .ok (.aload_n 0, 1) := by decide +kernel
theorem dX5_stacked_13 : decode cX5_stacked 13 = .ok (.iload 4, 2) := by decide +kernel
theorem dX5_stacked_15 : decode cX5_stacked 15 = .ok (.invokevirtual 109, 3) := by decide +kernel
theorem dX5_stacked_18 : decode cX5_stacked 18 = .ok (.ifCond .eq 39, 3) := by decide +kernel
theorem dX5_stacked_21 : decode cX5_stacked 21 = .ok (.aload_n 0, 1) := by decide +kernel
theorem dX5_stacked_22 : decode cX5_stacked 22 = .ok (.getfield 23, 3) := by decide +kernel
theorem dX5_stacked_25 : decode cX5_stacked 25 = .ok (.iload 4, 2) := by decide +kernel
theorem dX5_stacked_27 : decode cX5_stacked 27 = .ok (.iaload, 1) := by decide +kernel
theorem dX5_stacked_28 : decode cX5_stacked 28 = .ok (.aload_n 0, 1) := by decide +kernel
theorem dX5_stacked_29 : decode cX5_stacked 29 = .ok (.getfield 23, 3) := by decide +kernel
theorem dX5_stacked_32 : decode cX5_stacked 32 = .ok (.iload_n 1, 1) := by decide +kernel
theorem dX5_stacked_33 : decode cX5_stacked 33 = .ok (.iaload, 1) := by decide +kernel
theorem dX5_stacked_34 : decode cX5_stacked 34 = .ok (.if_icmp .ne 23, 3) := by decide +kernel
theorem dX5_stacked_37 : decode cX5_stacked 37 = .ok (.aload_n 0, 1) := by decide +kernel
theorem dX5_stacked_38 : decode cX5_stacked 38 = .ok (.getfield 26, 3) := by decide +kernel
theorem dX5_stacked_41 : decode cX5_stacked 41 = .ok (.iload 4, 2) := by decide +kernel
theorem dX5_stacked_43 : decode cX5_stacked 43 = .ok (.iaload, 1) := by decide +kernel
theorem dX5_stacked_44 : decode cX5_stacked 44 = .ok (.aload_n 0, 1) := by decide +kernel
theorem dX5_stacked_45 : decode cX5_stacked 45 = .ok (.getfield 26, 3) := by decide +kernel
theorem dX5_stacked_48 : decode cX5_stacked 48 = .ok (.iload_n 1, 1) := by decide +kernel
theorem dX5_stacked_49 : decode cX5_stacked 49 = .ok (.iaload, 1) := by decide +kernel
theorem dX5_stacked_50 : decode cX5_stacked 50 = .ok (.if_icmp .ne 7, 3) := by decide +kernel
theorem dX5_stacked_53 : decode cX5_stacked 53 = .ok (.iconst 1, 1) := by decide +kernel
theorem dX5_stacked_54 : decode cX5_stacked 54 = .ok (.goto 4, 3) := by decide +kernel
theorem dX5_stacked_57 : decode cX5_stacked 57 = .ok (.iconst 0, 1) := by decide +kernel
theorem dX5_stacked_58 : decode cX5_stacked 58 = .ok (.istore 5, 2) := by decide +kernel
theorem dX5_stacked_60 : decode cX5_stacked 60 = .ok (.iload_n 3, 1) := by decide +kernel
theorem dX5_stacked_61 : decode cX5_stacked 61 = .ok (.iload 5, 2) := by decide +kernel
theorem dX5_stacked_63 : decode cX5_stacked 63 = .ok (.ifCond .eq 27, 3) := by decide +kernel
theorem dX5_stacked_66 : decode cX5_stacked 66 = .ok (.iload_n 2, 1) := by decide +kernel
theorem dX5_stacked_67 : decode cX5_stacked 67 = .ok (.ifCond .ne 19, 3) := by decide +kernel
theorem dX5_stacked_70 : decode cX5_stacked 70 = .ok (.aload_n 0, 1) := by decide +kernel
theorem dX5_stacked_71 : decode cX5_stacked 71 = .ok (.getfield 29, 3) := by decide +kernel
theorem dX5_stacked_74 : decode cX5_stacked 74 = .ok (.iload 4, 2) := by decide +kernel
theorem dX5_stacked_76 : decode cX5_stacked 76 = .ok (.iaload, 1) := by decide +kernel
theorem dX5_stacked_77 : decode cX5_stacked 77 = .ok (.aload_n 0, 1) := by decide +kernel
theorem dX5_stacked_78 : decode cX5_stacked 78 = .ok (.getfield 29, 3) := by decide +kernel
theorem dX5_stacked_81 : decode cX5_stacked 81 = .ok (.iload_n 1, 1) := by decide +kernel
theorem dX5_stacked_82 : decode cX5_stacked 82 = .ok (.iaload, 1) := by decide +kernel
theorem dX5_stacked_83 : decode cX5_stacked 83 = .ok (.if_icmp .le 7, 3) := by decide +kernel
theorem dX5_stacked_86 : decode cX5_stacked 86 = .ok (.iconst 1, 1) := by decide +kernel
theorem dX5_stacked_87 : decode cX5_stacked 87 = .ok (.goto 4, 3) := by decide +kernel
theorem dX5_stacked_90 : decode cX5_stacked 90 = .ok (.iconst 0, 1) := by decide +kernel
theorem dX5_stacked_91 : decode cX5_stacked 91 = .ok (.iadd, 1) := by decide +kernel
theorem dX5_stacked_92 : decode cX5_stacked 92 = .ok (.istore_n 3, 1) := by decide +kernel
theorem dX5_stacked_93 : decode cX5_stacked 93 = .ok (.iinc 4 1, 3) := by decide +kernel
theorem dX5_stacked_96 : decode cX5_stacked 96 = .ok (.goto (-91), 3) := by decide +kernel
theorem dX5_stacked_99 : decode cX5_stacked 99 = .ok (.iload_n 3, 1) := by decide +kernel
theorem dX5_stacked_100 : decode cX5_stacked 100 = .ok (.ireturn, 1) := by decide +kernel
theorem dX5_above_0 : decode cX5_above 0 = .ok (.aload_n 0, 1) := by decide +kernel
theorem dX5_above_1 : decode cX5_above 1 = .ok (.iload_n 1, 1) := by decide +kernel
theorem dX5_above_2 : decode cX5_above 2 = .ok (.iload_n 2, 1) := by decide +kernel
theorem dX5_above_3 : decode cX5_above 3 = .ok (.invokevirtual 119, 3) := by decide +kernel
theorem dX5_above_6 : decode cX5_above 6 = .ok (.ifCond .eq 17, 3) := by decide +kernel
theorem dX5_above_9 : decode cX5_above 9 = .ok (.aload_n 0, 1) := by decide +kernel
theorem dX5_above_10 : decode cX5_above 10 = .ok (.bipush 6, 2) := by decide +kernel
theorem dX5_above_12 : decode cX5_above 12 = .ok (.iload_n 1, 1) := by decide +kernel
theorem dX5_above_13 : decode cX5_above 13 = .ok (.imul, 1) := by decide +kernel
theorem dX5_above_14 : decode cX5_above 14 = .ok (.iload_n 2, 1) := by decide +kernel
theorem dX5_above_15 : decode cX5_above 15 = .ok (.iadd, 1) := by decide +kernel
theorem dX5_above_16 : decode cX5_above 16 = .ok (.iconst 0, 1) := by decide +kernel
theorem dX5_above_17 : decode cX5_above 17 = .ok (.invokevirtual 123, 3) := by decide +kernel
theorem dX5_above_20 : decode cX5_above 20 = .ok (.goto 4, 3) := by decide +kernel
theorem dX5_above_23 : decode cX5_above 23 = .ok (.iconst 0, 1) := by decide +kernel
theorem dX5_above_24 : decode cX5_above 24 = .ok (.ireturn, 1) := by decide +kernel
theorem dX5_isUp_0 : decode cX5_isUp 0 = .ok (.aload_n 0, 1) := by decide +kernel
theorem dX5_isUp_1 : decode cX5_isUp 1 = .ok (.iload_n 1, 1) := by decide +kernel
theorem dX5_isUp_2 : decode cX5_isUp 2 = .ok (.iload_n 2, 1) := by decide +kernel
theorem dX5_isUp_3 : decode cX5_isUp 3 = .ok (.invokevirtual 119, 3) := by decide +kernel
theorem dX5_isUp_6 : decode cX5_isUp 6 = .ok (.ifCond .eq 21, 3) := by decide +kernel
theorem dX5_isUp_9 : decode cX5_isUp 9 = .ok (.aload_n 0, 1) := by decide +kernel
theorem dX5_isUp_10 : decode cX5_isUp 10 = .ok (.getfield 32, 3) := by decide +kernel
theorem dX5_isUp_13 : decode cX5_isUp 13 = .ok (.bipush 6, 2) := by decide +kernel
theorem dX5_isUp_15 : decode cX5_isUp 15 = .ok (.iload_n 1, 1) := by decide +kernel
theorem dX5_isUp_16 : decode cX5_isUp 16 = .ok (.imul, 1) := by decide +kernel
theorem dX5_isUp_17 : decode cX5_isUp 17 = .ok (.iload_n 2, 1) := by decide +kernel
theorem dX5_isUp_18 : decode cX5_isUp 18 = .ok (.iadd, 1) := by decide +kernel
theorem dX5_isUp_19 : decode cX5_isUp 19 = .ok (.baload, 1) := by decide +kernel
theorem dX5_isUp_20 : decode cX5_isUp 20 = .ok (.ifCond .eq 7, 3) := by decide +kernel
theorem dX5_isUp_23 : decode cX5_isUp 23 = .ok (.iconst 1, 1) := by decide +kernel
theorem dX5_isUp_24 : decode cX5_isUp 24 = .ok (.goto 4, 3) := by decide +kernel
theorem dX5_isUp_27 : decode cX5_isUp 27 = .ok (.iconst 0, 1) := by decide +kernel
theorem dX5_isUp_28 : decode cX5_isUp 28 = .ok (.ireturn, 1) := by decide +kernel
theorem dX5_thickness_0 : decode cX5_thickness 0 = .ok (.aload_n 0, 1) := by decide +kernel
theorem dX5_thickness_1 : decode cX5_thickness 1 = .ok (.iconst 0, 1) := by decide +kernel
theorem dX5_thickness_2 : decode cX5_thickness 2 = .ok (.putfield 45, 3) := by decide +kernel
theorem dX5_thickness_5 : decode cX5_thickness 5 = .ok (.iconst 0, 1) := by decide +kernel
theorem dX5_thickness_6 : decode cX5_thickness 6 = .ok (.istore_n 1, 1) := by decide +kernel
theorem dX5_thickness_7 : decode cX5_thickness 7 = .ok (.iconst 0, 1) := by decide +kernel
theorem dX5_thickness_8 : decode cX5_thickness 8 = .ok (.istore_n 2, 1) := by decide +kernel
theorem dX5_thickness_9 : decode cX5_thickness 9 = .ok (.iload_n 2, 1) := by decide +kernel
theorem dX5_thickness_10 : decode cX5_thickness 10 = .ok (.bipush 36, 2) := by decide +kernel
theorem dX5_thickness_12 : decode cX5_thickness 12 = .ok (.if_icmp .ge 39, 3) := by decide +kernel
theorem dX5_thickness_15 : decode cX5_thickness 15 = .ok (.aload_n 0, 1) := by decide +kernel
theorem dX5_thickness_16 : decode cX5_thickness 16 = .ok (.iload_n 2, 1) := by decide +kernel
theorem dX5_thickness_17 : decode cX5_thickness 17 = .ok (.invokevirtual 109, 3) := by decide +kernel
theorem dX5_thickness_20 : decode cX5_thickness 20 = .ok (.ifCond .eq 12, 3) := by decide +kernel
theorem dX5_thickness_23 : decode cX5_thickness 23 = .ok (.aload_n 0, 1) := by decide +kernel
theorem dX5_thickness_24 : decode cX5_thickness 24 = .ok (.iload_n 2, 1) := by decide +kernel
theorem dX5_thickness_25 : decode cX5_thickness 25 = .ok (.iconst 1, 1) := by decide +kernel
theorem dX5_thickness_26 : decode cX5_thickness 26 = .ok (.invokevirtual 123, 3) := by decide +kernel
theorem dX5_thickness_29 : decode cX5_thickness 29 = .ok (.goto 4, 3) := by decide +kernel
theorem dX5_thickness_32 : decode cX5_thickness 32 = .ok (.iconst 0, 1) := by decide +kernel
theorem dX5_thickness_33 : decode cX5_thickness 33 = .ok (.istore_n 3, 1) := by decide +kernel
theorem dX5_thickness_34 : decode cX5_thickness 34 = .ok (.iload_n 3, 1) := by decide +kernel
theorem dX5_thickness_35 : decode cX5_thickness 35 = .ok (.iload_n 1, 1) := by decide +kernel
theorem dX5_thickness_36 : decode cX5_thickness 36 = .ok (.if_icmp .le 7, 3) := by decide +kernel
theorem dX5_thickness_39 : decode cX5_thickness 39 = .ok (.iload_n 3, 1) := by decide +kernel
theorem dX5_thickness_40 : decode cX5_thickness 40 = .ok (.goto 4, 3) := by decide +kernel
theorem dX5_thickness_43 : decode cX5_thickness 43 = .ok (.iload_n 1, 1) := by decide +kernel
theorem dX5_thickness_44 : decode cX5_thickness 44 = .ok (.istore_n 1, 1) := by decide +kernel
theorem dX5_thickness_45 : decode cX5_thickness 45 = .ok (.iinc 2 1, 3) := by decide +kernel
theorem dX5_thickness_48 : decode cX5_thickness 48 = .ok (.goto (-39), 3) := by decide +kernel
theorem dX5_thickness_51 : decode cX5_thickness 51 = .ok (.iload_n 1, 1) := by decide +kernel
theorem dX5_thickness_52 : decode cX5_thickness 52 = .ok (.ireturn, 1) := by decide +kernel
theorem dX5_readable_0 : decode cX5_readable 0 = .ok (.aload_n 0, 1) := by decide +kernel
theorem dX5_readable_1 : decode cX5_readable 1 = .ok (.iconst 0, 1) := by decide +kernel
theorem dX5_readable_2 : decode cX5_readable 2 = .ok (.putfield 45, 3) := by decide +kernel
theorem dX5_readable_5 : decode cX5_readable 5 = .ok (.iconst 0, 1) := by decide +kernel
theorem dX5_readable_6 : decode cX5_readable 6 = .ok (.istore_n 1, 1) := by decide +kernel
theorem dX5_readable_7 : decode cX5_readable 7 = .ok (.iconst 0, 1) := by decide +kernel
theorem dX5_readable_8 : decode cX5_readable 8 = .ok (.istore_n 2, 1) := by decide +kernel
theorem dX5_readable_9 : decode cX5_readable 9 = .ok (.iload_n 2, 1) := by decide +kernel
theorem dX5_readable_10 : decode cX5_readable 10 = .ok (.bipush 36, 2) := by decide +kernel
theorem dX5_readable_12 : decode cX5_readable 12 = .ok (.if_icmp .ge 43, 3) := by decide +kernel
theorem dX5_readable_15 : decode cX5_readable 15 = .ok (.iload_n 1, 1) := by decide +kernel
theorem dX5_readable_16 : decode cX5_readable 16 = .ok (.aload_n 0, 1) := by decide +kernel
theorem dX5_readable_17 : decode cX5_readable 17 = .ok (.iload_n 2, 1) := by decide +kernel
theorem dX5_readable_18 : decode cX5_readable 18 = .ok (.invokevirtual 109, 3) := by decide +kernel
theorem dX5_readable_21 : decode cX5_readable 21 = .ok (.ifCond .eq 25, 3) := by decide +kernel
theorem dX5_readable_24 : decode cX5_readable 24 = .ok (.aload_n 0, 1) := by decide +kernel
theorem dX5_readable_25 : decode cX5_readable 25 = .ok (.getfield 32, 3) := by decide +kernel
theorem dX5_readable_28 : decode cX5_readable 28 = .ok (.iload_n 2, 1) := by decide +kernel
theorem dX5_readable_29 : decode cX5_readable 29 = .ok (.baload, 1) := by decide +kernel
theorem dX5_readable_30 : decode cX5_readable 30 = .ok (.ifCond .eq 16, 3) := by decide +kernel
theorem dX5_readable_33 : decode cX5_readable 33 = .ok (.aload_n 0, 1) := by decide +kernel
theorem dX5_readable_34 : decode cX5_readable 34 = .ok (.iload_n 2, 1) := by decide +kernel
theorem dX5_readable_35 : decode cX5_readable 35 = .ok (.iconst 0, 1) := by decide +kernel
theorem dX5_readable_36 : decode cX5_readable 36 = .ok (.invokevirtual 123, 3) := by decide +kernel
theorem dX5_readable_39 : decode cX5_readable 39 = .ok (.ifCond .ne 7, 3) := by decide +kernel
theorem dX5_readable_42 : decode cX5_readable 42 = .ok (.iconst 1, 1) := by decide +kernel
theorem dX5_readable_43 : decode cX5_readable 43 = .ok (.goto 4, 3) := by decide +kernel
theorem dX5_readable_46 : decode cX5_readable 46 = .ok (.iconst 0, 1) := by decide +kernel
theorem dX5_readable_47 : decode cX5_readable 47 = .ok (.iadd, 1) := by decide +kernel
theorem dX5_readable_48 : decode cX5_readable 48 = .ok (.istore_n 1, 1) := by decide +kernel
theorem dX5_readable_49 : decode cX5_readable 49 = .ok (.iinc 2 1, 3) := by decide +kernel
theorem dX5_readable_52 : decode cX5_readable 52 = .ok (.goto (-43), 3) := by decide +kernel
theorem dX5_readable_55 : decode cX5_readable 55 = .ok (.iload_n 1, 1) := by decide +kernel
theorem dX5_readable_56 : decode cX5_readable 56 = .ok (.ireturn, 1) := by decide +kernel
theorem dJ13_compare_74951_0 : decode cJ13_compare_74951 0 = .ok (.lload_n 0, 1) := by decide +kernel
theorem dJ13_compare_74951_1 : decode cJ13_compare_74951 1 = .ok (.lload_n 2, 1) := by decide +kernel
theorem dJ13_compare_74951_2 : decode cJ13_compare_74951 2 = .ok (.lcmp, 1) := by decide +kernel
theorem dJ13_compare_74951_3 : decode cJ13_compare_74951 3 = .ok (.ifCond .ge 7, 3) := by decide +kernel
theorem dJ13_compare_74951_6 : decode cJ13_compare_74951 6 = .ok (.iconst (-1), 1) := by decide +kernel
theorem dJ13_compare_74951_7 : decode cJ13_compare_74951 7 = .ok (.goto 14, 3) := by decide +kernel
theorem dJ13_compare_74951_10 : decode cJ13_compare_74951 10 = .ok (.lload_n 0, 1) := by decide +kernel
theorem dJ13_compare_74951_11 : decode cJ13_compare_74951 11 = .ok (.lload_n 2, 1) := by decide +kernel
theorem dJ13_compare_74951_12 : decode cJ13_compare_74951 12 = .ok (.lcmp, 1) := by decide +kernel
theorem dJ13_compare_74951_13 : decode cJ13_compare_74951 13 = .ok (.ifCond .ne 7, 3) := by decide +kernel
theorem dJ13_compare_74951_16 : decode cJ13_compare_74951 16 = .ok (.iconst 0, 1) := by decide +kernel
theorem dJ13_compare_74951_17 : decode cJ13_compare_74951 17 = .ok (.goto 4, 3) := by decide +kernel
theorem dJ13_compare_74951_20 : decode cJ13_compare_74951 20 = .ok (.iconst 1, 1) := by decide +kernel
theorem dJ13_compare_74951_21 : decode cJ13_compare_74951 21 = .ok (.ireturn, 1) := by decide +kernel
theorem dJ9_abs_0f7a4_0 : decode cJ9_abs_0f7a4 0 = .ok (.iload_n 0, 1) := by decide +kernel
theorem dJ9_abs_0f7a4_1 : decode cJ9_abs_0f7a4 1 = .ok (.ifCond .ge 8, 3) := by decide +kernel
theorem dJ9_abs_0f7a4_4 : decode cJ9_abs_0f7a4 4 = .ok (.iload_n 0, 1) := by decide +kernel
theorem dJ9_abs_0f7a4_5 : decode cJ9_abs_0f7a4 5 = .ok (.ineg, 1) := by decide +kernel
theorem dJ9_abs_0f7a4_6 : decode cJ9_abs_0f7a4 6 = .ok (.goto 4, 3) := by decide +kernel
theorem dJ9_abs_0f7a4_9 : decode cJ9_abs_0f7a4 9 = .ok (.iload_n 0, 1) := by decide +kernel
theorem dJ9_abs_0f7a4_10 : decode cJ9_abs_0f7a4 10 = .ok (.ireturn, 1) := by decide +kernel
theorem dJ9_max_7cf53_0 : decode cJ9_max_7cf53 0 = .ok (.iload_n 0, 1) := by decide +kernel
theorem dJ9_max_7cf53_1 : decode cJ9_max_7cf53 1 = .ok (.iload_n 1, 1) := by decide +kernel
theorem dJ9_max_7cf53_2 : decode cJ9_max_7cf53 2 = .ok (.if_icmp .lt 7, 3) := by decide +kernel
theorem dJ9_max_7cf53_5 : decode cJ9_max_7cf53 5 = .ok (.iload_n 0, 1) := by decide +kernel
theorem dJ9_max_7cf53_6 : decode cJ9_max_7cf53 6 = .ok (.goto 4, 3) := by decide +kernel
theorem dJ9_max_7cf53_9 : decode cJ9_max_7cf53 9 = .ok (.iload_n 1, 1) := by decide +kernel
theorem dJ9_max_7cf53_10 : decode cJ9_max_7cf53 10 = .ok (.ireturn, 1) := by decide +kernel
theorem dJ9_min_7cf53_0 : decode cJ9_min_7cf53 0 = .ok (.iload_n 0, 1) := by decide +kernel
theorem dJ9_min_7cf53_1 : decode cJ9_min_7cf53 1 = .ok (.iload_n 1, 1) := by decide +kernel
theorem dJ9_min_7cf53_2 : decode cJ9_min_7cf53 2 = .ok (.if_icmp .gt 7, 3) := by decide +kernel
theorem dJ9_min_7cf53_5 : decode cJ9_min_7cf53 5 = .ok (.iload_n 0, 1) := by decide +kernel
theorem dJ9_min_7cf53_6 : decode cJ9_min_7cf53 6 = .ok (.goto 4, 3) := by decide +kernel
theorem dJ9_min_7cf53_9 : decode cJ9_min_7cf53 9 = .ok (.iload_n 1, 1) := by decide +kernel
theorem dJ9_min_7cf53_10 : decode cJ9_min_7cf53 10 = .ok (.ireturn, 1) := by decide +kernel
theorem dL_table_0 : decode cL_table 0 = .ok (.aload_n 0, 1) := by decide +kernel
theorem dL_table_1 : decode cL_table 1 = .ok (.iload_n 1, 1) := by decide +kernel
theorem dL_table_2 : decode cL_table 2 = .ok (.iload_n 2, 1) := by decide +kernel
theorem dL_table_3 : decode cL_table 3 = .ok (.iload_n 3, 1) := by decide +kernel
theorem dL_table_4 : decode cL_table 4 = .ok (.invokevirtual 7, 3) := by decide +kernel
theorem dL_table_7 : decode cL_table 7 = .ok (.goto 15, 3) := by decide +kernel
theorem dL_table_10 : decode cL_table 10 = .ok (.astore 4, 2) := by decide +kernel
theorem dL_table_12 : decode cL_table 12 = .ok (.iconst 1, 1) := by decide +kernel
theorem dL_table_13 : decode cL_table 13 = .ok (.ireturn, 1) := by decide +kernel
theorem dL_table_14 : decode cL_table 14 = .ok (.astore 4, 2) := by decide +kernel
theorem dL_table_16 : decode cL_table 16 = .ok (.iconst 2, 1) := by decide +kernel
theorem dL_table_17 : decode cL_table 17 = .ok (.ireturn, 1) := by decide +kernel
theorem dL_table_18 : decode cL_table 18 = .ok (.astore 4, 2) := by decide +kernel
theorem dL_table_20 : decode cL_table 20 = .ok (.iconst 3, 1) := by decide +kernel
theorem dL_table_21 : decode cL_table 21 = .ok (.ireturn, 1) := by decide +kernel
theorem dL_table_22 : decode cL_table 22 = .ok (.iconst 0, 1) := by decide +kernel
theorem dL_table_23 : decode cL_table 23 = .ok (.ireturn, 1) := by decide +kernel
theorem dL_x_0 : decode cL_x 0 = .ok (.aload_n 3, 1) := by decide +kernel
theorem dL_x_1 : decode cL_x 1 = .ok (.iconst 0, 1) := by decide +kernel
theorem dL_x_2 : decode cL_x 2 = .ok (.aload_n 0, 1) := by decide +kernel
theorem dL_x_3 : decode cL_x 3 = .ok (.iload_n 1, 1) := by decide +kernel
theorem dL_x_4 : decode cL_x 4 = .ok (.iload_n 2, 1) := by decide +kernel
theorem dL_x_5 : decode cL_x 5 = .ok (.invokevirtual 19, 3) := by decide +kernel
theorem dL_x_8 : decode cL_x 8 = .ok (.i2l, 1) := by decide +kernel
theorem dL_x_9 : decode cL_x 9 = .ok (.lastore, 1) := by decide +kernel
theorem dL_x_10 : decode cL_x 10 = .ok (.goto 7, 3) := by decide +kernel
theorem dL_x_13 : decode cL_x 13 = .ok (.astore 4, 2) := by decide +kernel
theorem dL_x_15 : decode cL_x 15 = .ok (.iconst 1, 1) := by decide +kernel
theorem dL_x_16 : decode cL_x 16 = .ok (.ireturn, 1) := by decide +kernel
theorem dL_x_17 : decode cL_x 17 = .ok (.iconst 0, 1) := by decide +kernel
theorem dL_x_18 : decode cL_x 18 = .ok (.ireturn, 1) := by decide +kernel
theorem dL_y_0 : decode cL_y 0 = .ok (.aload_n 2, 1) := by decide +kernel
theorem dL_y_1 : decode cL_y 1 = .ok (.iconst 0, 1) := by decide +kernel
theorem dL_y_2 : decode cL_y 2 = .ok (.aload_n 0, 1) := by decide +kernel
theorem dL_y_3 : decode cL_y 3 = .ok (.iload_n 1, 1) := by decide +kernel
theorem dL_y_4 : decode cL_y 4 = .ok (.invokevirtual 23, 3) := by decide +kernel
theorem dL_y_7 : decode cL_y 7 = .ok (.i2l, 1) := by decide +kernel
theorem dL_y_8 : decode cL_y 8 = .ok (.lastore, 1) := by decide +kernel
theorem dL_y_9 : decode cL_y 9 = .ok (.goto 6, 3) := by decide +kernel
theorem dL_y_12 : decode cL_y 12 = .ok (.astore_n 3, 1) := by decide +kernel
theorem dL_y_13 : decode cL_y 13 = .ok (.iconst 1, 1) := by decide +kernel
theorem dL_y_14 : decode cL_y 14 = .ok (.ireturn, 1) := by decide +kernel
theorem dL_y_15 : decode cL_y 15 = .ok (.iconst 0, 1) := by decide +kernel
theorem dL_y_16 : decode cL_y 16 = .ok (.ireturn, 1) := by decide +kernel
theorem dL_latitudeAt_0 : decode cL_latitudeAt 0 = .ok (.aload_n 2, 1) := by decide +kernel
theorem dL_latitudeAt_1 : decode cL_latitudeAt 1 = .ok (.iconst 0, 1) := by decide +kernel
theorem dL_latitudeAt_2 : decode cL_latitudeAt 2 = .ok (.aload_n 0, 1) := by decide +kernel
theorem dL_latitudeAt_3 : decode cL_latitudeAt 3 = .ok (.iload_n 1, 1) := by decide +kernel
theorem dL_latitudeAt_4 : decode cL_latitudeAt 4 = .ok (.invokevirtual 27, 3) := by decide +kernel
theorem dL_latitudeAt_7 : decode cL_latitudeAt 7 = .ok (.i2l, 1) := by decide +kernel
theorem dL_latitudeAt_8 : decode cL_latitudeAt 8 = .ok (.lastore, 1) := by decide +kernel
theorem dL_latitudeAt_9 : decode cL_latitudeAt 9 = .ok (.goto 9, 3) := by decide +kernel
theorem dL_latitudeAt_12 : decode cL_latitudeAt 12 = .ok (.astore_n 3, 1) := by decide +kernel
theorem dL_latitudeAt_13 : decode cL_latitudeAt 13 = .ok (.iconst 1, 1) := by decide +kernel
theorem dL_latitudeAt_14 : decode cL_latitudeAt 14 = .ok (.ireturn, 1) := by decide +kernel
theorem dL_latitudeAt_15 : decode cL_latitudeAt 15 = .ok (.astore_n 3, 1) := by decide +kernel
theorem dL_latitudeAt_16 : decode cL_latitudeAt 16 = .ok (.iconst 2, 1) := by decide +kernel
theorem dL_latitudeAt_17 : decode cL_latitudeAt 17 = .ok (.ireturn, 1) := by decide +kernel
theorem dL_latitudeAt_18 : decode cL_latitudeAt 18 = .ok (.iconst 0, 1) := by decide +kernel
theorem dL_latitudeAt_19 : decode cL_latitudeAt 19 = .ok (.ireturn, 1) := by decide +kernel
theorem dL_area_0 : decode cL_area 0 = .ok (.aload 5, 2) := by decide +kernel
theorem dL_area_2 : decode cL_area 2 = .ok (.iconst 0, 1) := by decide +kernel
theorem dL_area_3 : decode cL_area 3 = .ok (.aload_n 0, 1) := by decide +kernel
theorem dL_area_4 : decode cL_area 4 = .ok (.iload_n 1, 1) := by decide +kernel
theorem dL_area_5 : decode cL_area 5 = .ok (.iload_n 2, 1) := by decide +kernel
theorem dL_area_6 : decode cL_area 6 = .ok (.iload_n 3, 1) := by decide +kernel
theorem dL_area_7 : decode cL_area 7 = .ok (.iload 4, 2) := by decide +kernel
theorem dL_area_9 : decode cL_area 9 = .ok (.invokevirtual 30, 3) := by decide +kernel
theorem dL_area_12 : decode cL_area 12 = .ok (.lastore, 1) := by decide +kernel
theorem dL_area_13 : decode cL_area 13 = .ok (.goto 7, 3) := by decide +kernel
theorem dL_area_16 : decode cL_area 16 = .ok (.astore 6, 2) := by decide +kernel
theorem dL_area_18 : decode cL_area 18 = .ok (.iconst 1, 1) := by decide +kernel
theorem dL_area_19 : decode cL_area 19 = .ok (.ireturn, 1) := by decide +kernel
theorem dL_area_20 : decode cL_area 20 = .ok (.iconst 0, 1) := by decide +kernel
theorem dL_area_21 : decode cL_area 21 = .ok (.ireturn, 1) := by decide +kernel
theorem dL_areaByCells_0 : decode cL_areaByCells 0 = .ok (.aload 5, 2) := by decide +kernel
theorem dL_areaByCells_2 : decode cL_areaByCells 2 = .ok (.iconst 0, 1) := by decide +kernel
theorem dL_areaByCells_3 : decode cL_areaByCells 3 = .ok (.aload_n 0, 1) := by decide +kernel
theorem dL_areaByCells_4 : decode cL_areaByCells 4 = .ok (.iload_n 1, 1) := by decide +kernel
theorem dL_areaByCells_5 : decode cL_areaByCells 5 = .ok (.iload_n 2, 1) := by decide +kernel
theorem dL_areaByCells_6 : decode cL_areaByCells 6 = .ok (.iload_n 3, 1) := by decide +kernel
theorem dL_areaByCells_7 : decode cL_areaByCells 7 = .ok (.iload 4, 2) := by decide +kernel
theorem dL_areaByCells_9 : decode cL_areaByCells 9 = .ok (.invokevirtual 34, 3) := by decide +kernel
theorem dL_areaByCells_12 : decode cL_areaByCells 12 = .ok (.lastore, 1) := by decide +kernel
theorem dL_areaByCells_13 : decode cL_areaByCells 13 = .ok (.goto 7, 3) := by decide +kernel
theorem dL_areaByCells_16 : decode cL_areaByCells 16 = .ok (.astore 6, 2) := by decide +kernel
theorem dL_areaByCells_18 : decode cL_areaByCells 18 = .ok (.iconst 1, 1) := by decide +kernel
theorem dL_areaByCells_19 : decode cL_areaByCells 19 = .ok (.ireturn, 1) := by decide +kernel
theorem dL_areaByCells_20 : decode cL_areaByCells 20 = .ok (.iconst 0, 1) := by decide +kernel
theorem dL_areaByCells_21 : decode cL_areaByCells 21 = .ok (.ireturn, 1) := by decide +kernel
theorem dL_truth_0 : decode cL_truth 0 = .ok (.aload_n 3, 1) := by decide +kernel
theorem dL_truth_1 : decode cL_truth 1 = .ok (.iconst 0, 1) := by decide +kernel
theorem dL_truth_2 : decode cL_truth 2 = .ok (.aload_n 0, 1) := by decide +kernel
theorem dL_truth_3 : decode cL_truth 3 = .ok (.iload_n 1, 1) := by decide +kernel
theorem dL_truth_4 : decode cL_truth 4 = .ok (.iload_n 2, 1) := by decide +kernel
theorem dL_truth_5 : decode cL_truth 5 = .ok (.invokevirtual 37, 3) := by decide +kernel
theorem dL_truth_8 : decode cL_truth 8 = .ok (.i2l, 1) := by decide +kernel
theorem dL_truth_9 : decode cL_truth 9 = .ok (.lastore, 1) := by decide +kernel
theorem dL_truth_10 : decode cL_truth 10 = .ok (.goto 11, 3) := by decide +kernel
theorem dL_truth_13 : decode cL_truth 13 = .ok (.astore 4, 2) := by decide +kernel
theorem dL_truth_15 : decode cL_truth 15 = .ok (.iconst 1, 1) := by decide +kernel
theorem dL_truth_16 : decode cL_truth 16 = .ok (.ireturn, 1) := by decide +kernel
theorem dL_truth_17 : decode cL_truth 17 = .ok (.astore 4, 2) := by decide +kernel
theorem dL_truth_19 : decode cL_truth 19 = .ok (.iconst 2, 1) := by decide +kernel
theorem dL_truth_20 : decode cL_truth 20 = .ok (.ireturn, 1) := by decide +kernel
theorem dL_truth_21 : decode cL_truth 21 = .ok (.iconst 0, 1) := by decide +kernel
theorem dL_truth_22 : decode cL_truth 22 = .ok (.ireturn, 1) := by decide +kernel
theorem dL_stretch_0 : decode cL_stretch 0 = .ok (.aload_n 2, 1) := by decide +kernel
theorem dL_stretch_1 : decode cL_stretch 1 = .ok (.iconst 0, 1) := by decide +kernel
theorem dL_stretch_2 : decode cL_stretch 2 = .ok (.aload_n 0, 1) := by decide +kernel
theorem dL_stretch_3 : decode cL_stretch 3 = .ok (.iload_n 1, 1) := by decide +kernel
theorem dL_stretch_4 : decode cL_stretch 4 = .ok (.invokevirtual 40, 3) := by decide +kernel
theorem dL_stretch_7 : decode cL_stretch 7 = .ok (.f2d, 1) := by decide +kernel
theorem dL_stretch_8 : decode cL_stretch 8 = .ok (.dastore, 1) := by decide +kernel
theorem dL_stretch_9 : decode cL_stretch 9 = .ok (.goto 6, 3) := by decide +kernel
theorem dL_stretch_12 : decode cL_stretch 12 = .ok (.astore_n 3, 1) := by decide +kernel
theorem dL_stretch_13 : decode cL_stretch 13 = .ok (.iconst 1, 1) := by decide +kernel
theorem dL_stretch_14 : decode cL_stretch 14 = .ok (.ireturn, 1) := by decide +kernel
theorem dL_stretch_15 : decode cL_stretch 15 = .ok (.iconst 0, 1) := by decide +kernel
theorem dL_stretch_16 : decode cL_stretch 16 = .ok (.ireturn, 1) := by decide +kernel
theorem dL_apart_0 : decode cL_apart 0 = .ok (.aload_n 3, 1) := by decide +kernel
theorem dL_apart_1 : decode cL_apart 1 = .ok (.iconst 0, 1) := by decide +kernel
theorem dL_apart_2 : decode cL_apart 2 = .ok (.aload_n 0, 1) := by decide +kernel
theorem dL_apart_3 : decode cL_apart 3 = .ok (.iload_n 1, 1) := by decide +kernel
theorem dL_apart_4 : decode cL_apart 4 = .ok (.iload_n 2, 1) := by decide +kernel
theorem dL_apart_5 : decode cL_apart 5 = .ok (.invokevirtual 44, 3) := by decide +kernel
theorem dL_apart_8 : decode cL_apart 8 = .ok (.i2l, 1) := by decide +kernel
theorem dL_apart_9 : decode cL_apart 9 = .ok (.lastore, 1) := by decide +kernel
theorem dL_apart_10 : decode cL_apart 10 = .ok (.goto 7, 3) := by decide +kernel
theorem dL_apart_13 : decode cL_apart 13 = .ok (.astore 4, 2) := by decide +kernel
theorem dL_apart_15 : decode cL_apart 15 = .ok (.iconst 1, 1) := by decide +kernel
theorem dL_apart_16 : decode cL_apart 16 = .ok (.ireturn, 1) := by decide +kernel
theorem dL_apart_17 : decode cL_apart 17 = .ok (.iconst 0, 1) := by decide +kernel
theorem dL_apart_18 : decode cL_apart 18 = .ok (.ireturn, 1) := by decide +kernel
theorem dL_ringWay_0 : decode cL_ringWay 0 = .ok (.aload 4, 2) := by decide +kernel
theorem dL_ringWay_2 : decode cL_ringWay 2 = .ok (.iconst 0, 1) := by decide +kernel
theorem dL_ringWay_3 : decode cL_ringWay 3 = .ok (.aload_n 0, 1) := by decide +kernel
theorem dL_ringWay_4 : decode cL_ringWay 4 = .ok (.iload_n 1, 1) := by decide +kernel
theorem dL_ringWay_5 : decode cL_ringWay 5 = .ok (.iload_n 2, 1) := by decide +kernel
theorem dL_ringWay_6 : decode cL_ringWay 6 = .ok (.iload_n 3, 1) := by decide +kernel
theorem dL_ringWay_7 : decode cL_ringWay 7 = .ok (.invokevirtual 47, 3) := by decide +kernel
theorem dL_ringWay_10 : decode cL_ringWay 10 = .ok (.i2l, 1) := by decide +kernel
theorem dL_ringWay_11 : decode cL_ringWay 11 = .ok (.lastore, 1) := by decide +kernel
theorem dL_ringWay_12 : decode cL_ringWay 12 = .ok (.goto 7, 3) := by decide +kernel
theorem dL_ringWay_15 : decode cL_ringWay 15 = .ok (.astore 5, 2) := by decide +kernel
theorem dL_ringWay_17 : decode cL_ringWay 17 = .ok (.iconst 1, 1) := by decide +kernel
theorem dL_ringWay_18 : decode cL_ringWay 18 = .ok (.ireturn, 1) := by decide +kernel
theorem dL_ringWay_19 : decode cL_ringWay 19 = .ok (.iconst 0, 1) := by decide +kernel
theorem dL_ringWay_20 : decode cL_ringWay 20 = .ok (.ireturn, 1) := by decide +kernel
theorem dL_zones_0 : decode cL_zones 0 = .ok (.aload_n 2, 1) := by decide +kernel
theorem dL_zones_1 : decode cL_zones 1 = .ok (.iconst 0, 1) := by decide +kernel
theorem dL_zones_2 : decode cL_zones 2 = .ok (.aload_n 0, 1) := by decide +kernel
theorem dL_zones_3 : decode cL_zones 3 = .ok (.iload_n 1, 1) := by decide +kernel
theorem dL_zones_4 : decode cL_zones 4 = .ok (.invokevirtual 51, 3) := by decide +kernel
theorem dL_zones_7 : decode cL_zones 7 = .ok (.i2l, 1) := by decide +kernel
theorem dL_zones_8 : decode cL_zones 8 = .ok (.lastore, 1) := by decide +kernel
theorem dL_zones_9 : decode cL_zones 9 = .ok (.goto 6, 3) := by decide +kernel
theorem dL_zones_12 : decode cL_zones 12 = .ok (.astore_n 3, 1) := by decide +kernel
theorem dL_zones_13 : decode cL_zones 13 = .ok (.iconst 1, 1) := by decide +kernel
theorem dL_zones_14 : decode cL_zones 14 = .ok (.ireturn, 1) := by decide +kernel
theorem dL_zones_15 : decode cL_zones 15 = .ok (.iconst 0, 1) := by decide +kernel
theorem dL_zones_16 : decode cL_zones 16 = .ok (.ireturn, 1) := by decide +kernel
theorem dL_zone_0 : decode cL_zone 0 = .ok (.aload_n 2, 1) := by decide +kernel
theorem dL_zone_1 : decode cL_zone 1 = .ok (.iconst 0, 1) := by decide +kernel
theorem dL_zone_2 : decode cL_zone 2 = .ok (.aload_n 0, 1) := by decide +kernel
theorem dL_zone_3 : decode cL_zone 3 = .ok (.iload_n 1, 1) := by decide +kernel
theorem dL_zone_4 : decode cL_zone 4 = .ok (.invokevirtual 54, 3) := by decide +kernel
theorem dL_zone_7 : decode cL_zone 7 = .ok (.i2l, 1) := by decide +kernel
theorem dL_zone_8 : decode cL_zone 8 = .ok (.lastore, 1) := by decide +kernel
theorem dL_zone_9 : decode cL_zone 9 = .ok (.goto 6, 3) := by decide +kernel
theorem dL_zone_12 : decode cL_zone 12 = .ok (.astore_n 3, 1) := by decide +kernel
theorem dL_zone_13 : decode cL_zone 13 = .ok (.iconst 1, 1) := by decide +kernel
theorem dL_zone_14 : decode cL_zone 14 = .ok (.ireturn, 1) := by decide +kernel
theorem dL_zone_15 : decode cL_zone 15 = .ok (.iconst 0, 1) := by decide +kernel
theorem dL_zone_16 : decode cL_zone 16 = .ok (.ireturn, 1) := by decide +kernel
theorem dL_seams_0 : decode cL_seams 0 = .ok (.aload_n 3, 1) := by decide +kernel
theorem dL_seams_1 : decode cL_seams 1 = .ok (.iconst 0, 1) := by decide +kernel
theorem dL_seams_2 : decode cL_seams 2 = .ok (.aload_n 0, 1) := by decide +kernel
theorem dL_seams_3 : decode cL_seams 3 = .ok (.iload_n 1, 1) := by decide +kernel
theorem dL_seams_4 : decode cL_seams 4 = .ok (.iload_n 2, 1) := by decide +kernel
theorem dL_seams_5 : decode cL_seams 5 = .ok (.invokevirtual 57, 3) := by decide +kernel
theorem dL_seams_8 : decode cL_seams 8 = .ok (.i2l, 1) := by decide +kernel
theorem dL_seams_9 : decode cL_seams 9 = .ok (.lastore, 1) := by decide +kernel
theorem dL_seams_10 : decode cL_seams 10 = .ok (.goto 7, 3) := by decide +kernel
theorem dL_seams_13 : decode cL_seams 13 = .ok (.astore 4, 2) := by decide +kernel
theorem dL_seams_15 : decode cL_seams 15 = .ok (.iconst 1, 1) := by decide +kernel
theorem dL_seams_16 : decode cL_seams 16 = .ok (.ireturn, 1) := by decide +kernel
theorem dL_seams_17 : decode cL_seams 17 = .ok (.iconst 0, 1) := by decide +kernel
theorem dL_seams_18 : decode cL_seams 18 = .ok (.ireturn, 1) := by decide +kernel
theorem dL_dateLine_0 : decode cL_dateLine 0 = .ok (.aload_n 3, 1) := by decide +kernel
theorem dL_dateLine_1 : decode cL_dateLine 1 = .ok (.iconst 0, 1) := by decide +kernel
theorem dL_dateLine_2 : decode cL_dateLine 2 = .ok (.aload_n 0, 1) := by decide +kernel
theorem dL_dateLine_3 : decode cL_dateLine 3 = .ok (.iload_n 1, 1) := by decide +kernel
theorem dL_dateLine_4 : decode cL_dateLine 4 = .ok (.iload_n 2, 1) := by decide +kernel
theorem dL_dateLine_5 : decode cL_dateLine 5 = .ok (.invokevirtual 60, 3) := by decide +kernel
theorem dL_dateLine_8 : decode cL_dateLine 8 = .ok (.i2l, 1) := by decide +kernel
theorem dL_dateLine_9 : decode cL_dateLine 9 = .ok (.lastore, 1) := by decide +kernel
theorem dL_dateLine_10 : decode cL_dateLine 10 = .ok (.goto 7, 3) := by decide +kernel
theorem dL_dateLine_13 : decode cL_dateLine 13 = .ok (.astore 4, 2) := by decide +kernel
theorem dL_dateLine_15 : decode cL_dateLine 15 = .ok (.iconst 1, 1) := by decide +kernel
theorem dL_dateLine_16 : decode cL_dateLine 16 = .ok (.ireturn, 1) := by decide +kernel
theorem dL_dateLine_17 : decode cL_dateLine 17 = .ok (.iconst 0, 1) := by decide +kernel
theorem dL_dateLine_18 : decode cL_dateLine 18 = .ok (.ireturn, 1) := by decide +kernel
theorem dL_sheet_0 : decode cL_sheet 0 = .ok (.aload_n 0, 1) := by decide +kernel
theorem dL_sheet_1 : decode cL_sheet 1 = .ok (.iload_n 1, 1) := by decide +kernel
theorem dL_sheet_2 : decode cL_sheet 2 = .ok (.iload_n 2, 1) := by decide +kernel
theorem dL_sheet_3 : decode cL_sheet 3 = .ok (.invokevirtual 63, 3) := by decide +kernel
theorem dL_sheet_6 : decode cL_sheet 6 = .ok (.goto 6, 3) := by decide +kernel
theorem dL_sheet_9 : decode cL_sheet 9 = .ok (.astore_n 3, 1) := by decide +kernel
theorem dL_sheet_10 : decode cL_sheet 10 = .ok (.iconst 1, 1) := by decide +kernel
theorem dL_sheet_11 : decode cL_sheet 11 = .ok (.ireturn, 1) := by decide +kernel
theorem dL_sheet_12 : decode cL_sheet 12 = .ok (.iconst 0, 1) := by decide +kernel
theorem dL_sheet_13 : decode cL_sheet 13 = .ok (.ireturn, 1) := by decide +kernel
theorem dL_foldColumns_0 : decode cL_foldColumns 0 = .ok (.aload_n 2, 1) := by decide +kernel
theorem dL_foldColumns_1 : decode cL_foldColumns 1 = .ok (.iconst 0, 1) := by decide +kernel
theorem dL_foldColumns_2 : decode cL_foldColumns 2 = .ok (.aload_n 0, 1) := by decide +kernel
theorem dL_foldColumns_3 : decode cL_foldColumns 3 = .ok (.iload_n 1, 1) := by decide +kernel
theorem dL_foldColumns_4 : decode cL_foldColumns 4 = .ok (.invokevirtual 67, 3) := by decide +kernel
theorem dL_foldColumns_7 : decode cL_foldColumns 7 = .ok (.i2l, 1) := by decide +kernel
theorem dL_foldColumns_8 : decode cL_foldColumns 8 = .ok (.lastore, 1) := by decide +kernel
theorem dL_foldColumns_9 : decode cL_foldColumns 9 = .ok (.goto 6, 3) := by decide +kernel
theorem dL_foldColumns_12 : decode cL_foldColumns 12 = .ok (.astore_n 3, 1) := by decide +kernel
theorem dL_foldColumns_13 : decode cL_foldColumns 13 = .ok (.iconst 1, 1) := by decide +kernel
theorem dL_foldColumns_14 : decode cL_foldColumns 14 = .ok (.ireturn, 1) := by decide +kernel
theorem dL_foldColumns_15 : decode cL_foldColumns 15 = .ok (.iconst 0, 1) := by decide +kernel
theorem dL_foldColumns_16 : decode cL_foldColumns 16 = .ok (.ireturn, 1) := by decide +kernel
theorem dL_foldRows_0 : decode cL_foldRows 0 = .ok (.aload_n 2, 1) := by decide +kernel
theorem dL_foldRows_1 : decode cL_foldRows 1 = .ok (.iconst 0, 1) := by decide +kernel
theorem dL_foldRows_2 : decode cL_foldRows 2 = .ok (.aload_n 0, 1) := by decide +kernel
theorem dL_foldRows_3 : decode cL_foldRows 3 = .ok (.iload_n 1, 1) := by decide +kernel
theorem dL_foldRows_4 : decode cL_foldRows 4 = .ok (.invokevirtual 70, 3) := by decide +kernel
theorem dL_foldRows_7 : decode cL_foldRows 7 = .ok (.i2l, 1) := by decide +kernel
theorem dL_foldRows_8 : decode cL_foldRows 8 = .ok (.lastore, 1) := by decide +kernel
theorem dL_foldRows_9 : decode cL_foldRows 9 = .ok (.goto 6, 3) := by decide +kernel
theorem dL_foldRows_12 : decode cL_foldRows 12 = .ok (.astore_n 3, 1) := by decide +kernel
theorem dL_foldRows_13 : decode cL_foldRows 13 = .ok (.iconst 1, 1) := by decide +kernel
theorem dL_foldRows_14 : decode cL_foldRows 14 = .ok (.ireturn, 1) := by decide +kernel
theorem dL_foldRows_15 : decode cL_foldRows 15 = .ok (.iconst 0, 1) := by decide +kernel
theorem dL_foldRows_16 : decode cL_foldRows 16 = .ok (.ireturn, 1) := by decide +kernel
theorem dL_panel_0 : decode cL_panel 0 = .ok (.aload_n 3, 1) := by decide +kernel
theorem dL_panel_1 : decode cL_panel 1 = .ok (.iconst 0, 1) := by decide +kernel
theorem dL_panel_2 : decode cL_panel 2 = .ok (.aload_n 0, 1) := by decide +kernel
theorem dL_panel_3 : decode cL_panel 3 = .ok (.iload_n 1, 1) := by decide +kernel
theorem dL_panel_4 : decode cL_panel 4 = .ok (.iload_n 2, 1) := by decide +kernel
theorem dL_panel_5 : decode cL_panel 5 = .ok (.invokevirtual 73, 3) := by decide +kernel
theorem dL_panel_8 : decode cL_panel 8 = .ok (.i2l, 1) := by decide +kernel
theorem dL_panel_9 : decode cL_panel 9 = .ok (.lastore, 1) := by decide +kernel
theorem dL_panel_10 : decode cL_panel 10 = .ok (.goto 7, 3) := by decide +kernel
theorem dL_panel_13 : decode cL_panel 13 = .ok (.astore 4, 2) := by decide +kernel
theorem dL_panel_15 : decode cL_panel 15 = .ok (.iconst 1, 1) := by decide +kernel
theorem dL_panel_16 : decode cL_panel 16 = .ok (.ireturn, 1) := by decide +kernel
theorem dL_panel_17 : decode cL_panel 17 = .ok (.iconst 0, 1) := by decide +kernel
theorem dL_panel_18 : decode cL_panel 18 = .ok (.ireturn, 1) := by decide +kernel
theorem dL_placeX_0 : decode cL_placeX 0 = .ok (.aload_n 3, 1) := by decide +kernel
theorem dL_placeX_1 : decode cL_placeX 1 = .ok (.iconst 0, 1) := by decide +kernel
theorem dL_placeX_2 : decode cL_placeX 2 = .ok (.aload_n 0, 1) := by decide +kernel
theorem dL_placeX_3 : decode cL_placeX 3 = .ok (.iload_n 1, 1) := by decide +kernel
theorem dL_placeX_4 : decode cL_placeX 4 = .ok (.iload_n 2, 1) := by decide +kernel
theorem dL_placeX_5 : decode cL_placeX 5 = .ok (.invokevirtual 76, 3) := by decide +kernel
theorem dL_placeX_8 : decode cL_placeX 8 = .ok (.i2l, 1) := by decide +kernel
theorem dL_placeX_9 : decode cL_placeX 9 = .ok (.lastore, 1) := by decide +kernel
theorem dL_placeX_10 : decode cL_placeX 10 = .ok (.goto 7, 3) := by decide +kernel
theorem dL_placeX_13 : decode cL_placeX 13 = .ok (.astore 4, 2) := by decide +kernel
theorem dL_placeX_15 : decode cL_placeX 15 = .ok (.iconst 1, 1) := by decide +kernel
theorem dL_placeX_16 : decode cL_placeX 16 = .ok (.ireturn, 1) := by decide +kernel
theorem dL_placeX_17 : decode cL_placeX 17 = .ok (.iconst 0, 1) := by decide +kernel
theorem dL_placeX_18 : decode cL_placeX 18 = .ok (.ireturn, 1) := by decide +kernel
theorem dL_placeY_0 : decode cL_placeY 0 = .ok (.aload_n 3, 1) := by decide +kernel
theorem dL_placeY_1 : decode cL_placeY 1 = .ok (.iconst 0, 1) := by decide +kernel
theorem dL_placeY_2 : decode cL_placeY 2 = .ok (.aload_n 0, 1) := by decide +kernel
theorem dL_placeY_3 : decode cL_placeY 3 = .ok (.iload_n 1, 1) := by decide +kernel
theorem dL_placeY_4 : decode cL_placeY 4 = .ok (.iload_n 2, 1) := by decide +kernel
theorem dL_placeY_5 : decode cL_placeY 5 = .ok (.invokevirtual 79, 3) := by decide +kernel
theorem dL_placeY_8 : decode cL_placeY 8 = .ok (.i2l, 1) := by decide +kernel
theorem dL_placeY_9 : decode cL_placeY 9 = .ok (.lastore, 1) := by decide +kernel
theorem dL_placeY_10 : decode cL_placeY 10 = .ok (.goto 7, 3) := by decide +kernel
theorem dL_placeY_13 : decode cL_placeY 13 = .ok (.astore 4, 2) := by decide +kernel
theorem dL_placeY_15 : decode cL_placeY 15 = .ok (.iconst 1, 1) := by decide +kernel
theorem dL_placeY_16 : decode cL_placeY 16 = .ok (.ireturn, 1) := by decide +kernel
theorem dL_placeY_17 : decode cL_placeY 17 = .ok (.iconst 0, 1) := by decide +kernel
theorem dL_placeY_18 : decode cL_placeY 18 = .ok (.ireturn, 1) := by decide +kernel
theorem dL_above_0 : decode cL_above 0 = .ok (.aload_n 3, 1) := by decide +kernel
theorem dL_above_1 : decode cL_above 1 = .ok (.iconst 0, 1) := by decide +kernel
theorem dL_above_2 : decode cL_above 2 = .ok (.aload_n 0, 1) := by decide +kernel
theorem dL_above_3 : decode cL_above 3 = .ok (.iload_n 1, 1) := by decide +kernel
theorem dL_above_4 : decode cL_above 4 = .ok (.iload_n 2, 1) := by decide +kernel
theorem dL_above_5 : decode cL_above 5 = .ok (.invokevirtual 82, 3) := by decide +kernel
theorem dL_above_8 : decode cL_above 8 = .ok (.i2l, 1) := by decide +kernel
theorem dL_above_9 : decode cL_above 9 = .ok (.lastore, 1) := by decide +kernel
theorem dL_above_10 : decode cL_above 10 = .ok (.goto 7, 3) := by decide +kernel
theorem dL_above_13 : decode cL_above 13 = .ok (.astore 4, 2) := by decide +kernel
theorem dL_above_15 : decode cL_above 15 = .ok (.iconst 1, 1) := by decide +kernel
theorem dL_above_16 : decode cL_above 16 = .ok (.ireturn, 1) := by decide +kernel
theorem dL_above_17 : decode cL_above 17 = .ok (.iconst 0, 1) := by decide +kernel
theorem dL_above_18 : decode cL_above 18 = .ok (.ireturn, 1) := by decide +kernel
theorem dL_isUp_0 : decode cL_isUp 0 = .ok (.aload_n 3, 1) := by decide +kernel
theorem dL_isUp_1 : decode cL_isUp 1 = .ok (.iconst 0, 1) := by decide +kernel
theorem dL_isUp_2 : decode cL_isUp 2 = .ok (.aload_n 0, 1) := by decide +kernel
theorem dL_isUp_3 : decode cL_isUp 3 = .ok (.iload_n 1, 1) := by decide +kernel
theorem dL_isUp_4 : decode cL_isUp 4 = .ok (.iload_n 2, 1) := by decide +kernel
theorem dL_isUp_5 : decode cL_isUp 5 = .ok (.invokevirtual 85, 3) := by decide +kernel
theorem dL_isUp_8 : decode cL_isUp 8 = .ok (.ifCond .eq 7, 3) := by decide +kernel
theorem dL_isUp_11 : decode cL_isUp 11 = .ok (.lconst 1, 1) := by decide +kernel
theorem dL_isUp_12 : decode cL_isUp 12 = .ok (.goto 4, 3) := by decide +kernel
theorem dL_isUp_15 : decode cL_isUp 15 = .ok (.lconst 0, 1) := by decide +kernel
theorem dL_isUp_16 : decode cL_isUp 16 = .ok (.lastore, 1) := by decide +kernel
theorem dL_isUp_17 : decode cL_isUp 17 = .ok (.goto 7, 3) := by decide +kernel
theorem dL_isUp_20 : decode cL_isUp 20 = .ok (.astore 4, 2) := by decide +kernel
theorem dL_isUp_22 : decode cL_isUp 22 = .ok (.iconst 1, 1) := by decide +kernel
theorem dL_isUp_23 : decode cL_isUp 23 = .ok (.ireturn, 1) := by decide +kernel
theorem dL_isUp_24 : decode cL_isUp 24 = .ok (.iconst 0, 1) := by decide +kernel
theorem dL_isUp_25 : decode cL_isUp 25 = .ok (.ireturn, 1) := by decide +kernel
