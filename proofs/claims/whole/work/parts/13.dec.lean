theorem dX6_part_47 : decode cX6_part 47 = .ok (.sipush 200, 3) := by decide +kernel
theorem dX6_part_50 : decode cX6_part 50 = .ok (.invokestatic 1, 3) := by decide +kernel
theorem dX6_part_53 : decode cX6_part 53 = .ok (.ifCond .eq 19, 3) := by decide +kernel
theorem dX6_part_56 : decode cX6_part 56 = .ok (.iload 6, 2) := by decide +kernel
theorem dX6_part_58 : decode cX6_part 58 = .ok (.iconst 0, 1) := by decide +kernel
theorem dX6_part_59 : decode cX6_part 59 = .ok (.sipush 200, 3) := by decide +kernel
theorem dX6_part_62 : decode cX6_part 62 = .ok (.invokestatic 1, 3) := by decide +kernel
theorem dX6_part_65 : decode cX6_part 65 = .ok (.ifCond .eq 7, 3) := by decide +kernel
theorem dX6_part_68 : decode cX6_part 68 = .ok (.iconst 1, 1) := by decide +kernel
theorem dX6_part_69 : decode cX6_part 69 = .ok (.goto 4, 3) := by decide +kernel
theorem dX6_part_72 : decode cX6_part 72 = .ok (.iconst 0, 1) := by decide +kernel
theorem dX6_part_73 : decode cX6_part 73 = .ok (.istore 7, 2) := by decide +kernel
theorem dX6_part_75 : decode cX6_part 75 = .ok (.iload 7, 2) := by decide +kernel
theorem dX6_part_77 : decode cX6_part 77 = .ok (.ifCond .ne 6, 3) := by decide +kernel
theorem dX6_part_80 : decode cX6_part 80 = .ok (.bipush (-2), 2) := by decide +kernel
theorem dX6_part_82 : decode cX6_part 82 = .ok (.ireturn, 1) := by decide +kernel
theorem dX6_part_83 : decode cX6_part 83 = .ok (.aload_n 0, 1) := by decide +kernel
theorem dX6_part_84 : decode cX6_part 84 = .ok (.getfield 7, 3) := by decide +kernel
theorem dX6_part_87 : decode cX6_part 87 = .ok (.bipush 12, 2) := by decide +kernel
theorem dX6_part_89 : decode cX6_part 89 = .ok (.if_icmp .ne 6, 3) := by decide +kernel
theorem dX6_part_92 : decode cX6_part 92 = .ok (.bipush (-4), 2) := by decide +kernel
theorem dX6_part_94 : decode cX6_part 94 = .ok (.ireturn, 1) := by decide +kernel
theorem dX6_part_95 : decode cX6_part 95 = .ok (.aload_n 0, 1) := by decide +kernel
theorem dX6_part_96 : decode cX6_part 96 = .ok (.getfield 7, 3) := by decide +kernel
theorem dX6_part_99 : decode cX6_part 99 = .ok (.istore 8, 2) := by decide +kernel
theorem dX6_part_101 : decode cX6_part 101 = .ok (.aload_n 0, 1) := by decide +kernel
theorem dX6_part_102 : decode cX6_part 102 = .ok (.getfield 11, 3) := by decide +kernel
theorem dX6_part_105 : decode cX6_part 105 = .ok (.iload 8, 2) := by decide +kernel
theorem dX6_part_107 : decode cX6_part 107 = .ok (.iload_n 1, 1) := by decide +kernel
theorem dX6_part_108 : decode cX6_part 108 = .ok (.iastore, 1) := by decide +kernel
theorem dX6_part_109 : decode cX6_part 109 = .ok (.aload_n 0, 1) := by decide +kernel
theorem dX6_part_110 : decode cX6_part 110 = .ok (.getfield 15, 3) := by decide +kernel
theorem dX6_part_113 : decode cX6_part 113 = .ok (.iload 8, 2) := by decide +kernel
theorem dX6_part_115 : decode cX6_part 115 = .ok (.iload_n 2, 1) := by decide +kernel
theorem dX6_part_116 : decode cX6_part 116 = .ok (.iastore, 1) := by decide +kernel
theorem dX6_part_117 : decode cX6_part 117 = .ok (.aload_n 0, 1) := by decide +kernel
theorem dX6_part_118 : decode cX6_part 118 = .ok (.getfield 18, 3) := by decide +kernel
theorem dX6_part_121 : decode cX6_part 121 = .ok (.iload 8, 2) := by decide +kernel
theorem dX6_part_123 : decode cX6_part 123 = .ok (.iload_n 3, 1) := by decide +kernel
theorem dX6_part_124 : decode cX6_part 124 = .ok (.iastore, 1) := by decide +kernel
theorem dX6_part_125 : decode cX6_part 125 = .ok (.aload_n 0, 1) := by decide +kernel
theorem dX6_part_126 : decode cX6_part 126 = .ok (.getfield 21, 3) := by decide +kernel
theorem dX6_part_129 : decode cX6_part 129 = .ok (.iload 8, 2) := by decide +kernel
theorem dX6_part_131 : decode cX6_part 131 = .ok (.iload 4, 2) := by decide +kernel
theorem dX6_part_133 : decode cX6_part 133 = .ok (.iastore, 1) := by decide +kernel
theorem dX6_part_134 : decode cX6_part 134 = .ok (.aload_n 0, 1) := by decide +kernel
theorem dX6_part_135 : decode cX6_part 135 = .ok (.getfield 24, 3) := by decide +kernel
theorem dX6_part_138 : decode cX6_part 138 = .ok (.iload 8, 2) := by decide +kernel
theorem dX6_part_140 : decode cX6_part 140 = .ok (.iload 5, 2) := by decide +kernel
theorem dX6_part_142 : decode cX6_part 142 = .ok (.iastore, 1) := by decide +kernel
theorem dX6_part_143 : decode cX6_part 143 = .ok (.aload_n 0, 1) := by decide +kernel
theorem dX6_part_144 : decode cX6_part 144 = .ok (.getfield 27, 3) := by decide +kernel
theorem dX6_part_147 : decode cX6_part 147 = .ok (.iload 8, 2) := by decide +kernel
theorem dX6_part_149 : decode cX6_part 149 = .ok (.iload 6, 2) := by decide +kernel
theorem dX6_part_151 : decode cX6_part 151 = .ok (.iastore, 1) := by decide +kernel
theorem dX6_part_152 : decode cX6_part 152 = .ok (.aload_n 0, 1) := by decide +kernel
theorem dX6_part_153 : decode cX6_part 153 = .ok (.getfield 30, 3) := by decide +kernel
theorem dX6_part_156 : decode cX6_part 156 = .ok (.iload 8, 2) := by decide +kernel
theorem dX6_part_158 : decode cX6_part 158 = .ok (.lconst 0, 1) := by decide +kernel
theorem dX6_part_159 : decode cX6_part 159 = .ok (.lastore, 1) := by decide +kernel
theorem dX6_part_160 : decode cX6_part 160 = .ok (.aload_n 0, 1) := by decide +kernel
theorem dX6_part_161 : decode cX6_part 161 = .ok (.getfield 34, 3) := by decide +kernel
theorem dX6_part_164 : decode cX6_part 164 = .ok (.iload 8, 2) := by decide +kernel
theorem dX6_part_166 : decode cX6_part 166 = .ok (.iconst (-1), 1) := by decide +kernel
theorem dX6_part_167 : decode cX6_part 167 = .ok (.iastore, 1) := by decide +kernel
theorem dX6_part_168 : decode cX6_part 168 = .ok (.aload_n 0, 1) := by decide +kernel
theorem dX6_part_169 : decode cX6_part 169 = .ok (.getfield 37, 3) := by decide +kernel
theorem dX6_part_172 : decode cX6_part 172 = .ok (.iload 8, 2) := by decide +kernel
theorem dX6_part_174 : decode cX6_part 174 = .ok (.iconst (-1), 1) := by decide +kernel
theorem dX6_part_175 : decode cX6_part 175 = .ok (.iastore, 1) := by decide +kernel
theorem dX6_part_176 : decode cX6_part 176 = .ok (.iconst 0, 1) := by decide +kernel
theorem dX6_part_177 : decode cX6_part 177 = .ok (.istore 9, 2) := by decide +kernel
theorem dX6_part_179 : decode cX6_part 179 = .ok (.iload 9, 2) := by decide +kernel
theorem dX6_part_181 : decode cX6_part 181 = .ok (.bipush 6, 2) := by decide +kernel
theorem dX6_part_183 : decode cX6_part 183 = .ok (.if_icmp .ge 85, 3) := by decide +kernel
theorem dX6_part_186 : decode cX6_part 186 = .ok (.aload_n 0, 1) := by decide +kernel
theorem dX6_part_187 : decode cX6_part 187 = .ok (.getfield 40, 3) := by decide +kernel
theorem dX6_part_190 : decode cX6_part 190 = .ok (.bipush 6, 2) := by decide +kernel
theorem dX6_part_192 : decode cX6_part 192 = .ok (.iload 8, 2) := by decide +kernel
theorem dX6_part_194 : decode cX6_part 194 = .ok (.imul, 1) := by decide +kernel
theorem dX6_part_195 : decode cX6_part 195 = .ok (.iload 9, 2) := by decide +kernel
theorem dX6_part_197 : decode cX6_part 197 = .ok (.iadd, 1) := by decide +kernel
theorem dX6_part_198 : decode cX6_part 198 = .ok (.sipush 200, 3) := by decide +kernel
theorem dX6_part_201 : decode cX6_part 201 = .ok (.iastore, 1) := by decide +kernel
theorem dX6_part_202 : decode cX6_part 202 = .ok (.aload_n 0, 1) := by decide +kernel
theorem dX6_part_203 : decode cX6_part 203 = .ok (.getfield 43, 3) := by decide +kernel
theorem dX6_part_206 : decode cX6_part 206 = .ok (.bipush 6, 2) := by decide +kernel
theorem dX6_part_208 : decode cX6_part 208 = .ok (.iload 8, 2) := by decide +kernel
theorem dX6_part_210 : decode cX6_part 210 = .ok (.imul, 1) := by decide +kernel
theorem dX6_part_211 : decode cX6_part 211 = .ok (.iload 9, 2) := by decide +kernel
theorem dX6_part_213 : decode cX6_part 213 = .ok (.iadd, 1) := by decide +kernel
theorem dX6_part_214 : decode cX6_part 214 = .ok (.iconst 0, 1) := by decide +kernel
theorem dX6_part_215 : decode cX6_part 215 = .ok (.iastore, 1) := by decide +kernel
theorem dX6_part_216 : decode cX6_part 216 = .ok (.iconst 0, 1) := by decide +kernel
theorem dX6_part_217 : decode cX6_part 217 = .ok (.istore 10, 2) := by decide +kernel
theorem dX6_part_219 : decode cX6_part 219 = .ok (.iload 10, 2) := by decide +kernel
theorem dX6_part_221 : decode cX6_part 221 = .ok (.iconst 4, 1) := by decide +kernel
theorem dX6_part_222 : decode cX6_part 222 = .ok (.if_icmp .ge 40, 3) := by decide +kernel
theorem dX6_part_225 : decode cX6_part 225 = .ok (.aload_n 0, 1) := by decide +kernel
theorem dX6_part_226 : decode cX6_part 226 = .ok (.getfield 46, 3) := by decide +kernel
theorem dX6_part_229 : decode cX6_part 229 = .ok (.bipush 24, 2) := by decide +kernel
theorem dX6_part_231 : decode cX6_part 231 = .ok (.iload 8, 2) := by decide +kernel
theorem dX6_part_233 : decode cX6_part 233 = .ok (.imul, 1) := by decide +kernel
theorem dX6_part_234 : decode cX6_part 234 = .ok (.iconst 4, 1) := by decide +kernel
theorem dX6_part_235 : decode cX6_part 235 = .ok (.iload 9, 2) := by decide +kernel
theorem dX6_part_237 : decode cX6_part 237 = .ok (.imul, 1) := by decide +kernel
theorem dX6_part_238 : decode cX6_part 238 = .ok (.iadd, 1) := by decide +kernel
theorem dX6_part_239 : decode cX6_part 239 = .ok (.iload 10, 2) := by decide +kernel
theorem dX6_part_241 : decode cX6_part 241 = .ok (.iadd, 1) := by decide +kernel
theorem dX6_part_242 : decode cX6_part 242 = .ok (.iload 10, 2) := by decide +kernel
theorem dX6_part_244 : decode cX6_part 244 = .ok (.iconst 1, 1) := by decide +kernel
theorem dX6_part_245 : decode cX6_part 245 = .ok (.if_icmp .ne 9, 3) := by decide +kernel
theorem dX6_part_248 : decode cX6_part 248 = .ok (.sipush 1000, 3) := by decide +kernel
theorem dX6_part_251 : decode cX6_part 251 = .ok (.goto 4, 3) := by decide +kernel
theorem dX6_part_254 : decode cX6_part 254 = .ok (.iconst 0, 1) := by decide +kernel
theorem dX6_part_255 : decode cX6_part 255 = .ok (.iastore, 1) := by decide +kernel
theorem dX6_part_256 : decode cX6_part 256 = .ok (.iinc 10 1, 3) := by decide +kernel
theorem dX6_part_259 : decode cX6_part 259 = .ok (.goto (-40), 3) := by decide +kernel
theorem dX6_part_262 : decode cX6_part 262 = .ok (.iinc 9 1, 3) := by decide +kernel
theorem dX6_part_265 : decode cX6_part 265 = .ok (.goto (-86), 3) := by decide +kernel
theorem dX6_part_268 : decode cX6_part 268 = .ok (.aload_n 0, 1) := by decide +kernel
theorem dX6_part_269 : decode cX6_part 269 = .ok (.dup, 1) := by decide +kernel
theorem dX6_part_270 : decode cX6_part 270 = .ok (.getfield 7, 3) := by decide +kernel
theorem dX6_part_273 : decode cX6_part 273 = .ok (.iconst 1, 1) := by decide +kernel
theorem dX6_part_274 : decode cX6_part 274 = .ok (.iadd, 1) := by decide +kernel
theorem dX6_part_275 : decode cX6_part 275 = .ok (.putfield 7, 3) := by decide +kernel
theorem dX6_part_278 : decode cX6_part 278 = .ok (.iload 8, 2) := by decide +kernel
theorem dX6_part_280 : decode cX6_part 280 = .ok (.ireturn, 1) := by decide +kernel
theorem dX6_isPart_0 : decode cX6_isPart 0 = .ok (.iload_n 1, 1) := by decide +kernel
theorem dX6_isPart_1 : decode cX6_isPart 1 = .ok (.iconst 0, 1) := by decide +kernel
theorem dX6_isPart_2 : decode cX6_isPart 2 = .ok (.aload_n 0, 1) := by decide +kernel
theorem dX6_isPart_3 : decode cX6_isPart 3 = .ok (.getfield 7, 3) := by decide +kernel
theorem dX6_isPart_6 : decode cX6_isPart 6 = .ok (.iconst 1, 1) := by decide +kernel
theorem dX6_isPart_7 : decode cX6_isPart 7 = .ok (.isub, 1) := by decide +kernel
theorem dX6_isPart_8 : decode cX6_isPart 8 = .ok (.invokestatic 1, 3) := by decide +kernel
theorem dX6_isPart_11 : decode cX6_isPart 11 = .ok (.ireturn, 1) := by decide +kernel
theorem dX6_steps_0 : decode cX6_steps 0 = .ok (.bipush 6, 2) := by decide +kernel
theorem dX6_steps_2 : decode cX6_steps 2 = .ok (.iload_n 1, 1) := by decide +kernel
theorem dX6_steps_3 : decode cX6_steps 3 = .ok (.imul, 1) := by decide +kernel
theorem dX6_steps_4 : decode cX6_steps 4 = .ok (.istore_n 3, 1) := by decide +kernel
theorem dX6_steps_5 : decode cX6_steps 5 = .ok (.aload_n 0, 1) := by decide +kernel
theorem dX6_steps_6 : decode cX6_steps 6 = .ok (.getfield 11, 3) := by decide +kernel
theorem dX6_steps_9 : decode cX6_steps 9 = .ok (.iload_n 1, 1) := by decide +kernel
theorem dX6_steps_10 : decode cX6_steps 10 = .ok (.iaload, 1) := by decide +kernel
theorem dX6_steps_11 : decode cX6_steps 11 = .ok (.istore 4, 2) := by decide +kernel
theorem dX6_steps_13 : decode cX6_steps 13 = .ok (.aload_n 0, 1) := by decide +kernel
theorem dX6_steps_14 : decode cX6_steps 14 = .ok (.getfield 49, 3) := by decide +kernel
theorem dX6_steps_17 : decode cX6_steps 17 = .ok (.iconst 0, 1) := by decide +kernel
theorem dX6_steps_18 : decode cX6_steps 18 = .ok (.iload_n 2, 1) := by decide +kernel
theorem dX6_steps_19 : decode cX6_steps 19 = .ok (.aload_n 0, 1) := by decide +kernel
theorem dX6_steps_20 : decode cX6_steps 20 = .ok (.getfield 40, 3) := by decide +kernel
theorem dX6_steps_23 : decode cX6_steps 23 = .ok (.iload_n 3, 1) := by decide +kernel
theorem dX6_steps_24 : decode cX6_steps 24 = .ok (.iaload, 1) := by decide +kernel
theorem dX6_steps_25 : decode cX6_steps 25 = .ok (.isub, 1) := by decide +kernel
theorem dX6_steps_26 : decode cX6_steps 26 = .ok (.aload_n 0, 1) := by decide +kernel
theorem dX6_steps_27 : decode cX6_steps 27 = .ok (.getfield 21, 3) := by decide +kernel
theorem dX6_steps_30 : decode cX6_steps 30 = .ok (.iload_n 1, 1) := by decide +kernel
theorem dX6_steps_31 : decode cX6_steps 31 = .ok (.iaload, 1) := by decide +kernel
theorem dX6_steps_32 : decode cX6_steps 32 = .ok (.imul, 1) := by decide +kernel
theorem dX6_steps_33 : decode cX6_steps 33 = .ok (.sipush 1000, 3) := by decide +kernel
theorem dX6_steps_36 : decode cX6_steps 36 = .ok (.idiv, 1) := by decide +kernel
theorem dX6_steps_37 : decode cX6_steps 37 = .ok (.iastore, 1) := by decide +kernel
theorem dX6_steps_38 : decode cX6_steps 38 = .ok (.iconst 0, 1) := by decide +kernel
theorem dX6_steps_39 : decode cX6_steps 39 = .ok (.istore 5, 2) := by decide +kernel
theorem dX6_steps_41 : decode cX6_steps 41 = .ok (.iload 5, 2) := by decide +kernel
theorem dX6_steps_43 : decode cX6_steps 43 = .ok (.iconst 1, 1) := by decide +kernel
theorem dX6_steps_44 : decode cX6_steps 44 = .ok (.iadd, 1) := by decide +kernel
theorem dX6_steps_45 : decode cX6_steps 45 = .ok (.iload 4, 2) := by decide +kernel
theorem dX6_steps_47 : decode cX6_steps 47 = .ok (.if_icmp .ge 50, 3) := by decide +kernel
theorem dX6_steps_50 : decode cX6_steps 50 = .ok (.aload_n 0, 1) := by decide +kernel
theorem dX6_steps_51 : decode cX6_steps 51 = .ok (.getfield 49, 3) := by decide +kernel
theorem dX6_steps_54 : decode cX6_steps 54 = .ok (.iload 5, 2) := by decide +kernel
theorem dX6_steps_56 : decode cX6_steps 56 = .ok (.iconst 1, 1) := by decide +kernel
theorem dX6_steps_57 : decode cX6_steps 57 = .ok (.iadd, 1) := by decide +kernel
theorem dX6_steps_58 : decode cX6_steps 58 = .ok (.aload_n 0, 1) := by decide +kernel
theorem dX6_steps_59 : decode cX6_steps 59 = .ok (.getfield 40, 3) := by decide +kernel
theorem dX6_steps_62 : decode cX6_steps 62 = .ok (.iload_n 3, 1) := by decide +kernel
theorem dX6_steps_63 : decode cX6_steps 63 = .ok (.iload 5, 2) := by decide +kernel
theorem dX6_steps_65 : decode cX6_steps 65 = .ok (.iadd, 1) := by decide +kernel
theorem dX6_steps_66 : decode cX6_steps 66 = .ok (.iaload, 1) := by decide +kernel
theorem dX6_steps_67 : decode cX6_steps 67 = .ok (.aload_n 0, 1) := by decide +kernel
theorem dX6_steps_68 : decode cX6_steps 68 = .ok (.getfield 40, 3) := by decide +kernel
theorem dX6_steps_71 : decode cX6_steps 71 = .ok (.iload_n 3, 1) := by decide +kernel
theorem dX6_steps_72 : decode cX6_steps 72 = .ok (.iload 5, 2) := by decide +kernel
theorem dX6_steps_74 : decode cX6_steps 74 = .ok (.iadd, 1) := by decide +kernel
theorem dX6_steps_75 : decode cX6_steps 75 = .ok (.iconst 1, 1) := by decide +kernel
theorem dX6_steps_76 : decode cX6_steps 76 = .ok (.iadd, 1) := by decide +kernel
theorem dX6_steps_77 : decode cX6_steps 77 = .ok (.iaload, 1) := by decide +kernel
theorem dX6_steps_78 : decode cX6_steps 78 = .ok (.isub, 1) := by decide +kernel
theorem dX6_steps_79 : decode cX6_steps 79 = .ok (.aload_n 0, 1) := by decide +kernel
theorem dX6_steps_80 : decode cX6_steps 80 = .ok (.getfield 18, 3) := by decide +kernel
theorem dX6_steps_83 : decode cX6_steps 83 = .ok (.iload_n 1, 1) := by decide +kernel
theorem dX6_steps_84 : decode cX6_steps 84 = .ok (.iaload, 1) := by decide +kernel
theorem dX6_steps_85 : decode cX6_steps 85 = .ok (.imul, 1) := by decide +kernel
theorem dX6_steps_86 : decode cX6_steps 86 = .ok (.sipush 1000, 3) := by decide +kernel
theorem dX6_steps_89 : decode cX6_steps 89 = .ok (.idiv, 1) := by decide +kernel
theorem dX6_steps_90 : decode cX6_steps 90 = .ok (.iastore, 1) := by decide +kernel
theorem dX6_steps_91 : decode cX6_steps 91 = .ok (.iinc 5 1, 3) := by decide +kernel
theorem dX6_steps_94 : decode cX6_steps 94 = .ok (.goto (-53), 3) := by decide +kernel
theorem dX6_steps_97 : decode cX6_steps 97 = .ok (.aload_n 0, 1) := by decide +kernel
theorem dX6_steps_98 : decode cX6_steps 98 = .ok (.getfield 49, 3) := by decide +kernel
theorem dX6_steps_101 : decode cX6_steps 101 = .ok (.iload 4, 2) := by decide +kernel
theorem dX6_steps_103 : decode cX6_steps 103 = .ok (.iconst 0, 1) := by decide +kernel
theorem dX6_steps_104 : decode cX6_steps 104 = .ok (.iastore, 1) := by decide +kernel
theorem dX6_steps_105 : decode cX6_steps 105 = .ok (.iconst 0, 1) := by decide +kernel
theorem dX6_steps_106 : decode cX6_steps 106 = .ok (.istore 5, 2) := by decide +kernel
theorem dX6_steps_108 : decode cX6_steps 108 = .ok (.iload 5, 2) := by decide +kernel
theorem dX6_steps_110 : decode cX6_steps 110 = .ok (.iload 4, 2) := by decide +kernel
theorem dX6_steps_112 : decode cX6_steps 112 = .ok (.if_icmp .ge 38, 3) := by decide +kernel
theorem dX6_steps_115 : decode cX6_steps 115 = .ok (.aload_n 0, 1) := by decide +kernel
theorem dX6_steps_116 : decode cX6_steps 116 = .ok (.getfield 40, 3) := by decide +kernel
theorem dX6_steps_119 : decode cX6_steps 119 = .ok (.iload_n 3, 1) := by decide +kernel
theorem dX6_steps_120 : decode cX6_steps 120 = .ok (.iload 5, 2) := by decide +kernel
theorem dX6_steps_122 : decode cX6_steps 122 = .ok (.iadd, 1) := by decide +kernel
theorem dX6_steps_123 : decode cX6_steps 123 = .ok (.dup2, 1) := by decide +kernel
theorem dX6_steps_124 : decode cX6_steps 124 = .ok (.iaload, 1) := by decide +kernel
theorem dX6_steps_125 : decode cX6_steps 125 = .ok (.aload_n 0, 1) := by decide +kernel
theorem dX6_steps_126 : decode cX6_steps 126 = .ok (.getfield 49, 3) := by decide +kernel
theorem dX6_steps_129 : decode cX6_steps 129 = .ok (.iload 5, 2) := by decide +kernel
theorem dX6_steps_131 : decode cX6_steps 131 = .ok (.iaload, 1) := by decide +kernel
theorem dX6_steps_132 : decode cX6_steps 132 = .ok (.aload_n 0, 1) := by decide +kernel
theorem dX6_steps_133 : decode cX6_steps 133 = .ok (.getfield 49, 3) := by decide +kernel
theorem dX6_steps_136 : decode cX6_steps 136 = .ok (.iload 5, 2) := by decide +kernel
theorem dX6_steps_138 : decode cX6_steps 138 = .ok (.iconst 1, 1) := by decide +kernel
theorem dX6_steps_139 : decode cX6_steps 139 = .ok (.iadd, 1) := by decide +kernel
theorem dX6_steps_140 : decode cX6_steps 140 = .ok (.iaload, 1) := by decide +kernel
theorem dX6_steps_141 : decode cX6_steps 141 = .ok (.isub, 1) := by decide +kernel
theorem dX6_steps_142 : decode cX6_steps 142 = .ok (.iadd, 1) := by decide +kernel
theorem dX6_steps_143 : decode cX6_steps 143 = .ok (.iastore, 1) := by decide +kernel
theorem dX6_steps_144 : decode cX6_steps 144 = .ok (.iinc 5 1, 3) := by decide +kernel
theorem dX6_steps_147 : decode cX6_steps 147 = .ok (.goto (-39), 3) := by decide +kernel
theorem dX6_steps_150 : decode cX6_steps 150 = .ok (.aload_n 0, 1) := by decide +kernel
theorem dX6_steps_151 : decode cX6_steps 151 = .ok (.getfield 30, 3) := by decide +kernel
theorem dX6_steps_154 : decode cX6_steps 154 = .ok (.iload_n 1, 1) := by decide +kernel
theorem dX6_steps_155 : decode cX6_steps 155 = .ok (.dup2, 1) := by decide +kernel
theorem dX6_steps_156 : decode cX6_steps 156 = .ok (.laload, 1) := by decide +kernel
theorem dX6_steps_157 : decode cX6_steps 157 = .ok (.aload_n 0, 1) := by decide +kernel
theorem dX6_steps_158 : decode cX6_steps 158 = .ok (.getfield 49, 3) := by decide +kernel
theorem dX6_steps_161 : decode cX6_steps 161 = .ok (.iconst 0, 1) := by decide +kernel
theorem dX6_steps_162 : decode cX6_steps 162 = .ok (.iaload, 1) := by decide +kernel
theorem dX6_steps_163 : decode cX6_steps 163 = .ok (.i2l, 1) := by decide +kernel
theorem dX6_steps_164 : decode cX6_steps 164 = .ok (.ladd, 1) := by decide +kernel
theorem dX6_steps_165 : decode cX6_steps 165 = .ok (.lastore, 1) := by decide +kernel
theorem dX6_steps_166 : decode cX6_steps 166 = .ok (.iconst 0, 1) := by decide +kernel
theorem dX6_steps_167 : decode cX6_steps 167 = .ok (.istore 5, 2) := by decide +kernel
theorem dX6_steps_169 : decode cX6_steps 169 = .ok (.iload 5, 2) := by decide +kernel
theorem dX6_steps_171 : decode cX6_steps 171 = .ok (.iload 4, 2) := by decide +kernel
theorem dX6_steps_173 : decode cX6_steps 173 = .ok (.if_icmp .ge 18, 3) := by decide +kernel
theorem dX6_steps_176 : decode cX6_steps 176 = .ok (.aload_n 0, 1) := by decide +kernel
theorem dX6_steps_177 : decode cX6_steps 177 = .ok (.iload_n 1, 1) := by decide +kernel
theorem dX6_steps_178 : decode cX6_steps 178 = .ok (.iload_n 3, 1) := by decide +kernel
theorem dX6_steps_179 : decode cX6_steps 179 = .ok (.iload 5, 2) := by decide +kernel
theorem dX6_steps_181 : decode cX6_steps 181 = .ok (.iadd, 1) := by decide +kernel
theorem dX6_steps_182 : decode cX6_steps 182 = .ok (.invokevirtual 52, 3) := by decide +kernel
theorem dX6_steps_185 : decode cX6_steps 185 = .ok (.iinc 5 1, 3) := by decide +kernel
theorem dX6_steps_188 : decode cX6_steps 188 = .ok (.goto (-19), 3) := by decide +kernel
theorem dX6_steps_191 : decode cX6_steps 191 = .ok (.return_, 1) := by decide +kernel
theorem dX6_turn_0 : decode cX6_turn 0 = .ok (.aload_n 0, 1) := by decide +kernel
theorem dX6_turn_1 : decode cX6_turn 1 = .ok (.getfield 46, 3) := by decide +kernel
theorem dX6_turn_4 : decode cX6_turn 4 = .ok (.iconst 4, 1) := by decide +kernel
theorem dX6_turn_5 : decode cX6_turn 5 = .ok (.iload_n 1, 1) := by decide +kernel
theorem dX6_turn_6 : decode cX6_turn 6 = .ok (.imul, 1) := by decide +kernel
theorem dX6_turn_7 : decode cX6_turn 7 = .ok (.iload_n 2, 1) := by decide +kernel
theorem dX6_turn_8 : decode cX6_turn 8 = .ok (.iadd, 1) := by decide +kernel
theorem dX6_turn_9 : decode cX6_turn 9 = .ok (.iaload, 1) := by decide +kernel
theorem dX6_turn_10 : decode cX6_turn 10 = .ok (.iload 4, 2) := by decide +kernel
theorem dX6_turn_12 : decode cX6_turn 12 = .ok (.if_icmp .ge 16, 3) := by decide +kernel
theorem dX6_turn_15 : decode cX6_turn 15 = .ok (.aload_n 0, 1) := by decide +kernel
theorem dX6_turn_16 : decode cX6_turn 16 = .ok (.getfield 46, 3) := by decide +kernel
theorem dX6_turn_19 : decode cX6_turn 19 = .ok (.iconst 4, 1) := by decide +kernel
theorem dX6_turn_20 : decode cX6_turn 20 = .ok (.iload_n 1, 1) := by decide +kernel
theorem dX6_turn_21 : decode cX6_turn 21 = .ok (.imul, 1) := by decide +kernel
theorem dX6_turn_22 : decode cX6_turn 22 = .ok (.iload_n 2, 1) := by decide +kernel
theorem dX6_turn_23 : decode cX6_turn 23 = .ok (.iadd, 1) := by decide +kernel
theorem dX6_turn_24 : decode cX6_turn 24 = .ok (.iaload, 1) := by decide +kernel
theorem dX6_turn_25 : decode cX6_turn 25 = .ok (.goto 5, 3) := by decide +kernel
theorem dX6_turn_28 : decode cX6_turn 28 = .ok (.iload 4, 2) := by decide +kernel
theorem dX6_turn_30 : decode cX6_turn 30 = .ok (.istore 5, 2) := by decide +kernel
theorem dX6_turn_32 : decode cX6_turn 32 = .ok (.aload_n 0, 1) := by decide +kernel
theorem dX6_turn_33 : decode cX6_turn 33 = .ok (.getfield 46, 3) := by decide +kernel
theorem dX6_turn_36 : decode cX6_turn 36 = .ok (.iconst 4, 1) := by decide +kernel
theorem dX6_turn_37 : decode cX6_turn 37 = .ok (.iload_n 1, 1) := by decide +kernel
theorem dX6_turn_38 : decode cX6_turn 38 = .ok (.imul, 1) := by decide +kernel
theorem dX6_turn_39 : decode cX6_turn 39 = .ok (.iload_n 2, 1) := by decide +kernel
theorem dX6_turn_40 : decode cX6_turn 40 = .ok (.iadd, 1) := by decide +kernel
theorem dX6_turn_41 : decode cX6_turn 41 = .ok (.dup2, 1) := by decide +kernel
theorem dX6_turn_42 : decode cX6_turn 42 = .ok (.iaload, 1) := by decide +kernel
theorem dX6_turn_43 : decode cX6_turn 43 = .ok (.iload 5, 2) := by decide +kernel
theorem dX6_turn_45 : decode cX6_turn 45 = .ok (.isub, 1) := by decide +kernel
theorem dX6_turn_46 : decode cX6_turn 46 = .ok (.iastore, 1) := by decide +kernel
theorem dX6_turn_47 : decode cX6_turn 47 = .ok (.aload_n 0, 1) := by decide +kernel
theorem dX6_turn_48 : decode cX6_turn 48 = .ok (.getfield 46, 3) := by decide +kernel
theorem dX6_turn_51 : decode cX6_turn 51 = .ok (.iconst 4, 1) := by decide +kernel
theorem dX6_turn_52 : decode cX6_turn 52 = .ok (.iload_n 1, 1) := by decide +kernel
theorem dX6_turn_53 : decode cX6_turn 53 = .ok (.imul, 1) := by decide +kernel
theorem dX6_turn_54 : decode cX6_turn 54 = .ok (.iload_n 3, 1) := by decide +kernel
theorem dX6_turn_55 : decode cX6_turn 55 = .ok (.iadd, 1) := by decide +kernel
theorem dX6_turn_56 : decode cX6_turn 56 = .ok (.dup2, 1) := by decide +kernel
theorem dX6_turn_57 : decode cX6_turn 57 = .ok (.iaload, 1) := by decide +kernel
theorem dX6_turn_58 : decode cX6_turn 58 = .ok (.iload 5, 2) := by decide +kernel
theorem dX6_turn_60 : decode cX6_turn 60 = .ok (.iadd, 1) := by decide +kernel
theorem dX6_turn_61 : decode cX6_turn 61 = .ok (.iastore, 1) := by decide +kernel
theorem dX6_turn_62 : decode cX6_turn 62 = .ok (.iload 5, 2) := by decide +kernel
theorem dX6_turn_64 : decode cX6_turn 64 = .ok (.ireturn, 1) := by decide +kernel
theorem dX6_change_0 : decode cX6_change 0 = .ok (.aload_n 0, 1) := by decide +kernel
theorem dX6_change_1 : decode cX6_change 1 = .ok (.getfield 40, 3) := by decide +kernel
theorem dX6_change_4 : decode cX6_change 4 = .ok (.iload_n 2, 1) := by decide +kernel
theorem dX6_change_5 : decode cX6_change 5 = .ok (.iaload, 1) := by decide +kernel
theorem dX6_change_6 : decode cX6_change 6 = .ok (.istore_n 3, 1) := by decide +kernel
theorem dX6_change_7 : decode cX6_change 7 = .ok (.iload_n 3, 1) := by decide +kernel
theorem dX6_change_8 : decode cX6_change 8 = .ok (.sipush 7300, 3) := by decide +kernel
theorem dX6_change_11 : decode cX6_change 11 = .ok (.if_icmp .le 58, 3) := by decide +kernel
theorem dX6_change_14 : decode cX6_change 14 = .ok (.iload_n 3, 1) := by decide +kernel
theorem dX6_change_15 : decode cX6_change 15 = .ok (.sipush 7300, 3) := by decide +kernel
theorem dX6_change_18 : decode cX6_change 18 = .ok (.isub, 1) := by decide +kernel
theorem dX6_change_19 : decode cX6_change 19 = .ok (.bipush 10, 2) := by decide +kernel
theorem dX6_change_21 : decode cX6_change 21 = .ok (.idiv, 1) := by decide +kernel
theorem dX6_change_22 : decode cX6_change 22 = .ok (.istore 4, 2) := by decide +kernel
theorem dX6_change_24 : decode cX6_change 24 = .ok (.iload 4, 2) := by decide +kernel
theorem dX6_change_26 : decode cX6_change 26 = .ok (.aload_n 0, 1) := by decide +kernel
theorem dX6_change_27 : decode cX6_change 27 = .ok (.iload_n 2, 1) := by decide +kernel
theorem dX6_change_28 : decode cX6_change 28 = .ok (.iconst 1, 1) := by decide +kernel
theorem dX6_change_29 : decode cX6_change 29 = .ok (.iconst 0, 1) := by decide +kernel
theorem dX6_change_30 : decode cX6_change 30 = .ok (.iload 4, 2) := by decide +kernel
theorem dX6_change_32 : decode cX6_change 32 = .ok (.invokevirtual 56, 3) := by decide +kernel
theorem dX6_change_35 : decode cX6_change 35 = .ok (.isub, 1) := by decide +kernel
theorem dX6_change_36 : decode cX6_change 36 = .ok (.istore 4, 2) := by decide +kernel
theorem dX6_change_38 : decode cX6_change 38 = .ok (.iload 4, 2) := by decide +kernel
theorem dX6_change_40 : decode cX6_change 40 = .ok (.aload_n 0, 1) := by decide +kernel
theorem dX6_change_41 : decode cX6_change 41 = .ok (.iload_n 2, 1) := by decide +kernel
theorem dX6_change_42 : decode cX6_change 42 = .ok (.iconst 2, 1) := by decide +kernel
theorem dX6_change_43 : decode cX6_change 43 = .ok (.iconst 0, 1) := by decide +kernel
theorem dX6_change_44 : decode cX6_change 44 = .ok (.iload 4, 2) := by decide +kernel
theorem dX6_change_46 : decode cX6_change 46 = .ok (.invokevirtual 56, 3) := by decide +kernel
theorem dX6_change_49 : decode cX6_change 49 = .ok (.isub, 1) := by decide +kernel
theorem dX6_change_50 : decode cX6_change 50 = .ok (.istore 4, 2) := by decide +kernel
theorem dX6_change_52 : decode cX6_change 52 = .ok (.iload 4, 2) := by decide +kernel
theorem dX6_change_54 : decode cX6_change 54 = .ok (.aload_n 0, 1) := by decide +kernel
theorem dX6_change_55 : decode cX6_change 55 = .ok (.iload_n 2, 1) := by decide +kernel
theorem dX6_change_56 : decode cX6_change 56 = .ok (.iconst 3, 1) := by decide +kernel
theorem dX6_change_57 : decode cX6_change 57 = .ok (.iconst 0, 1) := by decide +kernel
theorem dX6_change_58 : decode cX6_change 58 = .ok (.iload 4, 2) := by decide +kernel
theorem dX6_change_60 : decode cX6_change 60 = .ok (.invokevirtual 56, 3) := by decide +kernel
theorem dX6_change_63 : decode cX6_change 63 = .ok (.isub, 1) := by decide +kernel
theorem dX6_change_64 : decode cX6_change 64 = .ok (.istore 4, 2) := by decide +kernel
theorem dX6_change_66 : decode cX6_change 66 = .ok (.goto 119, 3) := by decide +kernel
theorem dX6_change_69 : decode cX6_change 69 = .ok (.iload_n 3, 1) := by decide +kernel
theorem dX6_change_70 : decode cX6_change 70 = .ok (.sipush 5500, 3) := by decide +kernel
theorem dX6_change_73 : decode cX6_change 73 = .ok (.if_icmp .lt 21, 3) := by decide +kernel
theorem dX6_change_76 : decode cX6_change 76 = .ok (.aload_n 0, 1) := by decide +kernel
theorem dX6_change_77 : decode cX6_change 77 = .ok (.iload_n 2, 1) := by decide +kernel
theorem dX6_change_78 : decode cX6_change 78 = .ok (.iconst 0, 1) := by decide +kernel
theorem dX6_change_79 : decode cX6_change 79 = .ok (.iconst 1, 1) := by decide +kernel
theorem dX6_change_80 : decode cX6_change 80 = .ok (.aload_n 0, 1) := by decide +kernel
theorem dX6_change_81 : decode cX6_change 81 = .ok (.getfield 24, 3) := by decide +kernel
theorem dX6_change_84 : decode cX6_change 84 = .ok (.iload_n 1, 1) := by decide +kernel
theorem dX6_change_85 : decode cX6_change 85 = .ok (.iaload, 1) := by decide +kernel
theorem dX6_change_86 : decode cX6_change 86 = .ok (.invokevirtual 56, 3) := by decide +kernel
theorem dX6_change_89 : decode cX6_change 89 = .ok (.istore 4, 2) := by decide +kernel
theorem dX6_change_91 : decode cX6_change 91 = .ok (.goto 94, 3) := by decide +kernel
theorem dX6_change_94 : decode cX6_change 94 = .ok (.iload_n 3, 1) := by decide +kernel
theorem dX6_change_95 : decode cX6_change 95 = .ok (.sipush 3000, 3) := by decide +kernel
theorem dX6_change_98 : decode cX6_change 98 = .ok (.if_icmp .lt 21, 3) := by decide +kernel
theorem dX6_change_101 : decode cX6_change 101 = .ok (.aload_n 0, 1) := by decide +kernel
theorem dX6_change_102 : decode cX6_change 102 = .ok (.iload_n 2, 1) := by decide +kernel
theorem dX6_change_103 : decode cX6_change 103 = .ok (.iconst 0, 1) := by decide +kernel
theorem dX6_change_104 : decode cX6_change 104 = .ok (.iconst 2, 1) := by decide +kernel
theorem dX6_change_105 : decode cX6_change 105 = .ok (.aload_n 0, 1) := by decide +kernel
theorem dX6_change_106 : decode cX6_change 106 = .ok (.getfield 27, 3) := by decide +kernel
theorem dX6_change_109 : decode cX6_change 109 = .ok (.iload_n 1, 1) := by decide +kernel
theorem dX6_change_110 : decode cX6_change 110 = .ok (.iaload, 1) := by decide +kernel
theorem dX6_change_111 : decode cX6_change 111 = .ok (.invokevirtual 56, 3) := by decide +kernel
theorem dX6_change_114 : decode cX6_change 114 = .ok (.istore 4, 2) := by decide +kernel
theorem dX6_change_116 : decode cX6_change 116 = .ok (.goto 69, 3) := by decide +kernel
theorem dX6_change_119 : decode cX6_change 119 = .ok (.aload_n 0, 1) := by decide +kernel
theorem dX6_change_120 : decode cX6_change 120 = .ok (.getfield 46, 3) := by decide +kernel
theorem dX6_change_123 : decode cX6_change 123 = .ok (.iconst 4, 1) := by decide +kernel
theorem dX6_change_124 : decode cX6_change 124 = .ok (.iload_n 2, 1) := by decide +kernel
theorem dX6_change_125 : decode cX6_change 125 = .ok (.imul, 1) := by decide +kernel
theorem dX6_change_126 : decode cX6_change 126 = .ok (.iaload, 1) := by decide +kernel
theorem dX6_change_127 : decode cX6_change 127 = .ok (.aload_n 0, 1) := by decide +kernel
theorem dX6_change_128 : decode cX6_change 128 = .ok (.getfield 46, 3) := by decide +kernel
theorem dX6_change_131 : decode cX6_change 131 = .ok (.iconst 4, 1) := by decide +kernel
theorem dX6_change_132 : decode cX6_change 132 = .ok (.iload_n 2, 1) := by decide +kernel
theorem dX6_change_133 : decode cX6_change 133 = .ok (.imul, 1) := by decide +kernel
theorem dX6_change_134 : decode cX6_change 134 = .ok (.iconst 3, 1) := by decide +kernel
theorem dX6_change_135 : decode cX6_change 135 = .ok (.iadd, 1) := by decide +kernel
theorem dX6_change_136 : decode cX6_change 136 = .ok (.iaload, 1) := by decide +kernel
theorem dX6_change_137 : decode cX6_change 137 = .ok (.iadd, 1) := by decide +kernel
theorem dX6_change_138 : decode cX6_change 138 = .ok (.sipush 3000, 3) := by decide +kernel
theorem dX6_change_141 : decode cX6_change 141 = .ok (.iload_n 3, 1) := by decide +kernel
theorem dX6_change_142 : decode cX6_change 142 = .ok (.isub, 1) := by decide +kernel
theorem dX6_change_143 : decode cX6_change 143 = .ok (.imul, 1) := by decide +kernel
theorem dX6_change_144 : decode cX6_change 144 = .ok (.sipush 2600, 3) := by decide +kernel
theorem dX6_change_147 : decode cX6_change 147 = .ok (.idiv, 1) := by decide +kernel
theorem dX6_change_148 : decode cX6_change 148 = .ok (.istore 4, 2) := by decide +kernel
theorem dX6_change_150 : decode cX6_change 150 = .ok (.iload 4, 2) := by decide +kernel
theorem dX6_change_152 : decode cX6_change 152 = .ok (.aload_n 0, 1) := by decide +kernel
theorem dX6_change_153 : decode cX6_change 153 = .ok (.getfield 46, 3) := by decide +kernel
theorem dX6_change_156 : decode cX6_change 156 = .ok (.iconst 4, 1) := by decide +kernel
theorem dX6_change_157 : decode cX6_change 157 = .ok (.iload_n 2, 1) := by decide +kernel
theorem dX6_change_158 : decode cX6_change 158 = .ok (.imul, 1) := by decide +kernel
theorem dX6_change_159 : decode cX6_change 159 = .ok (.iconst 3, 1) := by decide +kernel
theorem dX6_change_160 : decode cX6_change 160 = .ok (.iadd, 1) := by decide +kernel
theorem dX6_change_161 : decode cX6_change 161 = .ok (.iaload, 1) := by decide +kernel
theorem dX6_change_162 : decode cX6_change 162 = .ok (.isub, 1) := by decide +kernel
theorem dX6_change_163 : decode cX6_change 163 = .ok (.istore 5, 2) := by decide +kernel
theorem dX6_change_165 : decode cX6_change 165 = .ok (.iload 5, 2) := by decide +kernel
theorem dX6_change_167 : decode cX6_change 167 = .ok (.ifCond .le 15, 3) := by decide +kernel
theorem dX6_change_170 : decode cX6_change 170 = .ok (.aload_n 0, 1) := by decide +kernel
theorem dX6_change_171 : decode cX6_change 171 = .ok (.iload_n 2, 1) := by decide +kernel
theorem dX6_change_172 : decode cX6_change 172 = .ok (.iconst 0, 1) := by decide +kernel
theorem dX6_change_173 : decode cX6_change 173 = .ok (.iconst 3, 1) := by decide +kernel
theorem dX6_change_174 : decode cX6_change 174 = .ok (.iload 5, 2) := by decide +kernel
theorem dX6_change_176 : decode cX6_change 176 = .ok (.invokevirtual 56, 3) := by decide +kernel
theorem dX6_change_179 : decode cX6_change 179 = .ok (.goto 4, 3) := by decide +kernel
theorem dX6_change_182 : decode cX6_change 182 = .ok (.iconst 0, 1) := by decide +kernel
theorem dX6_change_183 : decode cX6_change 183 = .ok (.istore 6, 2) := by decide +kernel
theorem dX6_change_185 : decode cX6_change 185 = .ok (.iload_n 3, 1) := by decide +kernel
theorem dX6_change_186 : decode cX6_change 186 = .ok (.sipush 1500, 3) := by decide +kernel
theorem dX6_change_189 : decode cX6_change 189 = .ok (.sipush 6500, 3) := by decide +kernel
theorem dX6_change_192 : decode cX6_change 192 = .ok (.invokestatic 1, 3) := by decide +kernel
theorem dX6_change_195 : decode cX6_change 195 = .ok (.ifCond .eq 33, 3) := by decide +kernel
theorem dX6_change_198 : decode cX6_change 198 = .ok (.aload_n 0, 1) := by decide +kernel
theorem dX6_change_199 : decode cX6_change 199 = .ok (.getfield 46, 3) := by decide +kernel
theorem dX6_change_202 : decode cX6_change 202 = .ok (.iconst 4, 1) := by decide +kernel
theorem dX6_change_203 : decode cX6_change 203 = .ok (.iload_n 2, 1) := by decide +kernel
theorem dX6_change_204 : decode cX6_change 204 = .ok (.imul, 1) := by decide +kernel
theorem dX6_change_205 : decode cX6_change 205 = .ok (.iconst 3, 1) := by decide +kernel
theorem dX6_change_206 : decode cX6_change 206 = .ok (.iadd, 1) := by decide +kernel
theorem dX6_change_207 : decode cX6_change 207 = .ok (.iaload, 1) := by decide +kernel
theorem dX6_change_208 : decode cX6_change 208 = .ok (.ifCond .le 20, 3) := by decide +kernel
theorem dX6_change_211 : decode cX6_change 211 = .ok (.aload_n 0, 1) := by decide +kernel
theorem dX6_change_212 : decode cX6_change 212 = .ok (.getfield 43, 3) := by decide +kernel
theorem dX6_change_215 : decode cX6_change 215 = .ok (.iload_n 2, 1) := by decide +kernel
theorem dX6_change_216 : decode cX6_change 216 = .ok (.dup2, 1) := by decide +kernel
theorem dX6_change_217 : decode cX6_change 217 = .ok (.iaload, 1) := by decide +kernel
theorem dX6_change_218 : decode cX6_change 218 = .ok (.iload_n 3, 1) := by decide +kernel
theorem dX6_change_219 : decode cX6_change 219 = .ok (.sipush 1500, 3) := by decide +kernel
theorem dX6_change_222 : decode cX6_change 222 = .ok (.isub, 1) := by decide +kernel
theorem dX6_change_223 : decode cX6_change 223 = .ok (.bipush 100, 2) := by decide +kernel
theorem dX6_change_225 : decode cX6_change 225 = .ok (.idiv, 1) := by decide +kernel
theorem dX6_change_226 : decode cX6_change 226 = .ok (.iadd, 1) := by decide +kernel
theorem dX6_change_227 : decode cX6_change 227 = .ok (.iastore, 1) := by decide +kernel
theorem dX6_change_228 : decode cX6_change 228 = .ok (.aload_n 0, 1) := by decide +kernel
theorem dX6_change_229 : decode cX6_change 229 = .ok (.getfield 43, 3) := by decide +kernel
theorem dX6_change_232 : decode cX6_change 232 = .ok (.iload_n 2, 1) := by decide +kernel
theorem dX6_change_233 : decode cX6_change 233 = .ok (.aload_n 0, 1) := by decide +kernel
theorem dX6_change_234 : decode cX6_change 234 = .ok (.getfield 46, 3) := by decide +kernel
theorem dX6_change_237 : decode cX6_change 237 = .ok (.iconst 4, 1) := by decide +kernel
theorem dX6_change_238 : decode cX6_change 238 = .ok (.iload_n 2, 1) := by decide +kernel
theorem dX6_change_239 : decode cX6_change 239 = .ok (.imul, 1) := by decide +kernel
theorem dX6_change_240 : decode cX6_change 240 = .ok (.iaload, 1) := by decide +kernel
theorem dX6_change_241 : decode cX6_change 241 = .ok (.sipush 500, 3) := by decide +kernel
theorem dX6_change_244 : decode cX6_change 244 = .ok (.if_icmp .le 7, 3) := by decide +kernel
theorem dX6_change_247 : decode cX6_change 247 = .ok (.iconst 0, 1) := by decide +kernel
theorem dX6_change_248 : decode cX6_change 248 = .ok (.goto 9, 3) := by decide +kernel
theorem dX6_change_251 : decode cX6_change 251 = .ok (.aload_n 0, 1) := by decide +kernel
theorem dX6_change_252 : decode cX6_change 252 = .ok (.getfield 43, 3) := by decide +kernel
theorem dX6_change_255 : decode cX6_change 255 = .ok (.iload_n 2, 1) := by decide +kernel
theorem dX6_change_256 : decode cX6_change 256 = .ok (.iaload, 1) := by decide +kernel
theorem dX6_change_257 : decode cX6_change 257 = .ok (.iastore, 1) := by decide +kernel
theorem dX6_change_258 : decode cX6_change 258 = .ok (.return_, 1) := by decide +kernel
theorem dX6_hardness_0 : decode cX6_hardness 0 = .ok (.aload_n 0, 1) := by decide +kernel
theorem dX6_hardness_1 : decode cX6_hardness 1 = .ok (.getfield 43, 3) := by decide +kernel
theorem dX6_hardness_4 : decode cX6_hardness 4 = .ok (.iload_n 1, 1) := by decide +kernel
theorem dX6_hardness_5 : decode cX6_hardness 5 = .ok (.iaload, 1) := by decide +kernel
theorem dX6_hardness_6 : decode cX6_hardness 6 = .ok (.bipush 50, 2) := by decide +kernel
theorem dX6_hardness_8 : decode cX6_hardness 8 = .ok (.idiv, 1) := by decide +kernel
theorem dX6_hardness_9 : decode cX6_hardness 9 = .ok (.sipush 400, 3) := by decide +kernel
theorem dX6_hardness_12 : decode cX6_hardness 12 = .ok (.if_icmp .ge 15, 3) := by decide +kernel
theorem dX6_hardness_15 : decode cX6_hardness 15 = .ok (.aload_n 0, 1) := by decide +kernel
theorem dX6_hardness_16 : decode cX6_hardness 16 = .ok (.getfield 43, 3) := by decide +kernel
theorem dX6_hardness_19 : decode cX6_hardness 19 = .ok (.iload_n 1, 1) := by decide +kernel
theorem dX6_hardness_20 : decode cX6_hardness 20 = .ok (.iaload, 1) := by decide +kernel
theorem dX6_hardness_21 : decode cX6_hardness 21 = .ok (.bipush 50, 2) := by decide +kernel
theorem dX6_hardness_23 : decode cX6_hardness 23 = .ok (.idiv, 1) := by decide +kernel
theorem dX6_hardness_24 : decode cX6_hardness 24 = .ok (.goto 6, 3) := by decide +kernel
theorem dX6_hardness_27 : decode cX6_hardness 27 = .ok (.sipush 400, 3) := by decide +kernel
theorem dX6_hardness_30 : decode cX6_hardness 30 = .ok (.istore_n 2, 1) := by decide +kernel
theorem dX6_hardness_31 : decode cX6_hardness 31 = .ok (.sipush 800, 3) := by decide +kernel
theorem dX6_hardness_34 : decode cX6_hardness 34 = .ok (.iload_n 2, 1) := by decide +kernel
theorem dX6_hardness_35 : decode cX6_hardness 35 = .ok (.isub, 1) := by decide +kernel
theorem dX6_hardness_36 : decode cX6_hardness 36 = .ok (.istore_n 3, 1) := by decide +kernel
theorem dX6_hardness_37 : decode cX6_hardness 37 = .ok (.sipush 200, 3) := by decide +kernel
theorem dX6_hardness_40 : decode cX6_hardness 40 = .ok (.aload_n 0, 1) := by decide +kernel
theorem dX6_hardness_41 : decode cX6_hardness 41 = .ok (.getfield 46, 3) := by decide +kernel
theorem dX6_hardness_44 : decode cX6_hardness 44 = .ok (.iconst 4, 1) := by decide +kernel
theorem dX6_hardness_45 : decode cX6_hardness 45 = .ok (.iload_n 1, 1) := by decide +kernel
theorem dX6_hardness_46 : decode cX6_hardness 46 = .ok (.imul, 1) := by decide +kernel
theorem dX6_hardness_47 : decode cX6_hardness 47 = .ok (.iaload, 1) := by decide +kernel
theorem dX6_hardness_48 : decode cX6_hardness 48 = .ok (.imul, 1) := by decide +kernel
theorem dX6_hardness_49 : decode cX6_hardness 49 = .ok (.sipush 250, 3) := by decide +kernel
theorem dX6_hardness_52 : decode cX6_hardness 52 = .ok (.aload_n 0, 1) := by decide +kernel
theorem dX6_hardness_53 : decode cX6_hardness 53 = .ok (.getfield 46, 3) := by decide +kernel
theorem dX6_hardness_56 : decode cX6_hardness 56 = .ok (.iconst 4, 1) := by decide +kernel
theorem dX6_hardness_57 : decode cX6_hardness 57 = .ok (.iload_n 1, 1) := by decide +kernel
theorem dX6_hardness_58 : decode cX6_hardness 58 = .ok (.imul, 1) := by decide +kernel
theorem dX6_hardness_59 : decode cX6_hardness 59 = .ok (.iconst 1, 1) := by decide +kernel
theorem dX6_hardness_60 : decode cX6_hardness 60 = .ok (.iadd, 1) := by decide +kernel
theorem dX6_hardness_61 : decode cX6_hardness 61 = .ok (.iaload, 1) := by decide +kernel
theorem dX6_hardness_62 : decode cX6_hardness 62 = .ok (.imul, 1) := by decide +kernel
theorem dX6_hardness_63 : decode cX6_hardness 63 = .ok (.iadd, 1) := by decide +kernel
theorem dX6_hardness_64 : decode cX6_hardness 64 = .ok (.sipush 450, 3) := by decide +kernel
theorem dX6_hardness_67 : decode cX6_hardness 67 = .ok (.aload_n 0, 1) := by decide +kernel
theorem dX6_hardness_68 : decode cX6_hardness 68 = .ok (.getfield 46, 3) := by decide +kernel
theorem dX6_hardness_71 : decode cX6_hardness 71 = .ok (.iconst 4, 1) := by decide +kernel
theorem dX6_hardness_72 : decode cX6_hardness 72 = .ok (.iload_n 1, 1) := by decide +kernel
theorem dX6_hardness_73 : decode cX6_hardness 73 = .ok (.imul, 1) := by decide +kernel
theorem dX6_hardness_74 : decode cX6_hardness 74 = .ok (.iconst 2, 1) := by decide +kernel
theorem dX6_hardness_75 : decode cX6_hardness 75 = .ok (.iadd, 1) := by decide +kernel
theorem dX6_hardness_76 : decode cX6_hardness 76 = .ok (.iaload, 1) := by decide +kernel
theorem dX6_hardness_77 : decode cX6_hardness 77 = .ok (.imul, 1) := by decide +kernel
theorem dX6_hardness_78 : decode cX6_hardness 78 = .ok (.iadd, 1) := by decide +kernel
theorem dX6_hardness_79 : decode cX6_hardness 79 = .ok (.iload_n 3, 1) := by decide +kernel
theorem dX6_hardness_80 : decode cX6_hardness 80 = .ok (.aload_n 0, 1) := by decide +kernel
theorem dX6_hardness_81 : decode cX6_hardness 81 = .ok (.getfield 46, 3) := by decide +kernel
theorem dX6_hardness_84 : decode cX6_hardness 84 = .ok (.iconst 4, 1) := by decide +kernel
theorem dX6_hardness_85 : decode cX6_hardness 85 = .ok (.iload_n 1, 1) := by decide +kernel
theorem dX6_hardness_86 : decode cX6_hardness 86 = .ok (.imul, 1) := by decide +kernel
theorem dX6_hardness_87 : decode cX6_hardness 87 = .ok (.iconst 3, 1) := by decide +kernel
theorem dX6_hardness_88 : decode cX6_hardness 88 = .ok (.iadd, 1) := by decide +kernel
theorem dX6_hardness_89 : decode cX6_hardness 89 = .ok (.iaload, 1) := by decide +kernel
theorem dX6_hardness_90 : decode cX6_hardness 90 = .ok (.imul, 1) := by decide +kernel
theorem dX6_hardness_91 : decode cX6_hardness 91 = .ok (.iadd, 1) := by decide +kernel
theorem dX6_hardness_92 : decode cX6_hardness 92 = .ok (.sipush 1000, 3) := by decide +kernel
theorem dX6_hardness_95 : decode cX6_hardness 95 = .ok (.idiv, 1) := by decide +kernel
theorem dX6_hardness_96 : decode cX6_hardness 96 = .ok (.ireturn, 1) := by decide +kernel
theorem dX6_innermost_0 : decode cX6_innermost 0 = .ok (.aload_n 0, 1) := by decide +kernel
theorem dX6_innermost_1 : decode cX6_innermost 1 = .ok (.getfield 40, 3) := by decide +kernel
theorem dX6_innermost_4 : decode cX6_innermost 4 = .ok (.bipush 6, 2) := by decide +kernel
theorem dX6_innermost_6 : decode cX6_innermost 6 = .ok (.iload_n 1, 1) := by decide +kernel
theorem dX6_innermost_7 : decode cX6_innermost 7 = .ok (.imul, 1) := by decide +kernel
theorem dX6_innermost_8 : decode cX6_innermost 8 = .ok (.aload_n 0, 1) := by decide +kernel
theorem dX6_innermost_9 : decode cX6_innermost 9 = .ok (.getfield 11, 3) := by decide +kernel
theorem dX6_innermost_12 : decode cX6_innermost 12 = .ok (.iload_n 1, 1) := by decide +kernel
theorem dX6_innermost_13 : decode cX6_innermost 13 = .ok (.iaload, 1) := by decide +kernel
theorem dX6_innermost_14 : decode cX6_innermost 14 = .ok (.iadd, 1) := by decide +kernel
theorem dX6_innermost_15 : decode cX6_innermost 15 = .ok (.iconst 1, 1) := by decide +kernel
theorem dX6_innermost_16 : decode cX6_innermost 16 = .ok (.isub, 1) := by decide +kernel
theorem dX6_innermost_17 : decode cX6_innermost 17 = .ok (.iaload, 1) := by decide +kernel
theorem dX6_innermost_18 : decode cX6_innermost 18 = .ok (.ireturn, 1) := by decide +kernel
theorem dX6_step_0 : decode cX6_step 0 = .ok (.aload_n 0, 1) := by decide +kernel
theorem dX6_step_1 : decode cX6_step 1 = .ok (.iload_n 1, 1) := by decide +kernel
theorem dX6_step_2 : decode cX6_step 2 = .ok (.invokevirtual 60, 3) := by decide +kernel
theorem dX6_step_5 : decode cX6_step 5 = .ok (.ifCond .eq 27, 3) := by decide +kernel
theorem dX6_step_8 : decode cX6_step 8 = .ok (.iload_n 2, 1) := by decide +kernel
theorem dX6_step_9 : decode cX6_step 9 = .ok (.sipush (-1000), 3) := by decide +kernel
theorem dX6_step_12 : decode cX6_step 12 = .ok (.sipush 12000, 3) := by decide +kernel
theorem dX6_step_15 : decode cX6_step 15 = .ok (.invokestatic 1, 3) := by decide +kernel
theorem dX6_step_18 : decode cX6_step 18 = .ok (.ifCond .eq 14, 3) := by decide +kernel
theorem dX6_step_21 : decode cX6_step 21 = .ok (.iload_n 3, 1) := by decide +kernel
theorem dX6_step_22 : decode cX6_step 22 = .ok (.iconst 1, 1) := by decide +kernel
theorem dX6_step_23 : decode cX6_step 23 = .ok (.sipush 200, 3) := by decide +kernel
theorem dX6_step_26 : decode cX6_step 26 = .ok (.invokestatic 1, 3) := by decide +kernel
theorem dX6_step_29 : decode cX6_step 29 = .ok (.ifCond .ne 6, 3) := by decide +kernel
theorem dX6_step_32 : decode cX6_step 32 = .ok (.bipush (-2), 2) := by decide +kernel
theorem dX6_step_34 : decode cX6_step 34 = .ok (.ireturn, 1) := by decide +kernel
theorem dX6_step_35 : decode cX6_step 35 = .ok (.aload_n 0, 1) := by decide +kernel
theorem dX6_step_36 : decode cX6_step 36 = .ok (.getfield 34, 3) := by decide +kernel
theorem dX6_step_39 : decode cX6_step 39 = .ok (.iload_n 1, 1) := by decide +kernel
theorem dX6_step_40 : decode cX6_step 40 = .ok (.iaload, 1) := by decide +kernel
theorem dX6_step_41 : decode cX6_step 41 = .ok (.iconst (-1), 1) := by decide +kernel
theorem dX6_step_42 : decode cX6_step 42 = .ok (.if_icmp .eq 6, 3) := by decide +kernel
theorem dX6_step_45 : decode cX6_step 45 = .ok (.bipush (-3), 2) := by decide +kernel
theorem dX6_step_47 : decode cX6_step 47 = .ok (.ireturn, 1) := by decide +kernel
theorem dX6_step_48 : decode cX6_step 48 = .ok (.iconst 0, 1) := by decide +kernel
theorem dX6_step_49 : decode cX6_step 49 = .ok (.istore 4, 2) := by decide +kernel
theorem dX6_step_51 : decode cX6_step 51 = .ok (.iload 4, 2) := by decide +kernel
theorem dX6_step_53 : decode cX6_step 53 = .ok (.iload_n 3, 1) := by decide +kernel
theorem dX6_step_54 : decode cX6_step 54 = .ok (.if_icmp .ge 15, 3) := by decide +kernel
theorem dX6_step_57 : decode cX6_step 57 = .ok (.aload_n 0, 1) := by decide +kernel
theorem dX6_step_58 : decode cX6_step 58 = .ok (.iload_n 1, 1) := by decide +kernel
theorem dX6_step_59 : decode cX6_step 59 = .ok (.iload_n 2, 1) := by decide +kernel
theorem dX6_step_60 : decode cX6_step 60 = .ok (.invokevirtual 64, 3) := by decide +kernel
theorem dX6_step_63 : decode cX6_step 63 = .ok (.iinc 4 1, 3) := by decide +kernel
theorem dX6_step_66 : decode cX6_step 66 = .ok (.goto (-15), 3) := by decide +kernel
theorem dX6_step_69 : decode cX6_step 69 = .ok (.aload_n 0, 1) := by decide +kernel
theorem dX6_step_70 : decode cX6_step 70 = .ok (.iload_n 1, 1) := by decide +kernel
theorem dX6_step_71 : decode cX6_step 71 = .ok (.invokevirtual 67, 3) := by decide +kernel
theorem dX6_step_74 : decode cX6_step 74 = .ok (.ireturn, 1) := by decide +kernel
theorem dX6_shell_0 : decode cX6_shell 0 = .ok (.aload_n 0, 1) := by decide +kernel
theorem dX6_shell_1 : decode cX6_shell 1 = .ok (.iload_n 1, 1) := by decide +kernel
theorem dX6_shell_2 : decode cX6_shell 2 = .ok (.invokevirtual 60, 3) := by decide +kernel
theorem dX6_shell_5 : decode cX6_shell 5 = .ok (.ifCond .eq 29, 3) := by decide +kernel
theorem dX6_shell_8 : decode cX6_shell 8 = .ok (.iload_n 2, 1) := by decide +kernel
theorem dX6_shell_9 : decode cX6_shell 9 = .ok (.iconst 0, 1) := by decide +kernel
theorem dX6_shell_10 : decode cX6_shell 10 = .ok (.aload_n 0, 1) := by decide +kernel
theorem dX6_shell_11 : decode cX6_shell 11 = .ok (.getfield 11, 3) := by decide +kernel
theorem dX6_shell_14 : decode cX6_shell 14 = .ok (.iload_n 1, 1) := by decide +kernel
theorem dX6_shell_15 : decode cX6_shell 15 = .ok (.iaload, 1) := by decide +kernel
theorem dX6_shell_16 : decode cX6_shell 16 = .ok (.iconst 1, 1) := by decide +kernel
theorem dX6_shell_17 : decode cX6_shell 17 = .ok (.isub, 1) := by decide +kernel
theorem dX6_shell_18 : decode cX6_shell 18 = .ok (.invokestatic 1, 3) := by decide +kernel
theorem dX6_shell_21 : decode cX6_shell 21 = .ok (.ifCond .eq 13, 3) := by decide +kernel
theorem dX6_shell_24 : decode cX6_shell 24 = .ok (.iload_n 3, 1) := by decide +kernel
theorem dX6_shell_25 : decode cX6_shell 25 = .ok (.iconst 0, 1) := by decide +kernel
theorem dX6_shell_26 : decode cX6_shell 26 = .ok (.bipush 6, 2) := by decide +kernel
theorem dX6_shell_28 : decode cX6_shell 28 = .ok (.invokestatic 1, 3) := by decide +kernel
theorem dX6_shell_31 : decode cX6_shell 31 = .ok (.ifCond .ne 6, 3) := by decide +kernel
theorem dX6_shell_34 : decode cX6_shell 34 = .ok (.ldc 71, 2) := by decide +kernel
theorem dX6_shell_36 : decode cX6_shell 36 = .ok (.ireturn, 1) := by decide +kernel
theorem dX6_shell_37 : decode cX6_shell 37 = .ok (.bipush 6, 2) := by decide +kernel
theorem dX6_shell_39 : decode cX6_shell 39 = .ok (.iload_n 1, 1) := by decide +kernel
theorem dX6_shell_40 : decode cX6_shell 40 = .ok (.imul, 1) := by decide +kernel
theorem dX6_shell_41 : decode cX6_shell 41 = .ok (.iload_n 2, 1) := by decide +kernel
theorem dX6_shell_42 : decode cX6_shell 42 = .ok (.iadd, 1) := by decide +kernel
theorem dX6_shell_43 : decode cX6_shell 43 = .ok (.istore 4, 2) := by decide +kernel
theorem dX6_shell_45 : decode cX6_shell 45 = .ok (.iload_n 3, 1) := by decide +kernel
theorem dX6_shell_46 : decode cX6_shell 46 = .ok (.ifCond .ne 13, 3) := by decide +kernel
theorem dX6_shell_49 : decode cX6_shell 49 = .ok (.aload_n 0, 1) := by decide +kernel
theorem dX6_shell_50 : decode cX6_shell 50 = .ok (.getfield 40, 3) := by decide +kernel
theorem dX6_shell_53 : decode cX6_shell 53 = .ok (.iload 4, 2) := by decide +kernel
theorem dX6_shell_55 : decode cX6_shell 55 = .ok (.iaload, 1) := by decide +kernel
theorem dX6_shell_56 : decode cX6_shell 56 = .ok (.goto 45, 3) := by decide +kernel
theorem dX6_shell_59 : decode cX6_shell 59 = .ok (.iload_n 3, 1) := by decide +kernel
theorem dX6_shell_60 : decode cX6_shell 60 = .ok (.iconst 5, 1) := by decide +kernel
theorem dX6_shell_61 : decode cX6_shell 61 = .ok (.if_icmp .ge 19, 3) := by decide +kernel
theorem dX6_shell_64 : decode cX6_shell 64 = .ok (.aload_n 0, 1) := by decide +kernel
theorem dX6_shell_65 : decode cX6_shell 65 = .ok (.getfield 46, 3) := by decide +kernel
theorem dX6_shell_68 : decode cX6_shell 68 = .ok (.iconst 4, 1) := by decide +kernel
theorem dX6_shell_69 : decode cX6_shell 69 = .ok (.iload 4, 2) := by decide +kernel
theorem dX6_shell_71 : decode cX6_shell 71 = .ok (.imul, 1) := by decide +kernel
theorem dX6_shell_72 : decode cX6_shell 72 = .ok (.iload_n 3, 1) := by decide +kernel
theorem dX6_shell_73 : decode cX6_shell 73 = .ok (.iadd, 1) := by decide +kernel
theorem dX6_shell_74 : decode cX6_shell 74 = .ok (.iconst 1, 1) := by decide +kernel
theorem dX6_shell_75 : decode cX6_shell 75 = .ok (.isub, 1) := by decide +kernel
theorem dX6_shell_76 : decode cX6_shell 76 = .ok (.iaload, 1) := by decide +kernel
theorem dX6_shell_77 : decode cX6_shell 77 = .ok (.goto 24, 3) := by decide +kernel
theorem dX6_shell_80 : decode cX6_shell 80 = .ok (.iload_n 3, 1) := by decide +kernel
theorem dX6_shell_81 : decode cX6_shell 81 = .ok (.iconst 5, 1) := by decide +kernel
theorem dX6_shell_82 : decode cX6_shell 82 = .ok (.if_icmp .ne 13, 3) := by decide +kernel
theorem dX6_shell_85 : decode cX6_shell 85 = .ok (.aload_n 0, 1) := by decide +kernel
theorem dX6_shell_86 : decode cX6_shell 86 = .ok (.getfield 43, 3) := by decide +kernel
theorem dX6_shell_89 : decode cX6_shell 89 = .ok (.iload 4, 2) := by decide +kernel
theorem dX6_shell_91 : decode cX6_shell 91 = .ok (.iaload, 1) := by decide +kernel
theorem dX6_shell_92 : decode cX6_shell 92 = .ok (.goto 9, 3) := by decide +kernel
theorem dX6_shell_95 : decode cX6_shell 95 = .ok (.aload_n 0, 1) := by decide +kernel
theorem dX6_shell_96 : decode cX6_shell 96 = .ok (.iload 4, 2) := by decide +kernel
theorem dX6_shell_98 : decode cX6_shell 98 = .ok (.invokevirtual 72, 3) := by decide +kernel
theorem dX6_shell_101 : decode cX6_shell 101 = .ok (.ireturn, 1) := by decide +kernel
theorem dX6_taken_0 : decode cX6_taken 0 = .ok (.aload_n 0, 1) := by decide +kernel
theorem dX6_taken_1 : decode cX6_taken 1 = .ok (.iload_n 1, 1) := by decide +kernel
theorem dX6_taken_2 : decode cX6_taken 2 = .ok (.invokevirtual 60, 3) := by decide +kernel
theorem dX6_taken_5 : decode cX6_taken 5 = .ok (.ifCond .eq 12, 3) := by decide +kernel
theorem dX6_taken_8 : decode cX6_taken 8 = .ok (.aload_n 0, 1) := by decide +kernel
theorem dX6_taken_9 : decode cX6_taken 9 = .ok (.getfield 30, 3) := by decide +kernel
theorem dX6_taken_12 : decode cX6_taken 12 = .ok (.iload_n 1, 1) := by decide +kernel
theorem dX6_taken_13 : decode cX6_taken 13 = .ok (.laload, 1) := by decide +kernel
theorem dX6_taken_14 : decode cX6_taken 14 = .ok (.goto 6, 3) := by decide +kernel
theorem dX6_taken_17 : decode cX6_taken 17 = .ok (.ldc2_w 75, 3) := by decide +kernel
theorem dX6_taken_20 : decode cX6_taken 20 = .ok (.lreturn, 1) := by decide +kernel
theorem dX6_kept_0 : decode cX6_kept 0 = .ok (.aload_n 0, 1) := by decide +kernel
theorem dX6_kept_1 : decode cX6_kept 1 = .ok (.iload_n 1, 1) := by decide +kernel
theorem dX6_kept_2 : decode cX6_kept 2 = .ok (.invokevirtual 60, 3) := by decide +kernel
theorem dX6_kept_5 : decode cX6_kept 5 = .ok (.ifCond .ne 5, 3) := by decide +kernel
theorem dX6_kept_8 : decode cX6_kept 8 = .ok (.lconst 1, 1) := by decide +kernel
theorem dX6_kept_9 : decode cX6_kept 9 = .ok (.lreturn, 1) := by decide +kernel
theorem dX6_kept_10 : decode cX6_kept 10 = .ok (.lconst 0, 1) := by decide +kernel
theorem dX6_kept_11 : decode cX6_kept 11 = .ok (.aload_n 0, 1) := by decide +kernel
theorem dX6_kept_12 : decode cX6_kept 12 = .ok (.getfield 30, 3) := by decide +kernel
theorem dX6_kept_15 : decode cX6_kept 15 = .ok (.iload_n 1, 1) := by decide +kernel
theorem dX6_kept_16 : decode cX6_kept 16 = .ok (.laload, 1) := by decide +kernel
theorem dX6_kept_17 : decode cX6_kept 17 = .ok (.lsub, 1) := by decide +kernel
theorem dX6_kept_18 : decode cX6_kept 18 = .ok (.lstore_n 2, 1) := by decide +kernel
theorem dX6_kept_19 : decode cX6_kept 19 = .ok (.iconst 0, 1) := by decide +kernel
theorem dX6_kept_20 : decode cX6_kept 20 = .ok (.istore 4, 2) := by decide +kernel
theorem dX6_kept_22 : decode cX6_kept 22 = .ok (.iload 4, 2) := by decide +kernel
theorem dX6_kept_24 : decode cX6_kept 24 = .ok (.aload_n 0, 1) := by decide +kernel
theorem dX6_kept_25 : decode cX6_kept 25 = .ok (.getfield 11, 3) := by decide +kernel
theorem dX6_kept_28 : decode cX6_kept 28 = .ok (.iload_n 1, 1) := by decide +kernel
theorem dX6_kept_29 : decode cX6_kept 29 = .ok (.iaload, 1) := by decide +kernel
theorem dX6_kept_30 : decode cX6_kept 30 = .ok (.if_icmp .ge 29, 3) := by decide +kernel
theorem dX6_kept_33 : decode cX6_kept 33 = .ok (.lload_n 2, 1) := by decide +kernel
theorem dX6_kept_34 : decode cX6_kept 34 = .ok (.aload_n 0, 1) := by decide +kernel
theorem dX6_kept_35 : decode cX6_kept 35 = .ok (.getfield 40, 3) := by decide +kernel
theorem dX6_kept_38 : decode cX6_kept 38 = .ok (.bipush 6, 2) := by decide +kernel
theorem dX6_kept_40 : decode cX6_kept 40 = .ok (.iload_n 1, 1) := by decide +kernel
theorem dX6_kept_41 : decode cX6_kept 41 = .ok (.imul, 1) := by decide +kernel
theorem dX6_kept_42 : decode cX6_kept 42 = .ok (.iload 4, 2) := by decide +kernel
theorem dX6_kept_44 : decode cX6_kept 44 = .ok (.iadd, 1) := by decide +kernel
theorem dX6_kept_45 : decode cX6_kept 45 = .ok (.iaload, 1) := by decide +kernel
theorem dX6_kept_46 : decode cX6_kept 46 = .ok (.sipush 200, 3) := by decide +kernel
theorem dX6_kept_49 : decode cX6_kept 49 = .ok (.isub, 1) := by decide +kernel
theorem dX6_kept_50 : decode cX6_kept 50 = .ok (.i2l, 1) := by decide +kernel
theorem dX6_kept_51 : decode cX6_kept 51 = .ok (.ladd, 1) := by decide +kernel
theorem dX6_kept_52 : decode cX6_kept 52 = .ok (.lstore_n 2, 1) := by decide +kernel
theorem dX6_kept_53 : decode cX6_kept 53 = .ok (.iinc 4 1, 3) := by decide +kernel
theorem dX6_kept_56 : decode cX6_kept 56 = .ok (.goto (-34), 3) := by decide +kernel
theorem dX6_kept_59 : decode cX6_kept 59 = .ok (.lload_n 2, 1) := by decide +kernel
theorem dX6_kept_60 : decode cX6_kept 60 = .ok (.lreturn, 1) := by decide +kernel
theorem dX6_init_0 : decode cX6_init 0 = .ok (.aload_n 0, 1) := by decide +kernel
theorem dX6_init_1 : decode cX6_init 1 = .ok (.invokespecial 77, 3) := by decide +kernel
theorem dX6_init_4 : decode cX6_init 4 = .ok (.aload_n 0, 1) := by decide +kernel
theorem dX6_init_5 : decode cX6_init 5 = .ok (.bipush 12, 2) := by decide +kernel
theorem dX6_init_7 : decode cX6_init 7 = .ok (.newarray .int, 2) := by decide +kernel
theorem dX6_init_9 : decode cX6_init 9 = .ok (.putfield 11, 3) := by decide +kernel
theorem dX6_init_12 : decode cX6_init 12 = .ok (.aload_n 0, 1) := by decide +kernel
theorem dX6_init_13 : decode cX6_init 13 = .ok (.bipush 12, 2) := by decide +kernel
theorem dX6_init_15 : decode cX6_init 15 = .ok (.newarray .int, 2) := by decide +kernel
theorem dX6_init_17 : decode cX6_init 17 = .ok (.putfield 15, 3) := by decide +kernel
theorem dX6_init_20 : decode cX6_init 20 = .ok (.aload_n 0, 1) := by decide +kernel
theorem dX6_init_21 : decode cX6_init 21 = .ok (.bipush 12, 2) := by decide +kernel
theorem dX6_init_23 : decode cX6_init 23 = .ok (.newarray .int, 2) := by decide +kernel
theorem dX6_init_25 : decode cX6_init 25 = .ok (.putfield 18, 3) := by decide +kernel
theorem dX6_init_28 : decode cX6_init 28 = .ok (.aload_n 0, 1) := by decide +kernel
theorem dX6_init_29 : decode cX6_init 29 = .ok (.bipush 12, 2) := by decide +kernel
theorem dX6_init_31 : decode cX6_init 31 = .ok (.newarray .int, 2) := by decide +kernel
theorem dX6_init_33 : decode cX6_init 33 = .ok (.putfield 21, 3) := by decide +kernel
theorem dX6_init_36 : decode cX6_init 36 = .ok (.aload_n 0, 1) := by decide +kernel
theorem dX6_init_37 : decode cX6_init 37 = .ok (.bipush 12, 2) := by decide +kernel
theorem dX6_init_39 : decode cX6_init 39 = .ok (.newarray .int, 2) := by decide +kernel
theorem dX6_init_41 : decode cX6_init 41 = .ok (.putfield 24, 3) := by decide +kernel
theorem dX6_init_44 : decode cX6_init 44 = .ok (.aload_n 0, 1) := by decide +kernel
theorem dX6_init_45 : decode cX6_init 45 = .ok (.bipush 12, 2) := by decide +kernel
theorem dX6_init_47 : decode cX6_init 47 = .ok (.newarray .int, 2) := by decide +kernel
theorem dX6_init_49 : decode cX6_init 49 = .ok (.putfield 27, 3) := by decide +kernel
theorem dX6_init_52 : decode cX6_init 52 = .ok (.aload_n 0, 1) := by decide +kernel
theorem dX6_init_53 : decode cX6_init 53 = .ok (.bipush 12, 2) := by decide +kernel
theorem dX6_init_55 : decode cX6_init 55 = .ok (.newarray .long, 2) := by decide +kernel
theorem dX6_init_57 : decode cX6_init 57 = .ok (.putfield 30, 3) := by decide +kernel
theorem dX6_init_60 : decode cX6_init 60 = .ok (.aload_n 0, 1) := by decide +kernel
theorem dX6_init_61 : decode cX6_init 61 = .ok (.bipush 12, 2) := by decide +kernel
theorem dX6_init_63 : decode cX6_init 63 = .ok (.newarray .int, 2) := by decide +kernel
theorem dX6_init_65 : decode cX6_init 65 = .ok (.putfield 34, 3) := by decide +kernel
theorem dX6_init_68 : decode cX6_init 68 = .ok (.aload_n 0, 1) := by decide +kernel
theorem dX6_init_69 : decode cX6_init 69 = .ok (.bipush 12, 2) := by decide +kernel
theorem dX6_init_71 : decode cX6_init 71 = .ok (.newarray .int, 2) := by decide +kernel
theorem dX6_init_73 : decode cX6_init 73 = .ok (.putfield 37, 3) := by decide +kernel
theorem dX6_init_76 : decode cX6_init 76 = .ok (.aload_n 0, 1) := by decide +kernel
theorem dX6_init_77 : decode cX6_init 77 = .ok (.bipush 72, 2) := by decide +kernel
theorem dX6_init_79 : decode cX6_init 79 = .ok (.newarray .int, 2) := by decide +kernel
theorem dX6_init_81 : decode cX6_init 81 = .ok (.putfield 40, 3) := by decide +kernel
theorem dX6_init_84 : decode cX6_init 84 = .ok (.aload_n 0, 1) := by decide +kernel
theorem dX6_init_85 : decode cX6_init 85 = .ok (.sipush 288, 3) := by decide +kernel
theorem dX6_init_88 : decode cX6_init 88 = .ok (.newarray .int, 2) := by decide +kernel
theorem dX6_init_90 : decode cX6_init 90 = .ok (.putfield 46, 3) := by decide +kernel
theorem dX6_init_93 : decode cX6_init 93 = .ok (.aload_n 0, 1) := by decide +kernel
theorem dX6_init_94 : decode cX6_init 94 = .ok (.bipush 72, 2) := by decide +kernel
theorem dX6_init_96 : decode cX6_init 96 = .ok (.newarray .int, 2) := by decide +kernel
theorem dX6_init_98 : decode cX6_init 98 = .ok (.putfield 43, 3) := by decide +kernel
theorem dX6_init_101 : decode cX6_init 101 = .ok (.aload_n 0, 1) := by decide +kernel
theorem dX6_init_102 : decode cX6_init 102 = .ok (.bipush 8, 2) := by decide +kernel
theorem dX6_init_104 : decode cX6_init 104 = .ok (.newarray .int, 2) := by decide +kernel
theorem dX6_init_106 : decode cX6_init 106 = .ok (.putfield 49, 3) := by decide +kernel
theorem dX6_init_109 : decode cX6_init 109 = .ok (.aload_n 0, 1) := by decide +kernel
theorem dX6_init_110 : decode cX6_init 110 = .ok (.iconst 3, 1) := by decide +kernel
theorem dX6_init_111 : decode cX6_init 111 = .ok (.newarray .int, 2) := by decide +kernel
theorem dX6_init_113 : decode cX6_init 113 = .ok (.putfield 83, 3) := by decide +kernel
theorem dX6_init_116 : decode cX6_init 116 = .ok (.aload_n 0, 1) := by decide +kernel
theorem dX6_init_117 : decode cX6_init 117 = .ok (.iconst 3, 1) := by decide +kernel
theorem dX6_init_118 : decode cX6_init 118 = .ok (.newarray .int, 2) := by decide +kernel
theorem dX6_init_120 : decode cX6_init 120 = .ok (.putfield 86, 3) := by decide +kernel
theorem dX6_init_123 : decode cX6_init 123 = .ok (.aload_n 0, 1) := by decide +kernel
theorem dX6_init_124 : decode cX6_init 124 = .ok (.iconst 3, 1) := by decide +kernel
theorem dX6_init_125 : decode cX6_init 125 = .ok (.newarray .int, 2) := by decide +kernel
theorem dX6_init_127 : decode cX6_init 127 = .ok (.putfield 89, 3) := by decide +kernel
theorem dX6_init_130 : decode cX6_init 130 = .ok (.aload_n 0, 1) := by decide +kernel
theorem dX6_init_131 : decode cX6_init 131 = .ok (.bipush 24, 2) := by decide +kernel
theorem dX6_init_133 : decode cX6_init 133 = .ok (.newarray .int, 2) := by decide +kernel
theorem dX6_init_135 : decode cX6_init 135 = .ok (.putfield 92, 3) := by decide +kernel
theorem dX6_init_138 : decode cX6_init 138 = .ok (.aload_n 0, 1) := by decide +kernel
theorem dX6_init_139 : decode cX6_init 139 = .ok (.bipush 24, 2) := by decide +kernel
theorem dX6_init_141 : decode cX6_init 141 = .ok (.newarray .int, 2) := by decide +kernel
theorem dX6_init_143 : decode cX6_init 143 = .ok (.putfield 95, 3) := by decide +kernel
theorem dX6_init_146 : decode cX6_init 146 = .ok (.aload_n 0, 1) := by decide +kernel
theorem dX6_init_147 : decode cX6_init 147 = .ok (.bipush 24, 2) := by decide +kernel
theorem dX6_init_149 : decode cX6_init 149 = .ok (.newarray .int, 2) := by decide +kernel
theorem dX6_init_151 : decode cX6_init 151 = .ok (.putfield 98, 3) := by decide +kernel
theorem dX6_init_154 : decode cX6_init 154 = .ok (.aload_n 0, 1) := by decide +kernel
theorem dX6_init_155 : decode cX6_init 155 = .ok (.bipush 12, 2) := by decide +kernel
theorem dX6_init_157 : decode cX6_init 157 = .ok (.newarray .int, 2) := by decide +kernel
theorem dX6_init_159 : decode cX6_init 159 = .ok (.putfield 101, 3) := by decide +kernel
theorem dX6_init_162 : decode cX6_init 162 = .ok (.aload_n 0, 1) := by decide +kernel
theorem dX6_init_163 : decode cX6_init 163 = .ok (.bipush 12, 2) := by decide +kernel
theorem dX6_init_165 : decode cX6_init 165 = .ok (.newarray .boolean, 2) := by decide +kernel
theorem dX6_init_167 : decode cX6_init 167 = .ok (.putfield 104, 3) := by decide +kernel
theorem dX6_init_170 : decode cX6_init 170 = .ok (.aload_n 0, 1) := by decide +kernel
theorem dX6_init_171 : decode cX6_init 171 = .ok (.bipush 12, 2) := by decide +kernel
theorem dX6_init_173 : decode cX6_init 173 = .ok (.newarray .int, 2) := by decide +kernel
theorem dX6_init_175 : decode cX6_init 175 = .ok (.putfield 108, 3) := by decide +kernel
theorem dX6_init_178 : decode cX6_init 178 = .ok (.aload_n 0, 1) := by decide +kernel
theorem dX6_init_179 : decode cX6_init 179 = .ok (.iconst 3, 1) := by decide +kernel
theorem dX6_init_180 : decode cX6_init 180 = .ok (.newarray .boolean, 2) := by decide +kernel
theorem dX6_init_182 : decode cX6_init 182 = .ok (.putfield 111, 3) := by decide +kernel
theorem dX6_init_185 : decode cX6_init 185 = .ok (.aload_n 0, 1) := by decide +kernel
theorem dX6_init_186 : decode cX6_init 186 = .ok (.iconst 3, 1) := by decide +kernel
theorem dX6_init_187 : decode cX6_init 187 = .ok (.newarray .int, 2) := by decide +kernel
theorem dX6_init_189 : decode cX6_init 189 = .ok (.putfield 114, 3) := by decide +kernel
theorem dX6_init_192 : decode cX6_init 192 = .ok (.aload_n 0, 1) := by decide +kernel
theorem dX6_init_193 : decode cX6_init 193 = .ok (.iconst 3, 1) := by decide +kernel
theorem dX6_init_194 : decode cX6_init 194 = .ok (.newarray .int, 2) := by decide +kernel
theorem dX6_init_196 : decode cX6_init 196 = .ok (.putfield 117, 3) := by decide +kernel
theorem dX6_init_199 : decode cX6_init 199 = .ok (.aload_n 0, 1) := by decide +kernel
theorem dX6_init_200 : decode cX6_init 200 = .ok (.iconst 3, 1) := by decide +kernel
theorem dX6_init_201 : decode cX6_init 201 = .ok (.newarray .int, 2) := by decide +kernel
theorem dX6_init_203 : decode cX6_init 203 = .ok (.putfield 120, 3) := by decide +kernel
theorem dX6_init_206 : decode cX6_init 206 = .ok (.aload_n 0, 1) := by decide +kernel
theorem dX6_init_207 : decode cX6_init 207 = .ok (.iconst 3, 1) := by decide +kernel
theorem dX6_init_208 : decode cX6_init 208 = .ok (.newarray .int, 2) := by decide +kernel
theorem dX6_init_210 : decode cX6_init 210 = .ok (.putfield 123, 3) := by decide +kernel
theorem dX6_init_213 : decode cX6_init 213 = .ok (.aload_n 0, 1) := by decide +kernel
theorem dX6_init_214 : decode cX6_init 214 = .ok (.bipush 100, 2) := by decide +kernel
theorem dX6_init_216 : decode cX6_init 216 = .ok (.newarray .int, 2) := by decide +kernel
theorem dX6_init_218 : decode cX6_init 218 = .ok (.putfield 126, 3) := by decide +kernel
theorem dX6_init_221 : decode cX6_init 221 = .ok (.aload_n 0, 1) := by decide +kernel
theorem dX6_init_222 : decode cX6_init 222 = .ok (.bipush 100, 2) := by decide +kernel
theorem dX6_init_224 : decode cX6_init 224 = .ok (.newarray .boolean, 2) := by decide +kernel
theorem dX6_init_226 : decode cX6_init 226 = .ok (.putfield 129, 3) := by decide +kernel
theorem dX6_init_229 : decode cX6_init 229 = .ok (.aload_n 0, 1) := by decide +kernel
theorem dX6_init_230 : decode cX6_init 230 = .ok (.bipush 100, 2) := by decide +kernel
theorem dX6_init_232 : decode cX6_init 232 = .ok (.newarray .boolean, 2) := by decide +kernel
theorem dX6_init_234 : decode cX6_init 234 = .ok (.putfield 132, 3) := by decide +kernel
theorem dX6_init_237 : decode cX6_init 237 = .ok (.aload_n 0, 1) := by decide +kernel
theorem dX6_init_238 : decode cX6_init 238 = .ok (.bipush 100, 2) := by decide +kernel
theorem dX6_init_240 : decode cX6_init 240 = .ok (.newarray .boolean, 2) := by decide +kernel
theorem dX6_init_242 : decode cX6_init 242 = .ok (.putfield 135, 3) := by decide +kernel
theorem dX6_init_245 : decode cX6_init 245 = .ok (.aload_n 0, 1) := by decide +kernel
theorem dX6_init_246 : decode cX6_init 246 = .ok (.bipush 100, 2) := by decide +kernel
theorem dX6_init_248 : decode cX6_init 248 = .ok (.newarray .boolean, 2) := by decide +kernel
theorem dX6_init_250 : decode cX6_init 250 = .ok (.putfield 138, 3) := by decide +kernel
theorem dX6_init_253 : decode cX6_init 253 = .ok (.aload_n 0, 1) := by decide +kernel
theorem dX6_init_254 : decode cX6_init 254 = .ok (.bipush 100, 2) := by decide +kernel
theorem dX6_init_256 : decode cX6_init 256 = .ok (.newarray .int, 2) := by decide +kernel
theorem dX6_init_258 : decode cX6_init 258 = .ok (.putfield 141, 3) := by decide +kernel
theorem dX6_init_261 : decode cX6_init 261 = .ok (.aload_n 0, 1) := by decide +kernel
theorem dX6_init_262 : decode cX6_init 262 = .ok (.bipush 7, 2) := by decide +kernel
theorem dX6_init_264 : decode cX6_init 264 = .ok (.newarray .int, 2) := by decide +kernel
theorem dX6_init_266 : decode cX6_init 266 = .ok (.putfield 144, 3) := by decide +kernel
theorem dX6_init_269 : decode cX6_init 269 = .ok (.aload_n 0, 1) := by decide +kernel
theorem dX6_init_270 : decode cX6_init 270 = .ok (.bipush 7, 2) := by decide +kernel
theorem dX6_init_272 : decode cX6_init 272 = .ok (.newarray .int, 2) := by decide +kernel
theorem dX6_init_274 : decode cX6_init 274 = .ok (.putfield 147, 3) := by decide +kernel
theorem dX6_init_277 : decode cX6_init 277 = .ok (.aload_n 0, 1) := by decide +kernel
theorem dX6_init_278 : decode cX6_init 278 = .ok (.sipush 128, 3) := by decide +kernel
theorem dX6_init_281 : decode cX6_init 281 = .ok (.newarray .int, 2) := by decide +kernel
theorem dX6_init_283 : decode cX6_init 283 = .ok (.putfield 150, 3) := by decide +kernel
theorem dX6_init_286 : decode cX6_init 286 = .ok (.iconst 0, 1) := by decide +kernel
theorem dX6_init_287 : decode cX6_init 287 = .ok (.istore_n 1, 1) := by decide +kernel
theorem dX6_init_288 : decode cX6_init 288 = .ok (.iload_n 1, 1) := by decide +kernel
theorem dX6_init_289 : decode cX6_init 289 = .ok (.iconst 3, 1) := by decide +kernel
theorem dX6_init_290 : decode cX6_init 290 = .ok (.if_icmp .ge 18, 3) := by decide +kernel
theorem dX6_init_293 : decode cX6_init 293 = .ok (.aload_n 0, 1) := by decide +kernel
theorem dX6_init_294 : decode cX6_init 294 = .ok (.getfield 83, 3) := by decide +kernel
theorem dX6_init_297 : decode cX6_init 297 = .ok (.iload_n 1, 1) := by decide +kernel
theorem dX6_init_298 : decode cX6_init 298 = .ok (.sipush 200, 3) := by decide +kernel
theorem dX6_init_301 : decode cX6_init 301 = .ok (.iastore, 1) := by decide +kernel
theorem dX6_init_302 : decode cX6_init 302 = .ok (.iinc 1 1, 3) := by decide +kernel
theorem dX6_init_305 : decode cX6_init 305 = .ok (.goto (-17), 3) := by decide +kernel
theorem dX6_init_308 : decode cX6_init 308 = .ok (.iconst 0, 1) := by decide +kernel
theorem dX6_init_309 : decode cX6_init 309 = .ok (.istore_n 1, 1) := by decide +kernel
theorem dX6_init_310 : decode cX6_init 310 = .ok (.iload_n 1, 1) := by decide +kernel
theorem dX6_init_311 : decode cX6_init 311 = .ok (.bipush 12, 2) := by decide +kernel
theorem dX6_init_313 : decode cX6_init 313 = .ok (.if_icmp .ge 23, 3) := by decide +kernel
theorem dX6_init_316 : decode cX6_init 316 = .ok (.aload_n 0, 1) := by decide +kernel
theorem dX6_init_317 : decode cX6_init 317 = .ok (.getfield 101, 3) := by decide +kernel
theorem dX6_init_320 : decode cX6_init 320 = .ok (.iload_n 1, 1) := by decide +kernel
theorem dX6_init_321 : decode cX6_init 321 = .ok (.iconst (-1), 1) := by decide +kernel
theorem dX6_init_322 : decode cX6_init 322 = .ok (.iastore, 1) := by decide +kernel
theorem dX6_init_323 : decode cX6_init 323 = .ok (.aload_n 0, 1) := by decide +kernel
theorem dX6_init_324 : decode cX6_init 324 = .ok (.getfield 104, 3) := by decide +kernel
theorem dX6_init_327 : decode cX6_init 327 = .ok (.iload_n 1, 1) := by decide +kernel
theorem dX6_init_328 : decode cX6_init 328 = .ok (.iconst 1, 1) := by decide +kernel
theorem dX6_init_329 : decode cX6_init 329 = .ok (.bastore, 1) := by decide +kernel
theorem dX6_init_330 : decode cX6_init 330 = .ok (.iinc 1 1, 3) := by decide +kernel
theorem dX6_init_333 : decode cX6_init 333 = .ok (.goto (-23), 3) := by decide +kernel
theorem dX6_init_336 : decode cX6_init 336 = .ok (.return_, 1) := by decide +kernel
theorem dX6_isFurnace_0 : decode cX6_isFurnace 0 = .ok (.iload_n 0, 1) := by decide +kernel
theorem dX6_isFurnace_1 : decode cX6_isFurnace 1 = .ok (.iconst 0, 1) := by decide +kernel
theorem dX6_isFurnace_2 : decode cX6_isFurnace 2 = .ok (.iconst 2, 1) := by decide +kernel
theorem dX6_isFurnace_3 : decode cX6_isFurnace 3 = .ok (.invokestatic 1, 3) := by decide +kernel
theorem dX6_isFurnace_6 : decode cX6_isFurnace 6 = .ok (.ireturn, 1) := by decide +kernel
theorem dX6_isPlace_0 : decode cX6_isPlace 0 = .ok (.iload_n 0, 1) := by decide +kernel
theorem dX6_isPlace_1 : decode cX6_isPlace 1 = .ok (.iconst 0, 1) := by decide +kernel
theorem dX6_isPlace_2 : decode cX6_isPlace 2 = .ok (.iconst 3, 1) := by decide +kernel
theorem dX6_isPlace_3 : decode cX6_isPlace 3 = .ok (.invokestatic 1, 3) := by decide +kernel
theorem dX6_isPlace_6 : decode cX6_isPlace 6 = .ok (.ireturn, 1) := by decide +kernel
theorem dX6_line_0 : decode cX6_line 0 = .ok (.iload_n 1, 1) := by decide +kernel
theorem dX6_line_1 : decode cX6_line 1 = .ok (.invokestatic 153, 3) := by decide +kernel
theorem dX6_line_4 : decode cX6_line 4 = .ok (.ifCond .eq 52, 3) := by decide +kernel
theorem dX6_line_7 : decode cX6_line 7 = .ok (.iload_n 2, 1) := by decide +kernel
theorem dX6_line_8 : decode cX6_line 8 = .ok (.iconst 0, 1) := by decide +kernel
theorem dX6_line_9 : decode cX6_line 9 = .ok (.iconst 3, 1) := by decide +kernel
theorem dX6_line_10 : decode cX6_line 10 = .ok (.invokestatic 1, 3) := by decide +kernel
theorem dX6_line_13 : decode cX6_line 13 = .ok (.ifCond .eq 43, 3) := by decide +kernel
theorem dX6_line_16 : decode cX6_line 16 = .ok (.iload_n 2, 1) := by decide +kernel
theorem dX6_line_17 : decode cX6_line 17 = .ok (.iconst 3, 1) := by decide +kernel
theorem dX6_line_18 : decode cX6_line 18 = .ok (.if_icmp .eq 16, 3) := by decide +kernel
theorem dX6_line_21 : decode cX6_line 21 = .ok (.iload_n 3, 1) := by decide +kernel
theorem dX6_line_22 : decode cX6_line 22 = .ok (.sipush 200, 3) := by decide +kernel
theorem dX6_line_25 : decode cX6_line 25 = .ok (.sipush 11000, 3) := by decide +kernel
theorem dX6_line_28 : decode cX6_line 28 = .ok (.invokestatic 1, 3) := by decide +kernel
theorem dX6_line_31 : decode cX6_line 31 = .ok (.ifCond .eq 25, 3) := by decide +kernel
theorem dX6_line_34 : decode cX6_line 34 = .ok (.iload 4, 2) := by decide +kernel
theorem dX6_line_36 : decode cX6_line 36 = .ok (.iconst 1, 1) := by decide +kernel
theorem dX6_line_37 : decode cX6_line 37 = .ok (.iload_n 2, 1) := by decide +kernel
theorem dX6_line_38 : decode cX6_line 38 = .ok (.ifCond .ne 9, 3) := by decide +kernel
theorem dX6_line_41 : decode cX6_line 41 = .ok (.sipush 1000, 3) := by decide +kernel
theorem dX6_line_44 : decode cX6_line 44 = .ok (.goto 6, 3) := by decide +kernel
theorem dX6_line_47 : decode cX6_line 47 = .ok (.sipush 500, 3) := by decide +kernel
theorem dX6_line_50 : decode cX6_line 50 = .ok (.invokestatic 1, 3) := by decide +kernel
theorem dX6_line_53 : decode cX6_line 53 = .ok (.ifCond .ne 6, 3) := by decide +kernel
theorem dX6_line_56 : decode cX6_line 56 = .ok (.bipush (-2), 2) := by decide +kernel
theorem dX6_line_58 : decode cX6_line 58 = .ok (.ireturn, 1) := by decide +kernel
theorem dX6_line_59 : decode cX6_line 59 = .ok (.aload_n 0, 1) := by decide +kernel
theorem dX6_line_60 : decode cX6_line 60 = .ok (.getfield 111, 3) := by decide +kernel
theorem dX6_line_63 : decode cX6_line 63 = .ok (.iload_n 1, 1) := by decide +kernel
theorem dX6_line_64 : decode cX6_line 64 = .ok (.baload, 1) := by decide +kernel
theorem dX6_line_65 : decode cX6_line 65 = .ok (.ifCond .eq 6, 3) := by decide +kernel
theorem dX6_line_68 : decode cX6_line 68 = .ok (.bipush (-3), 2) := by decide +kernel
theorem dX6_line_70 : decode cX6_line 70 = .ok (.ireturn, 1) := by decide +kernel
theorem dX6_line_71 : decode cX6_line 71 = .ok (.aload_n 0, 1) := by decide +kernel
theorem dX6_line_72 : decode cX6_line 72 = .ok (.getfield 89, 3) := by decide +kernel
theorem dX6_line_75 : decode cX6_line 75 = .ok (.iload_n 1, 1) := by decide +kernel
theorem dX6_line_76 : decode cX6_line 76 = .ok (.iaload, 1) := by decide +kernel
theorem dX6_line_77 : decode cX6_line 77 = .ok (.bipush 8, 2) := by decide +kernel
theorem dX6_line_79 : decode cX6_line 79 = .ok (.if_icmp .ne 6, 3) := by decide +kernel
theorem dX6_line_82 : decode cX6_line 82 = .ok (.bipush (-4), 2) := by decide +kernel
theorem dX6_line_84 : decode cX6_line 84 = .ok (.ireturn, 1) := by decide +kernel
theorem dX6_line_85 : decode cX6_line 85 = .ok (.bipush 8, 2) := by decide +kernel
theorem dX6_line_87 : decode cX6_line 87 = .ok (.iload_n 1, 1) := by decide +kernel
theorem dX6_line_88 : decode cX6_line 88 = .ok (.imul, 1) := by decide +kernel
theorem dX6_line_89 : decode cX6_line 89 = .ok (.aload_n 0, 1) := by decide +kernel
theorem dX6_line_90 : decode cX6_line 90 = .ok (.getfield 89, 3) := by decide +kernel
theorem dX6_line_93 : decode cX6_line 93 = .ok (.iload_n 1, 1) := by decide +kernel
theorem dX6_line_94 : decode cX6_line 94 = .ok (.iaload, 1) := by decide +kernel
theorem dX6_line_95 : decode cX6_line 95 = .ok (.iadd, 1) := by decide +kernel
theorem dX6_line_96 : decode cX6_line 96 = .ok (.istore 5, 2) := by decide +kernel
theorem dX6_line_98 : decode cX6_line 98 = .ok (.aload_n 0, 1) := by decide +kernel
theorem dX6_line_99 : decode cX6_line 99 = .ok (.getfield 92, 3) := by decide +kernel
theorem dX6_line_102 : decode cX6_line 102 = .ok (.iload 5, 2) := by decide +kernel
theorem dX6_line_104 : decode cX6_line 104 = .ok (.iload_n 2, 1) := by decide +kernel
theorem dX6_line_105 : decode cX6_line 105 = .ok (.iastore, 1) := by decide +kernel
theorem dX6_line_106 : decode cX6_line 106 = .ok (.aload_n 0, 1) := by decide +kernel
theorem dX6_line_107 : decode cX6_line 107 = .ok (.getfield 95, 3) := by decide +kernel
theorem dX6_line_110 : decode cX6_line 110 = .ok (.iload 5, 2) := by decide +kernel
theorem dX6_line_112 : decode cX6_line 112 = .ok (.iload_n 3, 1) := by decide +kernel
theorem dX6_line_113 : decode cX6_line 113 = .ok (.iastore, 1) := by decide +kernel
theorem dX6_line_114 : decode cX6_line 114 = .ok (.aload_n 0, 1) := by decide +kernel
theorem dX6_line_115 : decode cX6_line 115 = .ok (.getfield 98, 3) := by decide +kernel
theorem dX6_line_118 : decode cX6_line 118 = .ok (.iload 5, 2) := by decide +kernel
theorem dX6_line_120 : decode cX6_line 120 = .ok (.iload 4, 2) := by decide +kernel
theorem dX6_line_122 : decode cX6_line 122 = .ok (.iastore, 1) := by decide +kernel
theorem dX6_line_123 : decode cX6_line 123 = .ok (.aload_n 0, 1) := by decide +kernel
theorem dX6_line_124 : decode cX6_line 124 = .ok (.getfield 89, 3) := by decide +kernel
theorem dX6_line_127 : decode cX6_line 127 = .ok (.iload_n 1, 1) := by decide +kernel
theorem dX6_line_128 : decode cX6_line 128 = .ok (.dup2, 1) := by decide +kernel
theorem dX6_line_129 : decode cX6_line 129 = .ok (.iaload, 1) := by decide +kernel
theorem dX6_line_130 : decode cX6_line 130 = .ok (.iconst 1, 1) := by decide +kernel
theorem dX6_line_131 : decode cX6_line 131 = .ok (.iadd, 1) := by decide +kernel
theorem dX6_line_132 : decode cX6_line 132 = .ok (.iastore, 1) := by decide +kernel
theorem dX6_line_133 : decode cX6_line 133 = .ok (.aload_n 0, 1) := by decide +kernel
theorem dX6_line_134 : decode cX6_line 134 = .ok (.getfield 89, 3) := by decide +kernel
theorem dX6_line_137 : decode cX6_line 137 = .ok (.iload_n 1, 1) := by decide +kernel
theorem dX6_line_138 : decode cX6_line 138 = .ok (.iaload, 1) := by decide +kernel
theorem dX6_line_139 : decode cX6_line 139 = .ok (.ireturn, 1) := by decide +kernel
theorem dX6_clear_0 : decode cX6_clear 0 = .ok (.iload_n 1, 1) := by decide +kernel
theorem dX6_clear_1 : decode cX6_clear 1 = .ok (.invokestatic 153, 3) := by decide +kernel
theorem dX6_clear_4 : decode cX6_clear 4 = .ok (.ifCond .ne 6, 3) := by decide +kernel
theorem dX6_clear_7 : decode cX6_clear 7 = .ok (.bipush (-2), 2) := by decide +kernel
theorem dX6_clear_9 : decode cX6_clear 9 = .ok (.ireturn, 1) := by decide +kernel
theorem dX6_clear_10 : decode cX6_clear 10 = .ok (.aload_n 0, 1) := by decide +kernel
theorem dX6_clear_11 : decode cX6_clear 11 = .ok (.getfield 111, 3) := by decide +kernel
theorem dX6_clear_14 : decode cX6_clear 14 = .ok (.iload_n 1, 1) := by decide +kernel
theorem dX6_clear_15 : decode cX6_clear 15 = .ok (.baload, 1) := by decide +kernel
theorem dX6_clear_16 : decode cX6_clear 16 = .ok (.ifCond .eq 6, 3) := by decide +kernel
theorem dX6_clear_19 : decode cX6_clear 19 = .ok (.bipush (-3), 2) := by decide +kernel
theorem dX6_clear_21 : decode cX6_clear 21 = .ok (.ireturn, 1) := by decide +kernel
theorem dX6_clear_22 : decode cX6_clear 22 = .ok (.aload_n 0, 1) := by decide +kernel
theorem dX6_clear_23 : decode cX6_clear 23 = .ok (.getfield 89, 3) := by decide +kernel
theorem dX6_clear_26 : decode cX6_clear 26 = .ok (.iload_n 1, 1) := by decide +kernel
theorem dX6_clear_27 : decode cX6_clear 27 = .ok (.iaload, 1) := by decide +kernel
theorem dX6_clear_28 : decode cX6_clear 28 = .ok (.istore_n 2, 1) := by decide +kernel
theorem dX6_clear_29 : decode cX6_clear 29 = .ok (.aload_n 0, 1) := by decide +kernel
theorem dX6_clear_30 : decode cX6_clear 30 = .ok (.getfield 89, 3) := by decide +kernel
theorem dX6_clear_33 : decode cX6_clear 33 = .ok (.iload_n 1, 1) := by decide +kernel
theorem dX6_clear_34 : decode cX6_clear 34 = .ok (.iconst 0, 1) := by decide +kernel
theorem dX6_clear_35 : decode cX6_clear 35 = .ok (.iastore, 1) := by decide +kernel
theorem dX6_clear_36 : decode cX6_clear 36 = .ok (.iload_n 2, 1) := by decide +kernel
theorem dX6_clear_37 : decode cX6_clear 37 = .ok (.ireturn, 1) := by decide +kernel
theorem dX6_massOf_0 : decode cX6_massOf 0 = .ok (.iconst 0, 1) := by decide +kernel
theorem dX6_massOf_1 : decode cX6_massOf 1 = .ok (.istore_n 2, 1) := by decide +kernel
theorem dX6_massOf_2 : decode cX6_massOf 2 = .ok (.iconst 0, 1) := by decide +kernel
theorem dX6_massOf_3 : decode cX6_massOf 3 = .ok (.istore_n 3, 1) := by decide +kernel
theorem dX6_massOf_4 : decode cX6_massOf 4 = .ok (.iload_n 3, 1) := by decide +kernel
theorem dX6_massOf_5 : decode cX6_massOf 5 = .ok (.iconst 4, 1) := by decide +kernel
theorem dX6_massOf_6 : decode cX6_massOf 6 = .ok (.if_icmp .ge 45, 3) := by decide +kernel
theorem dX6_massOf_9 : decode cX6_massOf 9 = .ok (.iload_n 2, 1) := by decide +kernel
theorem dX6_massOf_10 : decode cX6_massOf 10 = .ok (.aload_n 0, 1) := by decide +kernel
theorem dX6_massOf_11 : decode cX6_massOf 11 = .ok (.getfield 101, 3) := by decide +kernel
theorem dX6_massOf_14 : decode cX6_massOf 14 = .ok (.iconst 4, 1) := by decide +kernel
theorem dX6_massOf_15 : decode cX6_massOf 15 = .ok (.iload_n 1, 1) := by decide +kernel
theorem dX6_massOf_16 : decode cX6_massOf 16 = .ok (.imul, 1) := by decide +kernel
theorem dX6_massOf_17 : decode cX6_massOf 17 = .ok (.iload_n 3, 1) := by decide +kernel
theorem dX6_massOf_18 : decode cX6_massOf 18 = .ok (.iadd, 1) := by decide +kernel
theorem dX6_massOf_19 : decode cX6_massOf 19 = .ok (.iaload, 1) := by decide +kernel
theorem dX6_massOf_20 : decode cX6_massOf 20 = .ok (.iconst (-1), 1) := by decide +kernel
theorem dX6_massOf_21 : decode cX6_massOf 21 = .ok (.if_icmp .ne 7, 3) := by decide +kernel
theorem dX6_massOf_24 : decode cX6_massOf 24 = .ok (.iconst 0, 1) := by decide +kernel
theorem dX6_massOf_25 : decode cX6_massOf 25 = .ok (.goto 18, 3) := by decide +kernel
