theorem d_Mod_measure_100 : decode prog_10_method_30_code 100 = .ok (.if_icmp .ge 210, 3) := by decide +kernel
theorem d_Mod_measure_103 : decode prog_10_method_30_code 103 = .ok (.iload_n 2, 1) := by decide +kernel
theorem d_Mod_measure_104 : decode prog_10_method_30_code 104 = .ok (.aload_n 0, 1) := by decide +kernel
theorem d_Mod_measure_105 : decode prog_10_method_30_code 105 = .ok (.getfield 73, 3) := by decide +kernel
theorem d_Mod_measure_108 : decode prog_10_method_30_code 108 = .ok (.irem, 1) := by decide +kernel
theorem d_Mod_measure_109 : decode prog_10_method_30_code 109 = .ok (.istore_n 3, 1) := by decide +kernel
theorem d_Mod_measure_110 : decode prog_10_method_30_code 110 = .ok (.iload_n 2, 1) := by decide +kernel
theorem d_Mod_measure_111 : decode prog_10_method_30_code 111 = .ok (.aload_n 0, 1) := by decide +kernel
theorem d_Mod_measure_112 : decode prog_10_method_30_code 112 = .ok (.getfield 73, 3) := by decide +kernel
theorem d_Mod_measure_115 : decode prog_10_method_30_code 115 = .ok (.idiv, 1) := by decide +kernel
theorem d_Mod_measure_116 : decode prog_10_method_30_code 116 = .ok (.istore 4, 2) := by decide +kernel
theorem d_Mod_measure_118 : decode prog_10_method_30_code 118 = .ok (.aload_n 0, 1) := by decide +kernel
theorem d_Mod_measure_119 : decode prog_10_method_30_code 119 = .ok (.iload_n 3, 1) := by decide +kernel
theorem d_Mod_measure_120 : decode prog_10_method_30_code 120 = .ok (.iload 4, 2) := by decide +kernel
theorem d_Mod_measure_122 : decode prog_10_method_30_code 122 = .ok (.invokevirtual 147, 3) := by decide +kernel
theorem d_Mod_measure_125 : decode prog_10_method_30_code 125 = .ok (.istore 5, 2) := by decide +kernel
theorem d_Mod_measure_127 : decode prog_10_method_30_code 127 = .ok (.aload_n 0, 1) := by decide +kernel
theorem d_Mod_measure_128 : decode prog_10_method_30_code 128 = .ok (.iload_n 3, 1) := by decide +kernel
theorem d_Mod_measure_129 : decode prog_10_method_30_code 129 = .ok (.iconst 1, 1) := by decide +kernel
theorem d_Mod_measure_130 : decode prog_10_method_30_code 130 = .ok (.isub, 1) := by decide +kernel
theorem d_Mod_measure_131 : decode prog_10_method_30_code 131 = .ok (.iload 4, 2) := by decide +kernel
theorem d_Mod_measure_133 : decode prog_10_method_30_code 133 = .ok (.invokevirtual 147, 3) := by decide +kernel
theorem d_Mod_measure_136 : decode prog_10_method_30_code 136 = .ok (.iconst 1, 1) := by decide +kernel
theorem d_Mod_measure_137 : decode prog_10_method_30_code 137 = .ok (.iadd, 1) := by decide +kernel
theorem d_Mod_measure_138 : decode prog_10_method_30_code 138 = .ok (.iload 5, 2) := by decide +kernel
theorem d_Mod_measure_140 : decode prog_10_method_30_code 140 = .ok (.if_icmp .ge 17, 3) := by decide +kernel
theorem d_Mod_measure_143 : decode prog_10_method_30_code 143 = .ok (.aload_n 0, 1) := by decide +kernel
theorem d_Mod_measure_144 : decode prog_10_method_30_code 144 = .ok (.iload_n 3, 1) := by decide +kernel
theorem d_Mod_measure_145 : decode prog_10_method_30_code 145 = .ok (.iconst 1, 1) := by decide +kernel
theorem d_Mod_measure_146 : decode prog_10_method_30_code 146 = .ok (.isub, 1) := by decide +kernel
theorem d_Mod_measure_147 : decode prog_10_method_30_code 147 = .ok (.iload 4, 2) := by decide +kernel
theorem d_Mod_measure_149 : decode prog_10_method_30_code 149 = .ok (.invokevirtual 147, 3) := by decide +kernel
theorem d_Mod_measure_152 : decode prog_10_method_30_code 152 = .ok (.iconst 1, 1) := by decide +kernel
theorem d_Mod_measure_153 : decode prog_10_method_30_code 153 = .ok (.iadd, 1) := by decide +kernel
theorem d_Mod_measure_154 : decode prog_10_method_30_code 154 = .ok (.goto 5, 3) := by decide +kernel
theorem d_Mod_measure_157 : decode prog_10_method_30_code 157 = .ok (.iload 5, 2) := by decide +kernel
theorem d_Mod_measure_159 : decode prog_10_method_30_code 159 = .ok (.istore 5, 2) := by decide +kernel
theorem d_Mod_measure_161 : decode prog_10_method_30_code 161 = .ok (.aload_n 0, 1) := by decide +kernel
theorem d_Mod_measure_162 : decode prog_10_method_30_code 162 = .ok (.iload_n 3, 1) := by decide +kernel
theorem d_Mod_measure_163 : decode prog_10_method_30_code 163 = .ok (.iconst 1, 1) := by decide +kernel
theorem d_Mod_measure_164 : decode prog_10_method_30_code 164 = .ok (.iadd, 1) := by decide +kernel
theorem d_Mod_measure_165 : decode prog_10_method_30_code 165 = .ok (.iload 4, 2) := by decide +kernel
theorem d_Mod_measure_167 : decode prog_10_method_30_code 167 = .ok (.invokevirtual 147, 3) := by decide +kernel
theorem d_Mod_measure_170 : decode prog_10_method_30_code 170 = .ok (.iconst 1, 1) := by decide +kernel
theorem d_Mod_measure_171 : decode prog_10_method_30_code 171 = .ok (.iadd, 1) := by decide +kernel
theorem d_Mod_measure_172 : decode prog_10_method_30_code 172 = .ok (.iload 5, 2) := by decide +kernel
theorem d_Mod_measure_174 : decode prog_10_method_30_code 174 = .ok (.if_icmp .ge 17, 3) := by decide +kernel
theorem d_Mod_measure_177 : decode prog_10_method_30_code 177 = .ok (.aload_n 0, 1) := by decide +kernel
theorem d_Mod_measure_178 : decode prog_10_method_30_code 178 = .ok (.iload_n 3, 1) := by decide +kernel
theorem d_Mod_measure_179 : decode prog_10_method_30_code 179 = .ok (.iconst 1, 1) := by decide +kernel
theorem d_Mod_measure_180 : decode prog_10_method_30_code 180 = .ok (.iadd, 1) := by decide +kernel
theorem d_Mod_measure_181 : decode prog_10_method_30_code 181 = .ok (.iload 4, 2) := by decide +kernel
theorem d_Mod_measure_183 : decode prog_10_method_30_code 183 = .ok (.invokevirtual 147, 3) := by decide +kernel
theorem d_Mod_measure_186 : decode prog_10_method_30_code 186 = .ok (.iconst 1, 1) := by decide +kernel
theorem d_Mod_measure_187 : decode prog_10_method_30_code 187 = .ok (.iadd, 1) := by decide +kernel
theorem d_Mod_measure_188 : decode prog_10_method_30_code 188 = .ok (.goto 5, 3) := by decide +kernel
theorem d_Mod_measure_191 : decode prog_10_method_30_code 191 = .ok (.iload 5, 2) := by decide +kernel
theorem d_Mod_measure_193 : decode prog_10_method_30_code 193 = .ok (.istore 5, 2) := by decide +kernel
theorem d_Mod_measure_195 : decode prog_10_method_30_code 195 = .ok (.aload_n 0, 1) := by decide +kernel
theorem d_Mod_measure_196 : decode prog_10_method_30_code 196 = .ok (.iload_n 3, 1) := by decide +kernel
theorem d_Mod_measure_197 : decode prog_10_method_30_code 197 = .ok (.iload 4, 2) := by decide +kernel
theorem d_Mod_measure_199 : decode prog_10_method_30_code 199 = .ok (.iconst 1, 1) := by decide +kernel
theorem d_Mod_measure_200 : decode prog_10_method_30_code 200 = .ok (.isub, 1) := by decide +kernel
theorem d_Mod_measure_201 : decode prog_10_method_30_code 201 = .ok (.invokevirtual 147, 3) := by decide +kernel
theorem d_Mod_measure_204 : decode prog_10_method_30_code 204 = .ok (.iconst 1, 1) := by decide +kernel
theorem d_Mod_measure_205 : decode prog_10_method_30_code 205 = .ok (.iadd, 1) := by decide +kernel
theorem d_Mod_measure_206 : decode prog_10_method_30_code 206 = .ok (.iload 5, 2) := by decide +kernel
theorem d_Mod_measure_208 : decode prog_10_method_30_code 208 = .ok (.if_icmp .ge 17, 3) := by decide +kernel
theorem d_Mod_measure_211 : decode prog_10_method_30_code 211 = .ok (.aload_n 0, 1) := by decide +kernel
theorem d_Mod_measure_212 : decode prog_10_method_30_code 212 = .ok (.iload_n 3, 1) := by decide +kernel
theorem d_Mod_measure_213 : decode prog_10_method_30_code 213 = .ok (.iload 4, 2) := by decide +kernel
theorem d_Mod_measure_215 : decode prog_10_method_30_code 215 = .ok (.iconst 1, 1) := by decide +kernel
theorem d_Mod_measure_216 : decode prog_10_method_30_code 216 = .ok (.isub, 1) := by decide +kernel
theorem d_Mod_measure_217 : decode prog_10_method_30_code 217 = .ok (.invokevirtual 147, 3) := by decide +kernel
theorem d_Mod_measure_220 : decode prog_10_method_30_code 220 = .ok (.iconst 1, 1) := by decide +kernel
theorem d_Mod_measure_221 : decode prog_10_method_30_code 221 = .ok (.iadd, 1) := by decide +kernel
theorem d_Mod_measure_222 : decode prog_10_method_30_code 222 = .ok (.goto 5, 3) := by decide +kernel
theorem d_Mod_measure_225 : decode prog_10_method_30_code 225 = .ok (.iload 5, 2) := by decide +kernel
theorem d_Mod_measure_227 : decode prog_10_method_30_code 227 = .ok (.istore 5, 2) := by decide +kernel
theorem d_Mod_measure_229 : decode prog_10_method_30_code 229 = .ok (.aload_n 0, 1) := by decide +kernel
theorem d_Mod_measure_230 : decode prog_10_method_30_code 230 = .ok (.iload_n 3, 1) := by decide +kernel
theorem d_Mod_measure_231 : decode prog_10_method_30_code 231 = .ok (.iload 4, 2) := by decide +kernel
theorem d_Mod_measure_233 : decode prog_10_method_30_code 233 = .ok (.iconst 1, 1) := by decide +kernel
theorem d_Mod_measure_234 : decode prog_10_method_30_code 234 = .ok (.iadd, 1) := by decide +kernel
theorem d_Mod_measure_235 : decode prog_10_method_30_code 235 = .ok (.invokevirtual 147, 3) := by decide +kernel
theorem d_Mod_measure_238 : decode prog_10_method_30_code 238 = .ok (.iconst 1, 1) := by decide +kernel
theorem d_Mod_measure_239 : decode prog_10_method_30_code 239 = .ok (.iadd, 1) := by decide +kernel
theorem d_Mod_measure_240 : decode prog_10_method_30_code 240 = .ok (.iload 5, 2) := by decide +kernel
theorem d_Mod_measure_242 : decode prog_10_method_30_code 242 = .ok (.if_icmp .ge 17, 3) := by decide +kernel
theorem d_Mod_measure_245 : decode prog_10_method_30_code 245 = .ok (.aload_n 0, 1) := by decide +kernel
theorem d_Mod_measure_246 : decode prog_10_method_30_code 246 = .ok (.iload_n 3, 1) := by decide +kernel
theorem d_Mod_measure_247 : decode prog_10_method_30_code 247 = .ok (.iload 4, 2) := by decide +kernel
theorem d_Mod_measure_249 : decode prog_10_method_30_code 249 = .ok (.iconst 1, 1) := by decide +kernel
theorem d_Mod_measure_250 : decode prog_10_method_30_code 250 = .ok (.iadd, 1) := by decide +kernel
theorem d_Mod_measure_251 : decode prog_10_method_30_code 251 = .ok (.invokevirtual 147, 3) := by decide +kernel
theorem d_Mod_measure_254 : decode prog_10_method_30_code 254 = .ok (.iconst 1, 1) := by decide +kernel
theorem d_Mod_measure_255 : decode prog_10_method_30_code 255 = .ok (.iadd, 1) := by decide +kernel
theorem d_Mod_measure_256 : decode prog_10_method_30_code 256 = .ok (.goto 5, 3) := by decide +kernel
theorem d_Mod_measure_259 : decode prog_10_method_30_code 259 = .ok (.iload 5, 2) := by decide +kernel
theorem d_Mod_measure_261 : decode prog_10_method_30_code 261 = .ok (.istore 5, 2) := by decide +kernel
theorem d_Mod_measure_263 : decode prog_10_method_30_code 263 = .ok (.iload 5, 2) := by decide +kernel
theorem d_Mod_measure_265 : decode prog_10_method_30_code 265 = .ok (.aload_n 0, 1) := by decide +kernel
theorem d_Mod_measure_266 : decode prog_10_method_30_code 266 = .ok (.iload_n 3, 1) := by decide +kernel
theorem d_Mod_measure_267 : decode prog_10_method_30_code 267 = .ok (.iload 4, 2) := by decide +kernel
theorem d_Mod_measure_269 : decode prog_10_method_30_code 269 = .ok (.invokevirtual 147, 3) := by decide +kernel
theorem d_Mod_measure_272 : decode prog_10_method_30_code 272 = .ok (.if_icmp .eq 32, 3) := by decide +kernel
theorem d_Mod_measure_275 : decode prog_10_method_30_code 275 = .ok (.aload_n 0, 1) := by decide +kernel
theorem d_Mod_measure_276 : decode prog_10_method_30_code 276 = .ok (.iload_n 3, 1) := by decide +kernel
theorem d_Mod_measure_277 : decode prog_10_method_30_code 277 = .ok (.iload 4, 2) := by decide +kernel
theorem d_Mod_measure_279 : decode prog_10_method_30_code 279 = .ok (.invokevirtual 144, 3) := by decide +kernel
theorem d_Mod_measure_282 : decode prog_10_method_30_code 282 = .ok (.ifCond .ne 6, 3) := by decide +kernel
theorem d_Mod_measure_285 : decode prog_10_method_30_code 285 = .ok (.goto 19, 3) := by decide +kernel
theorem d_Mod_measure_288 : decode prog_10_method_30_code 288 = .ok (.aload_n 0, 1) := by decide +kernel
theorem d_Mod_measure_289 : decode prog_10_method_30_code 289 = .ok (.getfield 66, 3) := by decide +kernel
theorem d_Mod_measure_292 : decode prog_10_method_30_code 292 = .ok (.bipush 9, 2) := by decide +kernel
theorem d_Mod_measure_294 : decode prog_10_method_30_code 294 = .ok (.iload 4, 2) := by decide +kernel
theorem d_Mod_measure_296 : decode prog_10_method_30_code 296 = .ok (.imul, 1) := by decide +kernel
theorem d_Mod_measure_297 : decode prog_10_method_30_code 297 = .ok (.iload_n 3, 1) := by decide +kernel
theorem d_Mod_measure_298 : decode prog_10_method_30_code 298 = .ok (.iadd, 1) := by decide +kernel
theorem d_Mod_measure_299 : decode prog_10_method_30_code 299 = .ok (.iload 5, 2) := by decide +kernel
theorem d_Mod_measure_301 : decode prog_10_method_30_code 301 = .ok (.iastore, 1) := by decide +kernel
theorem d_Mod_measure_302 : decode prog_10_method_30_code 302 = .ok (.iconst 1, 1) := by decide +kernel
theorem d_Mod_measure_303 : decode prog_10_method_30_code 303 = .ok (.istore_n 1, 1) := by decide +kernel
theorem d_Mod_measure_304 : decode prog_10_method_30_code 304 = .ok (.iinc 2 1, 3) := by decide +kernel
theorem d_Mod_measure_307 : decode prog_10_method_30_code 307 = .ok (.goto (-217), 3) := by decide +kernel
theorem d_Mod_measure_310 : decode prog_10_method_30_code 310 = .ok (.goto (-228), 3) := by decide +kernel
theorem d_Mod_measure_313 : decode prog_10_method_30_code 313 = .ok (.return_, 1) := by decide +kernel
theorem d_Mod_meets_0 : decode prog_10_method_22_code 0 = .ok (.aload_n 0, 1) := by decide +kernel
theorem d_Mod_meets_1 : decode prog_10_method_22_code 1 = .ok (.getfield 51, 3) := by decide +kernel
theorem d_Mod_meets_4 : decode prog_10_method_22_code 4 = .ok (.iload_n 1, 1) := by decide +kernel
theorem d_Mod_meets_5 : decode prog_10_method_22_code 5 = .ok (.iaload, 1) := by decide +kernel
theorem d_Mod_meets_6 : decode prog_10_method_22_code 6 = .ok (.aload_n 0, 1) := by decide +kernel
theorem d_Mod_meets_7 : decode prog_10_method_22_code 7 = .ok (.getfield 51, 3) := by decide +kernel
theorem d_Mod_meets_10 : decode prog_10_method_22_code 10 = .ok (.iload_n 2, 1) := by decide +kernel
theorem d_Mod_meets_11 : decode prog_10_method_22_code 11 = .ok (.iaload, 1) := by decide +kernel
theorem d_Mod_meets_12 : decode prog_10_method_22_code 12 = .ok (.aload_n 0, 1) := by decide +kernel
theorem d_Mod_meets_13 : decode prog_10_method_22_code 13 = .ok (.getfield 17, 3) := by decide +kernel
theorem d_Mod_meets_16 : decode prog_10_method_22_code 16 = .ok (.iload_n 2, 1) := by decide +kernel
theorem d_Mod_meets_17 : decode prog_10_method_22_code 17 = .ok (.iaload, 1) := by decide +kernel
theorem d_Mod_meets_18 : decode prog_10_method_22_code 18 = .ok (.iadd, 1) := by decide +kernel
theorem d_Mod_meets_19 : decode prog_10_method_22_code 19 = .ok (.if_icmp .ge 73, 3) := by decide +kernel
theorem d_Mod_meets_22 : decode prog_10_method_22_code 22 = .ok (.aload_n 0, 1) := by decide +kernel
theorem d_Mod_meets_23 : decode prog_10_method_22_code 23 = .ok (.getfield 51, 3) := by decide +kernel
theorem d_Mod_meets_26 : decode prog_10_method_22_code 26 = .ok (.iload_n 2, 1) := by decide +kernel
theorem d_Mod_meets_27 : decode prog_10_method_22_code 27 = .ok (.iaload, 1) := by decide +kernel
theorem d_Mod_meets_28 : decode prog_10_method_22_code 28 = .ok (.aload_n 0, 1) := by decide +kernel
theorem d_Mod_meets_29 : decode prog_10_method_22_code 29 = .ok (.getfield 51, 3) := by decide +kernel
theorem d_Mod_meets_32 : decode prog_10_method_22_code 32 = .ok (.iload_n 1, 1) := by decide +kernel
theorem d_Mod_meets_33 : decode prog_10_method_22_code 33 = .ok (.iaload, 1) := by decide +kernel
theorem d_Mod_meets_34 : decode prog_10_method_22_code 34 = .ok (.aload_n 0, 1) := by decide +kernel
theorem d_Mod_meets_35 : decode prog_10_method_22_code 35 = .ok (.getfield 17, 3) := by decide +kernel
theorem d_Mod_meets_38 : decode prog_10_method_22_code 38 = .ok (.iload_n 1, 1) := by decide +kernel
theorem d_Mod_meets_39 : decode prog_10_method_22_code 39 = .ok (.iaload, 1) := by decide +kernel
theorem d_Mod_meets_40 : decode prog_10_method_22_code 40 = .ok (.iadd, 1) := by decide +kernel
theorem d_Mod_meets_41 : decode prog_10_method_22_code 41 = .ok (.if_icmp .ge 51, 3) := by decide +kernel
theorem d_Mod_meets_44 : decode prog_10_method_22_code 44 = .ok (.aload_n 0, 1) := by decide +kernel
theorem d_Mod_meets_45 : decode prog_10_method_22_code 45 = .ok (.getfield 54, 3) := by decide +kernel
theorem d_Mod_meets_48 : decode prog_10_method_22_code 48 = .ok (.iload_n 1, 1) := by decide +kernel
theorem d_Mod_meets_49 : decode prog_10_method_22_code 49 = .ok (.iaload, 1) := by decide +kernel
theorem d_Mod_meets_50 : decode prog_10_method_22_code 50 = .ok (.aload_n 0, 1) := by decide +kernel
theorem d_Mod_meets_51 : decode prog_10_method_22_code 51 = .ok (.getfield 54, 3) := by decide +kernel
theorem d_Mod_meets_54 : decode prog_10_method_22_code 54 = .ok (.iload_n 2, 1) := by decide +kernel
theorem d_Mod_meets_55 : decode prog_10_method_22_code 55 = .ok (.iaload, 1) := by decide +kernel
theorem d_Mod_meets_56 : decode prog_10_method_22_code 56 = .ok (.aload_n 0, 1) := by decide +kernel
theorem d_Mod_meets_57 : decode prog_10_method_22_code 57 = .ok (.getfield 20, 3) := by decide +kernel
theorem d_Mod_meets_60 : decode prog_10_method_22_code 60 = .ok (.iload_n 2, 1) := by decide +kernel
theorem d_Mod_meets_61 : decode prog_10_method_22_code 61 = .ok (.iaload, 1) := by decide +kernel
theorem d_Mod_meets_62 : decode prog_10_method_22_code 62 = .ok (.iadd, 1) := by decide +kernel
theorem d_Mod_meets_63 : decode prog_10_method_22_code 63 = .ok (.if_icmp .ge 29, 3) := by decide +kernel
theorem d_Mod_meets_66 : decode prog_10_method_22_code 66 = .ok (.aload_n 0, 1) := by decide +kernel
theorem d_Mod_meets_67 : decode prog_10_method_22_code 67 = .ok (.getfield 54, 3) := by decide +kernel
theorem d_Mod_meets_70 : decode prog_10_method_22_code 70 = .ok (.iload_n 2, 1) := by decide +kernel
theorem d_Mod_meets_71 : decode prog_10_method_22_code 71 = .ok (.iaload, 1) := by decide +kernel
theorem d_Mod_meets_72 : decode prog_10_method_22_code 72 = .ok (.aload_n 0, 1) := by decide +kernel
theorem d_Mod_meets_73 : decode prog_10_method_22_code 73 = .ok (.getfield 54, 3) := by decide +kernel
theorem d_Mod_meets_76 : decode prog_10_method_22_code 76 = .ok (.iload_n 1, 1) := by decide +kernel
theorem d_Mod_meets_77 : decode prog_10_method_22_code 77 = .ok (.iaload, 1) := by decide +kernel
theorem d_Mod_meets_78 : decode prog_10_method_22_code 78 = .ok (.aload_n 0, 1) := by decide +kernel
theorem d_Mod_meets_79 : decode prog_10_method_22_code 79 = .ok (.getfield 20, 3) := by decide +kernel
theorem d_Mod_meets_82 : decode prog_10_method_22_code 82 = .ok (.iload_n 1, 1) := by decide +kernel
theorem d_Mod_meets_83 : decode prog_10_method_22_code 83 = .ok (.iaload, 1) := by decide +kernel
theorem d_Mod_meets_84 : decode prog_10_method_22_code 84 = .ok (.iadd, 1) := by decide +kernel
theorem d_Mod_meets_85 : decode prog_10_method_22_code 85 = .ok (.if_icmp .ge 7, 3) := by decide +kernel
theorem d_Mod_meets_88 : decode prog_10_method_22_code 88 = .ok (.iconst 1, 1) := by decide +kernel
theorem d_Mod_meets_89 : decode prog_10_method_22_code 89 = .ok (.goto 4, 3) := by decide +kernel
theorem d_Mod_meets_92 : decode prog_10_method_22_code 92 = .ok (.iconst 0, 1) := by decide +kernel
theorem d_Mod_meets_93 : decode prog_10_method_22_code 93 = .ok (.ireturn, 1) := by decide +kernel
theorem d_Mod_most_0 : decode prog_10_method_19_code 0 = .ok (.aload_n 0, 1) := by decide +kernel
theorem d_Mod_most_1 : decode prog_10_method_19_code 1 = .ok (.iload_n 1, 1) := by decide +kernel
theorem d_Mod_most_2 : decode prog_10_method_19_code 2 = .ok (.iconst 0, 1) := by decide +kernel
theorem d_Mod_most_3 : decode prog_10_method_19_code 3 = .ok (.bipush 99, 2) := by decide +kernel
theorem d_Mod_most_5 : decode prog_10_method_19_code 5 = .ok (.invokestatic 82, 3) := by decide +kernel
theorem d_Mod_most_8 : decode prog_10_method_19_code 8 = .ok (.ifCond .ne 7, 3) := by decide +kernel
theorem d_Mod_most_11 : decode prog_10_method_19_code 11 = .ok (.iconst 1, 1) := by decide +kernel
theorem d_Mod_most_12 : decode prog_10_method_19_code 12 = .ok (.goto 4, 3) := by decide +kernel
theorem d_Mod_most_15 : decode prog_10_method_19_code 15 = .ok (.iconst 0, 1) := by decide +kernel
theorem d_Mod_most_16 : decode prog_10_method_19_code 16 = .ok (.iconst 0, 1) := by decide +kernel
theorem d_Mod_most_17 : decode prog_10_method_19_code 17 = .ok (.iconst 0, 1) := by decide +kernel
theorem d_Mod_most_18 : decode prog_10_method_19_code 18 = .ok (.invokevirtual 106, 3) := by decide +kernel
theorem d_Mod_most_21 : decode prog_10_method_19_code 21 = .ok (.ifCond .eq 5, 3) := by decide +kernel
theorem d_Mod_most_24 : decode prog_10_method_19_code 24 = .ok (.iconst 0, 1) := by decide +kernel
theorem d_Mod_most_25 : decode prog_10_method_19_code 25 = .ok (.ireturn, 1) := by decide +kernel
theorem d_Mod_most_26 : decode prog_10_method_19_code 26 = .ok (.aload_n 0, 1) := by decide +kernel
theorem d_Mod_most_27 : decode prog_10_method_19_code 27 = .ok (.getfield 47, 3) := by decide +kernel
theorem d_Mod_most_30 : decode prog_10_method_19_code 30 = .ok (.istore_n 2, 1) := by decide +kernel
theorem d_Mod_most_31 : decode prog_10_method_19_code 31 = .ok (.aload_n 0, 1) := by decide +kernel
theorem d_Mod_most_32 : decode prog_10_method_19_code 32 = .ok (.iload_n 1, 1) := by decide +kernel
theorem d_Mod_most_33 : decode prog_10_method_19_code 33 = .ok (.putfield 47, 3) := by decide +kernel
theorem d_Mod_most_36 : decode prog_10_method_19_code 36 = .ok (.aload_n 0, 1) := by decide +kernel
theorem d_Mod_most_37 : decode prog_10_method_19_code 37 = .ok (.invokevirtual 116, 3) := by decide +kernel
theorem d_Mod_most_40 : decode prog_10_method_19_code 40 = .ok (.iload_n 2, 1) := by decide +kernel
theorem d_Mod_most_41 : decode prog_10_method_19_code 41 = .ok (.ireturn, 1) := by decide +kernel
theorem d_Mod_nodes_0 : decode prog_10_method_37_code 0 = .ok (.aload_n 0, 1) := by decide +kernel
theorem d_Mod_nodes_1 : decode prog_10_method_37_code 1 = .ok (.iconst 0, 1) := by decide +kernel
theorem d_Mod_nodes_2 : decode prog_10_method_37_code 2 = .ok (.putfield 79, 3) := by decide +kernel
theorem d_Mod_nodes_5 : decode prog_10_method_37_code 5 = .ok (.aload_n 0, 1) := by decide +kernel
theorem d_Mod_nodes_6 : decode prog_10_method_37_code 6 = .ok (.getfield 93, 3) := by decide +kernel
theorem d_Mod_nodes_9 : decode prog_10_method_37_code 9 = .ok (.ireturn, 1) := by decide +kernel
theorem d_Mod_place_0 : decode prog_10_method_16_code 0 = .ok (.aload_n 0, 1) := by decide +kernel
theorem d_Mod_place_1 : decode prog_10_method_16_code 1 = .ok (.iload_n 1, 1) := by decide +kernel
theorem d_Mod_place_2 : decode prog_10_method_16_code 2 = .ok (.iload_n 2, 1) := by decide +kernel
theorem d_Mod_place_3 : decode prog_10_method_16_code 3 = .ok (.invokevirtual 102, 3) := by decide +kernel
theorem d_Mod_place_6 : decode prog_10_method_16_code 6 = .ok (.ifCond .ne 7, 3) := by decide +kernel
theorem d_Mod_place_9 : decode prog_10_method_16_code 9 = .ok (.iconst 1, 1) := by decide +kernel
theorem d_Mod_place_10 : decode prog_10_method_16_code 10 = .ok (.goto 4, 3) := by decide +kernel
theorem d_Mod_place_13 : decode prog_10_method_16_code 13 = .ok (.iconst 0, 1) := by decide +kernel
theorem d_Mod_place_14 : decode prog_10_method_16_code 14 = .ok (.istore_n 3, 1) := by decide +kernel
theorem d_Mod_place_15 : decode prog_10_method_16_code 15 = .ok (.aload_n 0, 1) := by decide +kernel
theorem d_Mod_place_16 : decode prog_10_method_16_code 16 = .ok (.iload_n 3, 1) := by decide +kernel
theorem d_Mod_place_17 : decode prog_10_method_16_code 17 = .ok (.aload_n 0, 1) := by decide +kernel
theorem d_Mod_place_18 : decode prog_10_method_16_code 18 = .ok (.getfield 99, 3) := by decide +kernel
theorem d_Mod_place_21 : decode prog_10_method_16_code 21 = .ok (.bipush 8, 2) := by decide +kernel
theorem d_Mod_place_23 : decode prog_10_method_16_code 23 = .ok (.if_icmp .ne 7, 3) := by decide +kernel
theorem d_Mod_place_26 : decode prog_10_method_16_code 26 = .ok (.iconst 1, 1) := by decide +kernel
theorem d_Mod_place_27 : decode prog_10_method_16_code 27 = .ok (.goto 4, 3) := by decide +kernel
theorem d_Mod_place_30 : decode prog_10_method_16_code 30 = .ok (.iconst 0, 1) := by decide +kernel
theorem d_Mod_place_31 : decode prog_10_method_16_code 31 = .ok (.iload_n 3, 1) := by decide +kernel
theorem d_Mod_place_32 : decode prog_10_method_16_code 32 = .ok (.ifCond .ne 21, 3) := by decide +kernel
theorem d_Mod_place_35 : decode prog_10_method_16_code 35 = .ok (.aload_n 0, 1) := by decide +kernel
theorem d_Mod_place_36 : decode prog_10_method_16_code 36 = .ok (.getfield 7, 3) := by decide +kernel
theorem d_Mod_place_39 : decode prog_10_method_16_code 39 = .ok (.bipush 9, 2) := by decide +kernel
theorem d_Mod_place_41 : decode prog_10_method_16_code 41 = .ok (.iload_n 2, 1) := by decide +kernel
theorem d_Mod_place_42 : decode prog_10_method_16_code 42 = .ok (.imul, 1) := by decide +kernel
theorem d_Mod_place_43 : decode prog_10_method_16_code 43 = .ok (.iload_n 1, 1) := by decide +kernel
theorem d_Mod_place_44 : decode prog_10_method_16_code 44 = .ok (.iadd, 1) := by decide +kernel
theorem d_Mod_place_45 : decode prog_10_method_16_code 45 = .ok (.baload, 1) := by decide +kernel
theorem d_Mod_place_46 : decode prog_10_method_16_code 46 = .ok (.ifCond .eq 7, 3) := by decide +kernel
theorem d_Mod_place_49 : decode prog_10_method_16_code 49 = .ok (.iconst 1, 1) := by decide +kernel
theorem d_Mod_place_50 : decode prog_10_method_16_code 50 = .ok (.goto 4, 3) := by decide +kernel
theorem d_Mod_place_53 : decode prog_10_method_16_code 53 = .ok (.iconst 0, 1) := by decide +kernel
theorem d_Mod_place_54 : decode prog_10_method_16_code 54 = .ok (.invokevirtual 106, 3) := by decide +kernel
theorem d_Mod_place_57 : decode prog_10_method_16_code 57 = .ok (.ifCond .eq 5, 3) := by decide +kernel
theorem d_Mod_place_60 : decode prog_10_method_16_code 60 = .ok (.iconst 0, 1) := by decide +kernel
theorem d_Mod_place_61 : decode prog_10_method_16_code 61 = .ok (.ireturn, 1) := by decide +kernel
theorem d_Mod_place_62 : decode prog_10_method_16_code 62 = .ok (.aload_n 0, 1) := by decide +kernel
theorem d_Mod_place_63 : decode prog_10_method_16_code 63 = .ok (.getfield 32, 3) := by decide +kernel
theorem d_Mod_place_66 : decode prog_10_method_16_code 66 = .ok (.aload_n 0, 1) := by decide +kernel
theorem d_Mod_place_67 : decode prog_10_method_16_code 67 = .ok (.getfield 99, 3) := by decide +kernel
theorem d_Mod_place_70 : decode prog_10_method_16_code 70 = .ok (.iload_n 1, 1) := by decide +kernel
theorem d_Mod_place_71 : decode prog_10_method_16_code 71 = .ok (.iastore, 1) := by decide +kernel
theorem d_Mod_place_72 : decode prog_10_method_16_code 72 = .ok (.aload_n 0, 1) := by decide +kernel
theorem d_Mod_place_73 : decode prog_10_method_16_code 73 = .ok (.getfield 35, 3) := by decide +kernel
theorem d_Mod_place_76 : decode prog_10_method_16_code 76 = .ok (.aload_n 0, 1) := by decide +kernel
theorem d_Mod_place_77 : decode prog_10_method_16_code 77 = .ok (.getfield 99, 3) := by decide +kernel
theorem d_Mod_place_80 : decode prog_10_method_16_code 80 = .ok (.iload_n 2, 1) := by decide +kernel
theorem d_Mod_place_81 : decode prog_10_method_16_code 81 = .ok (.iastore, 1) := by decide +kernel
theorem d_Mod_place_82 : decode prog_10_method_16_code 82 = .ok (.aload_n 0, 1) := by decide +kernel
theorem d_Mod_place_83 : decode prog_10_method_16_code 83 = .ok (.dup, 1) := by decide +kernel
theorem d_Mod_place_84 : decode prog_10_method_16_code 84 = .ok (.getfield 99, 3) := by decide +kernel
theorem d_Mod_place_87 : decode prog_10_method_16_code 87 = .ok (.iconst 1, 1) := by decide +kernel
theorem d_Mod_place_88 : decode prog_10_method_16_code 88 = .ok (.iadd, 1) := by decide +kernel
theorem d_Mod_place_89 : decode prog_10_method_16_code 89 = .ok (.putfield 99, 3) := by decide +kernel
theorem d_Mod_place_92 : decode prog_10_method_16_code 92 = .ok (.aload_n 0, 1) := by decide +kernel
theorem d_Mod_place_93 : decode prog_10_method_16_code 93 = .ok (.getfield 99, 3) := by decide +kernel
theorem d_Mod_place_96 : decode prog_10_method_16_code 96 = .ok (.iconst 1, 1) := by decide +kernel
theorem d_Mod_place_97 : decode prog_10_method_16_code 97 = .ok (.isub, 1) := by decide +kernel
theorem d_Mod_place_98 : decode prog_10_method_16_code 98 = .ok (.ireturn, 1) := by decide +kernel
theorem d_Mod_run_0 : decode prog_10_method_36_code 0 = .ok (.aload_n 0, 1) := by decide +kernel
theorem d_Mod_run_1 : decode prog_10_method_36_code 1 = .ok (.iload_n 1, 1) := by decide +kernel
theorem d_Mod_run_2 : decode prog_10_method_36_code 2 = .ok (.iconst 0, 1) := by decide +kernel
theorem d_Mod_run_3 : decode prog_10_method_36_code 3 = .ok (.sipush 20000, 3) := by decide +kernel
theorem d_Mod_run_6 : decode prog_10_method_36_code 6 = .ok (.invokestatic 82, 3) := by decide +kernel
theorem d_Mod_run_9 : decode prog_10_method_36_code 9 = .ok (.ifCond .ne 7, 3) := by decide +kernel
theorem d_Mod_run_12 : decode prog_10_method_36_code 12 = .ok (.iconst 1, 1) := by decide +kernel
theorem d_Mod_run_13 : decode prog_10_method_36_code 13 = .ok (.goto 4, 3) := by decide +kernel
theorem d_Mod_run_16 : decode prog_10_method_36_code 16 = .ok (.iconst 0, 1) := by decide +kernel
theorem d_Mod_run_17 : decode prog_10_method_36_code 17 = .ok (.iconst 0, 1) := by decide +kernel
theorem d_Mod_run_18 : decode prog_10_method_36_code 18 = .ok (.iconst 0, 1) := by decide +kernel
theorem d_Mod_run_19 : decode prog_10_method_36_code 19 = .ok (.invokevirtual 106, 3) := by decide +kernel
theorem d_Mod_run_22 : decode prog_10_method_36_code 22 = .ok (.ifCond .eq 5, 3) := by decide +kernel
theorem d_Mod_run_25 : decode prog_10_method_36_code 25 = .ok (.iconst 0, 1) := by decide +kernel
theorem d_Mod_run_26 : decode prog_10_method_36_code 26 = .ok (.ireturn, 1) := by decide +kernel
theorem d_Mod_run_27 : decode prog_10_method_36_code 27 = .ok (.aload_n 0, 1) := by decide +kernel
theorem d_Mod_run_28 : decode prog_10_method_36_code 28 = .ok (.invokevirtual 116, 3) := by decide +kernel
theorem d_Mod_run_31 : decode prog_10_method_36_code 31 = .ok (.aload_n 0, 1) := by decide +kernel
theorem d_Mod_run_32 : decode prog_10_method_36_code 32 = .ok (.iload_n 1, 1) := by decide +kernel
theorem d_Mod_run_33 : decode prog_10_method_36_code 33 = .ok (.invokevirtual 176, 3) := by decide +kernel
theorem d_Mod_run_36 : decode prog_10_method_36_code 36 = .ok (.istore_n 2, 1) := by decide +kernel
theorem d_Mod_run_37 : decode prog_10_method_36_code 37 = .ok (.iload_n 2, 1) := by decide +kernel
theorem d_Mod_run_38 : decode prog_10_method_36_code 38 = .ok (.ifCond .ne 7, 3) := by decide +kernel
theorem d_Mod_run_41 : decode prog_10_method_36_code 41 = .ok (.iconst 1, 1) := by decide +kernel
theorem d_Mod_run_42 : decode prog_10_method_36_code 42 = .ok (.goto 15, 3) := by decide +kernel
theorem d_Mod_run_45 : decode prog_10_method_36_code 45 = .ok (.aload_n 0, 1) := by decide +kernel
theorem d_Mod_run_46 : decode prog_10_method_36_code 46 = .ok (.getfield 89, 3) := by decide +kernel
theorem d_Mod_run_49 : decode prog_10_method_36_code 49 = .ok (.ifCond .eq 7, 3) := by decide +kernel
theorem d_Mod_run_52 : decode prog_10_method_36_code 52 = .ok (.iconst 0, 1) := by decide +kernel
theorem d_Mod_run_53 : decode prog_10_method_36_code 53 = .ok (.goto 4, 3) := by decide +kernel
theorem d_Mod_run_56 : decode prog_10_method_36_code 56 = .ok (.iconst 2, 1) := by decide +kernel
theorem d_Mod_run_57 : decode prog_10_method_36_code 57 = .ok (.ireturn, 1) := by decide +kernel
theorem d_Mod_search_0 : decode prog_10_method_35_code 0 = .ok (.iconst 0, 1) := by decide +kernel
theorem d_Mod_search_1 : decode prog_10_method_35_code 1 = .ok (.istore_n 2, 1) := by decide +kernel
theorem d_Mod_search_2 : decode prog_10_method_35_code 2 = .ok (.aload_n 0, 1) := by decide +kernel
theorem d_Mod_search_3 : decode prog_10_method_35_code 3 = .ok (.getfield 57, 3) := by decide +kernel
theorem d_Mod_search_6 : decode prog_10_method_35_code 6 = .ok (.iconst 0, 1) := by decide +kernel
theorem d_Mod_search_7 : decode prog_10_method_35_code 7 = .ok (.iconst 0, 1) := by decide +kernel
theorem d_Mod_search_8 : decode prog_10_method_35_code 8 = .ok (.iastore, 1) := by decide +kernel
theorem d_Mod_search_9 : decode prog_10_method_35_code 9 = .ok (.iload_n 2, 1) := by decide +kernel
theorem d_Mod_search_10 : decode prog_10_method_35_code 10 = .ok (.ifCond .lt 140, 3) := by decide +kernel
theorem d_Mod_search_13 : decode prog_10_method_35_code 13 = .ok (.iload_n 2, 1) := by decide +kernel
theorem d_Mod_search_14 : decode prog_10_method_35_code 14 = .ok (.aload_n 0, 1) := by decide +kernel
theorem d_Mod_search_15 : decode prog_10_method_35_code 15 = .ok (.getfield 86, 3) := by decide +kernel
theorem d_Mod_search_18 : decode prog_10_method_35_code 18 = .ok (.if_icmp .ne 20, 3) := by decide +kernel
theorem d_Mod_search_21 : decode prog_10_method_35_code 21 = .ok (.aload_n 0, 1) := by decide +kernel
theorem d_Mod_search_22 : decode prog_10_method_35_code 22 = .ok (.invokevirtual 166, 3) := by decide +kernel
theorem d_Mod_search_25 : decode prog_10_method_35_code 25 = .ok (.ifCond .eq 7, 3) := by decide +kernel
theorem d_Mod_search_28 : decode prog_10_method_35_code 28 = .ok (.aload_n 0, 1) := by decide +kernel
theorem d_Mod_search_29 : decode prog_10_method_35_code 29 = .ok (.invokevirtual 170, 3) := by decide +kernel
theorem d_Mod_search_32 : decode prog_10_method_35_code 32 = .ok (.iinc 2 (-1), 3) := by decide +kernel
theorem d_Mod_search_35 : decode prog_10_method_35_code 35 = .ok (.goto (-26), 3) := by decide +kernel
theorem d_Mod_search_38 : decode prog_10_method_35_code 38 = .ok (.aload_n 0, 1) := by decide +kernel
theorem d_Mod_search_39 : decode prog_10_method_35_code 39 = .ok (.getfield 57, 3) := by decide +kernel
theorem d_Mod_search_42 : decode prog_10_method_35_code 42 = .ok (.iload_n 2, 1) := by decide +kernel
theorem d_Mod_search_43 : decode prog_10_method_35_code 43 = .ok (.iaload, 1) := by decide +kernel
theorem d_Mod_search_44 : decode prog_10_method_35_code 44 = .ok (.aload_n 0, 1) := by decide +kernel
theorem d_Mod_search_45 : decode prog_10_method_35_code 45 = .ok (.getfield 73, 3) := by decide +kernel
theorem d_Mod_search_48 : decode prog_10_method_35_code 48 = .ok (.aload_n 0, 1) := by decide +kernel
theorem d_Mod_search_49 : decode prog_10_method_35_code 49 = .ok (.getfield 76, 3) := by decide +kernel
theorem d_Mod_search_52 : decode prog_10_method_35_code 52 = .ok (.imul, 1) := by decide +kernel
theorem d_Mod_search_53 : decode prog_10_method_35_code 53 = .ok (.if_icmp .ne 9, 3) := by decide +kernel
theorem d_Mod_search_56 : decode prog_10_method_35_code 56 = .ok (.iinc 2 (-1), 3) := by decide +kernel
theorem d_Mod_search_59 : decode prog_10_method_35_code 59 = .ok (.goto (-50), 3) := by decide +kernel
theorem d_Mod_search_62 : decode prog_10_method_35_code 62 = .ok (.aload_n 0, 1) := by decide +kernel
theorem d_Mod_search_63 : decode prog_10_method_35_code 63 = .ok (.getfield 51, 3) := by decide +kernel
theorem d_Mod_search_66 : decode prog_10_method_35_code 66 = .ok (.iload_n 2, 1) := by decide +kernel
theorem d_Mod_search_67 : decode prog_10_method_35_code 67 = .ok (.aload_n 0, 1) := by decide +kernel
theorem d_Mod_search_68 : decode prog_10_method_35_code 68 = .ok (.getfield 57, 3) := by decide +kernel
theorem d_Mod_search_71 : decode prog_10_method_35_code 71 = .ok (.iload_n 2, 1) := by decide +kernel
theorem d_Mod_search_72 : decode prog_10_method_35_code 72 = .ok (.iaload, 1) := by decide +kernel
theorem d_Mod_search_73 : decode prog_10_method_35_code 73 = .ok (.aload_n 0, 1) := by decide +kernel
theorem d_Mod_search_74 : decode prog_10_method_35_code 74 = .ok (.getfield 73, 3) := by decide +kernel
theorem d_Mod_search_77 : decode prog_10_method_35_code 77 = .ok (.irem, 1) := by decide +kernel
theorem d_Mod_search_78 : decode prog_10_method_35_code 78 = .ok (.iastore, 1) := by decide +kernel
theorem d_Mod_search_79 : decode prog_10_method_35_code 79 = .ok (.aload_n 0, 1) := by decide +kernel
theorem d_Mod_search_80 : decode prog_10_method_35_code 80 = .ok (.getfield 54, 3) := by decide +kernel
theorem d_Mod_search_83 : decode prog_10_method_35_code 83 = .ok (.iload_n 2, 1) := by decide +kernel
theorem d_Mod_search_84 : decode prog_10_method_35_code 84 = .ok (.aload_n 0, 1) := by decide +kernel
theorem d_Mod_search_85 : decode prog_10_method_35_code 85 = .ok (.getfield 57, 3) := by decide +kernel
theorem d_Mod_search_88 : decode prog_10_method_35_code 88 = .ok (.iload_n 2, 1) := by decide +kernel
theorem d_Mod_search_89 : decode prog_10_method_35_code 89 = .ok (.iaload, 1) := by decide +kernel
theorem d_Mod_search_90 : decode prog_10_method_35_code 90 = .ok (.aload_n 0, 1) := by decide +kernel
theorem d_Mod_search_91 : decode prog_10_method_35_code 91 = .ok (.getfield 73, 3) := by decide +kernel
theorem d_Mod_search_94 : decode prog_10_method_35_code 94 = .ok (.idiv, 1) := by decide +kernel
theorem d_Mod_search_95 : decode prog_10_method_35_code 95 = .ok (.iastore, 1) := by decide +kernel
theorem d_Mod_search_96 : decode prog_10_method_35_code 96 = .ok (.aload_n 0, 1) := by decide +kernel
theorem d_Mod_search_97 : decode prog_10_method_35_code 97 = .ok (.getfield 57, 3) := by decide +kernel
theorem d_Mod_search_100 : decode prog_10_method_35_code 100 = .ok (.iload_n 2, 1) := by decide +kernel
theorem d_Mod_search_101 : decode prog_10_method_35_code 101 = .ok (.dup2, 1) := by decide +kernel
theorem d_Mod_search_102 : decode prog_10_method_35_code 102 = .ok (.iaload, 1) := by decide +kernel
theorem d_Mod_search_103 : decode prog_10_method_35_code 103 = .ok (.iconst 1, 1) := by decide +kernel
theorem d_Mod_search_104 : decode prog_10_method_35_code 104 = .ok (.iadd, 1) := by decide +kernel
theorem d_Mod_search_105 : decode prog_10_method_35_code 105 = .ok (.iastore, 1) := by decide +kernel
theorem d_Mod_search_106 : decode prog_10_method_35_code 106 = .ok (.aload_n 0, 1) := by decide +kernel
theorem d_Mod_search_107 : decode prog_10_method_35_code 107 = .ok (.iload_n 2, 1) := by decide +kernel
theorem d_Mod_search_108 : decode prog_10_method_35_code 108 = .ok (.invokevirtual 173, 3) := by decide +kernel
theorem d_Mod_search_111 : decode prog_10_method_35_code 111 = .ok (.ifCond .ne 6, 3) := by decide +kernel
theorem d_Mod_search_114 : decode prog_10_method_35_code 114 = .ok (.goto (-105), 3) := by decide +kernel
theorem d_Mod_search_117 : decode prog_10_method_35_code 117 = .ok (.aload_n 0, 1) := by decide +kernel
theorem d_Mod_search_118 : decode prog_10_method_35_code 118 = .ok (.getfield 93, 3) := by decide +kernel
theorem d_Mod_search_121 : decode prog_10_method_35_code 121 = .ok (.iload_n 1, 1) := by decide +kernel
theorem d_Mod_search_122 : decode prog_10_method_35_code 122 = .ok (.if_icmp .ne 5, 3) := by decide +kernel
theorem d_Mod_search_125 : decode prog_10_method_35_code 125 = .ok (.iconst 0, 1) := by decide +kernel
theorem d_Mod_search_126 : decode prog_10_method_35_code 126 = .ok (.ireturn, 1) := by decide +kernel
theorem d_Mod_search_127 : decode prog_10_method_35_code 127 = .ok (.aload_n 0, 1) := by decide +kernel
theorem d_Mod_search_128 : decode prog_10_method_35_code 128 = .ok (.dup, 1) := by decide +kernel
theorem d_Mod_search_129 : decode prog_10_method_35_code 129 = .ok (.getfield 93, 3) := by decide +kernel
theorem d_Mod_search_132 : decode prog_10_method_35_code 132 = .ok (.iconst 1, 1) := by decide +kernel
theorem d_Mod_search_133 : decode prog_10_method_35_code 133 = .ok (.iadd, 1) := by decide +kernel
theorem d_Mod_search_134 : decode prog_10_method_35_code 134 = .ok (.putfield 93, 3) := by decide +kernel
theorem d_Mod_search_137 : decode prog_10_method_35_code 137 = .ok (.iinc 2 1, 3) := by decide +kernel
theorem d_Mod_search_140 : decode prog_10_method_35_code 140 = .ok (.aload_n 0, 1) := by decide +kernel
theorem d_Mod_search_141 : decode prog_10_method_35_code 141 = .ok (.getfield 57, 3) := by decide +kernel
theorem d_Mod_search_144 : decode prog_10_method_35_code 144 = .ok (.iload_n 2, 1) := by decide +kernel
theorem d_Mod_search_145 : decode prog_10_method_35_code 145 = .ok (.iconst 0, 1) := by decide +kernel
theorem d_Mod_search_146 : decode prog_10_method_35_code 146 = .ok (.iastore, 1) := by decide +kernel
theorem d_Mod_search_147 : decode prog_10_method_35_code 147 = .ok (.goto (-138), 3) := by decide +kernel
theorem d_Mod_search_150 : decode prog_10_method_35_code 150 = .ok (.iconst 1, 1) := by decide +kernel
theorem d_Mod_search_151 : decode prog_10_method_35_code 151 = .ok (.ireturn, 1) := by decide +kernel
theorem d_Mod_sees_0 : decode prog_10_method_17_code 0 = .ok (.aload_n 0, 1) := by decide +kernel
theorem d_Mod_sees_1 : decode prog_10_method_17_code 1 = .ok (.iload_n 1, 1) := by decide +kernel
theorem d_Mod_sees_2 : decode prog_10_method_17_code 2 = .ok (.iconst 0, 1) := by decide +kernel
