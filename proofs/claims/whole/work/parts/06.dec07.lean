theorem d_Mod_measure_17 : decode prog_10_method_30_code 17 = .ok (.iinc 1 1, 3) := by decide +kernel
theorem d_Mod_measure_20 : decode prog_10_method_30_code 20 = .ok (.goto (-18), 3) := by decide +kernel
theorem d_Mod_measure_23 : decode prog_10_method_30_code 23 = .ok (.iconst 0, 1) := by decide +kernel
theorem d_Mod_measure_24 : decode prog_10_method_30_code 24 = .ok (.istore_n 1, 1) := by decide +kernel
theorem d_Mod_measure_25 : decode prog_10_method_30_code 25 = .ok (.iload_n 1, 1) := by decide +kernel
theorem d_Mod_measure_26 : decode prog_10_method_30_code 26 = .ok (.aload_n 0, 1) := by decide +kernel
theorem d_Mod_measure_27 : decode prog_10_method_30_code 27 = .ok (.getfield 96, 3) := by decide +kernel
theorem d_Mod_measure_30 : decode prog_10_method_30_code 30 = .ok (.if_icmp .ge 50, 3) := by decide +kernel
theorem d_Mod_measure_33 : decode prog_10_method_30_code 33 = .ok (.aload_n 0, 1) := by decide +kernel
theorem d_Mod_measure_34 : decode prog_10_method_30_code 34 = .ok (.aload_n 0, 1) := by decide +kernel
theorem d_Mod_measure_35 : decode prog_10_method_30_code 35 = .ok (.getfield 41, 3) := by decide +kernel
theorem d_Mod_measure_38 : decode prog_10_method_30_code 38 = .ok (.iload_n 1, 1) := by decide +kernel
theorem d_Mod_measure_39 : decode prog_10_method_30_code 39 = .ok (.iaload, 1) := by decide +kernel
theorem d_Mod_measure_40 : decode prog_10_method_30_code 40 = .ok (.aload_n 0, 1) := by decide +kernel
theorem d_Mod_measure_41 : decode prog_10_method_30_code 41 = .ok (.getfield 44, 3) := by decide +kernel
theorem d_Mod_measure_44 : decode prog_10_method_30_code 44 = .ok (.iload_n 1, 1) := by decide +kernel
theorem d_Mod_measure_45 : decode prog_10_method_30_code 45 = .ok (.iaload, 1) := by decide +kernel
theorem d_Mod_measure_46 : decode prog_10_method_30_code 46 = .ok (.invokevirtual 144, 3) := by decide +kernel
theorem d_Mod_measure_49 : decode prog_10_method_30_code 49 = .ok (.ifCond .eq 25, 3) := by decide +kernel
theorem d_Mod_measure_52 : decode prog_10_method_30_code 52 = .ok (.aload_n 0, 1) := by decide +kernel
theorem d_Mod_measure_53 : decode prog_10_method_30_code 53 = .ok (.getfield 66, 3) := by decide +kernel
theorem d_Mod_measure_56 : decode prog_10_method_30_code 56 = .ok (.bipush 9, 2) := by decide +kernel
theorem d_Mod_measure_58 : decode prog_10_method_30_code 58 = .ok (.aload_n 0, 1) := by decide +kernel
theorem d_Mod_measure_59 : decode prog_10_method_30_code 59 = .ok (.getfield 44, 3) := by decide +kernel
theorem d_Mod_measure_62 : decode prog_10_method_30_code 62 = .ok (.iload_n 1, 1) := by decide +kernel
theorem d_Mod_measure_63 : decode prog_10_method_30_code 63 = .ok (.iaload, 1) := by decide +kernel
theorem d_Mod_measure_64 : decode prog_10_method_30_code 64 = .ok (.imul, 1) := by decide +kernel
theorem d_Mod_measure_65 : decode prog_10_method_30_code 65 = .ok (.aload_n 0, 1) := by decide +kernel
theorem d_Mod_measure_66 : decode prog_10_method_30_code 66 = .ok (.getfield 41, 3) := by decide +kernel
theorem d_Mod_measure_69 : decode prog_10_method_30_code 69 = .ok (.iload_n 1, 1) := by decide +kernel
theorem d_Mod_measure_70 : decode prog_10_method_30_code 70 = .ok (.iaload, 1) := by decide +kernel
theorem d_Mod_measure_71 : decode prog_10_method_30_code 71 = .ok (.iadd, 1) := by decide +kernel
theorem d_Mod_measure_72 : decode prog_10_method_30_code 72 = .ok (.iconst 0, 1) := by decide +kernel
theorem d_Mod_measure_73 : decode prog_10_method_30_code 73 = .ok (.iastore, 1) := by decide +kernel
theorem d_Mod_measure_74 : decode prog_10_method_30_code 74 = .ok (.iinc 1 1, 3) := by decide +kernel
theorem d_Mod_measure_77 : decode prog_10_method_30_code 77 = .ok (.goto (-52), 3) := by decide +kernel
theorem d_Mod_measure_80 : decode prog_10_method_30_code 80 = .ok (.iconst 1, 1) := by decide +kernel
theorem d_Mod_measure_81 : decode prog_10_method_30_code 81 = .ok (.istore_n 1, 1) := by decide +kernel
theorem d_Mod_measure_82 : decode prog_10_method_30_code 82 = .ok (.iload_n 1, 1) := by decide +kernel
theorem d_Mod_measure_83 : decode prog_10_method_30_code 83 = .ok (.ifCond .eq 230, 3) := by decide +kernel
theorem d_Mod_measure_86 : decode prog_10_method_30_code 86 = .ok (.iconst 0, 1) := by decide +kernel
theorem d_Mod_measure_87 : decode prog_10_method_30_code 87 = .ok (.istore_n 1, 1) := by decide +kernel
theorem d_Mod_measure_88 : decode prog_10_method_30_code 88 = .ok (.iconst 0, 1) := by decide +kernel
theorem d_Mod_measure_89 : decode prog_10_method_30_code 89 = .ok (.istore_n 2, 1) := by decide +kernel
theorem d_Mod_measure_90 : decode prog_10_method_30_code 90 = .ok (.iload_n 2, 1) := by decide +kernel
theorem d_Mod_measure_91 : decode prog_10_method_30_code 91 = .ok (.aload_n 0, 1) := by decide +kernel
theorem d_Mod_measure_92 : decode prog_10_method_30_code 92 = .ok (.getfield 73, 3) := by decide +kernel
theorem d_Mod_measure_95 : decode prog_10_method_30_code 95 = .ok (.aload_n 0, 1) := by decide +kernel
theorem d_Mod_measure_96 : decode prog_10_method_30_code 96 = .ok (.getfield 76, 3) := by decide +kernel
theorem d_Mod_measure_99 : decode prog_10_method_30_code 99 = .ok (.imul, 1) := by decide +kernel
theorem d_Mod_measure_100 : decode prog_10_method_30_code 100 = .ok (.if_icmp .ge 210, 3) := by decide +kernel
theorem d_Mod_measure_103 : decode prog_10_method_30_code 103 = .ok (.iload_n 2, 1) := by decide +kernel
theorem d_Mod_measure_104 : decode prog_10_method_30_code 104 = .ok (.aload_n 0, 1) := by decide +kernel
theorem d_Mod_measure_105 : decode prog_10_method_30_code 105 = .ok (.getfield 73, 3) := by decide +kernel
theorem d_Mod_measure_108 : decode prog_10_method_30_code 108 = .ok (.irem, 1) := by decide +kernel
theorem d_Mod_measure_109 : decode prog_10_method_30_code 109 = .ok (.istore_n 3, 1) := by decide +kernel
theorem d_Mod_measure_110 : decode prog_10_method_30_code 110 = .ok (.iload_n 2, 1) := by decide +kernel
theorem d_Mod_measure_111 : decode prog_10_method_30_code 111 = .ok (.aload_n 0, 1) := by decide +kernel
theorem d_Mod_measure_112 : decode prog_10_method_30_code 112 = .ok (.getfield 73, 3) := by decide +kernel
theorem d_Mod_measure_115 : decode prog_10_method_30_code 115 = .ok (.idiv, 1) := by decide +kernel
theorem d_Mod_measure_116 : decode prog_10_method_30_code 116 = .ok (.istore 4, 2) := by decide +kernel
theorem d_Mod_measure_118 : decode prog_10_method_30_code 118 = .ok (.aload_n 0, 1) := by decide +kernel
theorem d_Mod_measure_119 : decode prog_10_method_30_code 119 = .ok (.iload_n 3, 1) := by decide +kernel
theorem d_Mod_measure_120 : decode prog_10_method_30_code 120 = .ok (.iload 4, 2) := by decide +kernel
theorem d_Mod_measure_122 : decode prog_10_method_30_code 122 = .ok (.invokevirtual 147, 3) := by decide +kernel
theorem d_Mod_measure_125 : decode prog_10_method_30_code 125 = .ok (.istore 5, 2) := by decide +kernel
theorem d_Mod_measure_127 : decode prog_10_method_30_code 127 = .ok (.aload_n 0, 1) := by decide +kernel
theorem d_Mod_measure_128 : decode prog_10_method_30_code 128 = .ok (.iload_n 3, 1) := by decide +kernel
theorem d_Mod_measure_129 : decode prog_10_method_30_code 129 = .ok (.iconst 1, 1) := by decide +kernel
theorem d_Mod_measure_130 : decode prog_10_method_30_code 130 = .ok (.isub, 1) := by decide +kernel
theorem d_Mod_measure_131 : decode prog_10_method_30_code 131 = .ok (.iload 4, 2) := by decide +kernel
theorem d_Mod_measure_133 : decode prog_10_method_30_code 133 = .ok (.invokevirtual 147, 3) := by decide +kernel
theorem d_Mod_measure_136 : decode prog_10_method_30_code 136 = .ok (.iconst 1, 1) := by decide +kernel
theorem d_Mod_measure_137 : decode prog_10_method_30_code 137 = .ok (.iadd, 1) := by decide +kernel
theorem d_Mod_measure_138 : decode prog_10_method_30_code 138 = .ok (.iload 5, 2) := by decide +kernel
theorem d_Mod_measure_140 : decode prog_10_method_30_code 140 = .ok (.if_icmp .ge 17, 3) := by decide +kernel
theorem d_Mod_measure_143 : decode prog_10_method_30_code 143 = .ok (.aload_n 0, 1) := by decide +kernel
theorem d_Mod_measure_144 : decode prog_10_method_30_code 144 = .ok (.iload_n 3, 1) := by decide +kernel
theorem d_Mod_measure_145 : decode prog_10_method_30_code 145 = .ok (.iconst 1, 1) := by decide +kernel
theorem d_Mod_measure_146 : decode prog_10_method_30_code 146 = .ok (.isub, 1) := by decide +kernel
theorem d_Mod_measure_147 : decode prog_10_method_30_code 147 = .ok (.iload 4, 2) := by decide +kernel
theorem d_Mod_measure_149 : decode prog_10_method_30_code 149 = .ok (.invokevirtual 147, 3) := by decide +kernel
theorem d_Mod_measure_152 : decode prog_10_method_30_code 152 = .ok (.iconst 1, 1) := by decide +kernel
theorem d_Mod_measure_153 : decode prog_10_method_30_code 153 = .ok (.iadd, 1) := by decide +kernel
theorem d_Mod_measure_154 : decode prog_10_method_30_code 154 = .ok (.goto 5, 3) := by decide +kernel
theorem d_Mod_measure_157 : decode prog_10_method_30_code 157 = .ok (.iload 5, 2) := by decide +kernel
theorem d_Mod_measure_159 : decode prog_10_method_30_code 159 = .ok (.istore 5, 2) := by decide +kernel
theorem d_Mod_measure_161 : decode prog_10_method_30_code 161 = .ok (.aload_n 0, 1) := by decide +kernel
theorem d_Mod_measure_162 : decode prog_10_method_30_code 162 = .ok (.iload_n 3, 1) := by decide +kernel
theorem d_Mod_measure_163 : decode prog_10_method_30_code 163 = .ok (.iconst 1, 1) := by decide +kernel
theorem d_Mod_measure_164 : decode prog_10_method_30_code 164 = .ok (.iadd, 1) := by decide +kernel
theorem d_Mod_measure_165 : decode prog_10_method_30_code 165 = .ok (.iload 4, 2) := by decide +kernel
theorem d_Mod_measure_167 : decode prog_10_method_30_code 167 = .ok (.invokevirtual 147, 3) := by decide +kernel
theorem d_Mod_measure_170 : decode prog_10_method_30_code 170 = .ok (.iconst 1, 1) := by decide +kernel
theorem d_Mod_measure_171 : decode prog_10_method_30_code 171 = .ok (.iadd, 1) := by decide +kernel
theorem d_Mod_measure_172 : decode prog_10_method_30_code 172 = .ok (.iload 5, 2) := by decide +kernel
theorem d_Mod_measure_174 : decode prog_10_method_30_code 174 = .ok (.if_icmp .ge 17, 3) := by decide +kernel
theorem d_Mod_measure_177 : decode prog_10_method_30_code 177 = .ok (.aload_n 0, 1) := by decide +kernel
theorem d_Mod_measure_178 : decode prog_10_method_30_code 178 = .ok (.iload_n 3, 1) := by decide +kernel
theorem d_Mod_measure_179 : decode prog_10_method_30_code 179 = .ok (.iconst 1, 1) := by decide +kernel
theorem d_Mod_measure_180 : decode prog_10_method_30_code 180 = .ok (.iadd, 1) := by decide +kernel
theorem d_Mod_measure_181 : decode prog_10_method_30_code 181 = .ok (.iload 4, 2) := by decide +kernel
theorem d_Mod_measure_183 : decode prog_10_method_30_code 183 = .ok (.invokevirtual 147, 3) := by decide +kernel
theorem d_Mod_measure_186 : decode prog_10_method_30_code 186 = .ok (.iconst 1, 1) := by decide +kernel
theorem d_Mod_measure_187 : decode prog_10_method_30_code 187 = .ok (.iadd, 1) := by decide +kernel
theorem d_Mod_measure_188 : decode prog_10_method_30_code 188 = .ok (.goto 5, 3) := by decide +kernel
theorem d_Mod_measure_191 : decode prog_10_method_30_code 191 = .ok (.iload 5, 2) := by decide +kernel
theorem d_Mod_measure_193 : decode prog_10_method_30_code 193 = .ok (.istore 5, 2) := by decide +kernel
theorem d_Mod_measure_195 : decode prog_10_method_30_code 195 = .ok (.aload_n 0, 1) := by decide +kernel
theorem d_Mod_measure_196 : decode prog_10_method_30_code 196 = .ok (.iload_n 3, 1) := by decide +kernel
theorem d_Mod_measure_197 : decode prog_10_method_30_code 197 = .ok (.iload 4, 2) := by decide +kernel
theorem d_Mod_measure_199 : decode prog_10_method_30_code 199 = .ok (.iconst 1, 1) := by decide +kernel
theorem d_Mod_measure_200 : decode prog_10_method_30_code 200 = .ok (.isub, 1) := by decide +kernel
theorem d_Mod_measure_201 : decode prog_10_method_30_code 201 = .ok (.invokevirtual 147, 3) := by decide +kernel
theorem d_Mod_measure_204 : decode prog_10_method_30_code 204 = .ok (.iconst 1, 1) := by decide +kernel
theorem d_Mod_measure_205 : decode prog_10_method_30_code 205 = .ok (.iadd, 1) := by decide +kernel
theorem d_Mod_measure_206 : decode prog_10_method_30_code 206 = .ok (.iload 5, 2) := by decide +kernel
theorem d_Mod_measure_208 : decode prog_10_method_30_code 208 = .ok (.if_icmp .ge 17, 3) := by decide +kernel
theorem d_Mod_measure_211 : decode prog_10_method_30_code 211 = .ok (.aload_n 0, 1) := by decide +kernel
theorem d_Mod_measure_212 : decode prog_10_method_30_code 212 = .ok (.iload_n 3, 1) := by decide +kernel
theorem d_Mod_measure_213 : decode prog_10_method_30_code 213 = .ok (.iload 4, 2) := by decide +kernel
theorem d_Mod_measure_215 : decode prog_10_method_30_code 215 = .ok (.iconst 1, 1) := by decide +kernel
theorem d_Mod_measure_216 : decode prog_10_method_30_code 216 = .ok (.isub, 1) := by decide +kernel
theorem d_Mod_measure_217 : decode prog_10_method_30_code 217 = .ok (.invokevirtual 147, 3) := by decide +kernel
theorem d_Mod_measure_220 : decode prog_10_method_30_code 220 = .ok (.iconst 1, 1) := by decide +kernel
theorem d_Mod_measure_221 : decode prog_10_method_30_code 221 = .ok (.iadd, 1) := by decide +kernel
theorem d_Mod_measure_222 : decode prog_10_method_30_code 222 = .ok (.goto 5, 3) := by decide +kernel
theorem d_Mod_measure_225 : decode prog_10_method_30_code 225 = .ok (.iload 5, 2) := by decide +kernel
theorem d_Mod_measure_227 : decode prog_10_method_30_code 227 = .ok (.istore 5, 2) := by decide +kernel
theorem d_Mod_measure_229 : decode prog_10_method_30_code 229 = .ok (.aload_n 0, 1) := by decide +kernel
theorem d_Mod_measure_230 : decode prog_10_method_30_code 230 = .ok (.iload_n 3, 1) := by decide +kernel
theorem d_Mod_measure_231 : decode prog_10_method_30_code 231 = .ok (.iload 4, 2) := by decide +kernel
theorem d_Mod_measure_233 : decode prog_10_method_30_code 233 = .ok (.iconst 1, 1) := by decide +kernel
theorem d_Mod_measure_234 : decode prog_10_method_30_code 234 = .ok (.iadd, 1) := by decide +kernel
theorem d_Mod_measure_235 : decode prog_10_method_30_code 235 = .ok (.invokevirtual 147, 3) := by decide +kernel
theorem d_Mod_measure_238 : decode prog_10_method_30_code 238 = .ok (.iconst 1, 1) := by decide +kernel
theorem d_Mod_measure_239 : decode prog_10_method_30_code 239 = .ok (.iadd, 1) := by decide +kernel
theorem d_Mod_measure_240 : decode prog_10_method_30_code 240 = .ok (.iload 5, 2) := by decide +kernel
theorem d_Mod_measure_242 : decode prog_10_method_30_code 242 = .ok (.if_icmp .ge 17, 3) := by decide +kernel
theorem d_Mod_measure_245 : decode prog_10_method_30_code 245 = .ok (.aload_n 0, 1) := by decide +kernel
theorem d_Mod_measure_246 : decode prog_10_method_30_code 246 = .ok (.iload_n 3, 1) := by decide +kernel
theorem d_Mod_measure_247 : decode prog_10_method_30_code 247 = .ok (.iload 4, 2) := by decide +kernel
theorem d_Mod_measure_249 : decode prog_10_method_30_code 249 = .ok (.iconst 1, 1) := by decide +kernel
theorem d_Mod_measure_250 : decode prog_10_method_30_code 250 = .ok (.iadd, 1) := by decide +kernel
theorem d_Mod_measure_251 : decode prog_10_method_30_code 251 = .ok (.invokevirtual 147, 3) := by decide +kernel
theorem d_Mod_measure_254 : decode prog_10_method_30_code 254 = .ok (.iconst 1, 1) := by decide +kernel
theorem d_Mod_measure_255 : decode prog_10_method_30_code 255 = .ok (.iadd, 1) := by decide +kernel
theorem d_Mod_measure_256 : decode prog_10_method_30_code 256 = .ok (.goto 5, 3) := by decide +kernel
theorem d_Mod_measure_259 : decode prog_10_method_30_code 259 = .ok (.iload 5, 2) := by decide +kernel
theorem d_Mod_measure_261 : decode prog_10_method_30_code 261 = .ok (.istore 5, 2) := by decide +kernel
theorem d_Mod_measure_263 : decode prog_10_method_30_code 263 = .ok (.iload 5, 2) := by decide +kernel
theorem d_Mod_measure_265 : decode prog_10_method_30_code 265 = .ok (.aload_n 0, 1) := by decide +kernel
theorem d_Mod_measure_266 : decode prog_10_method_30_code 266 = .ok (.iload_n 3, 1) := by decide +kernel
theorem d_Mod_measure_267 : decode prog_10_method_30_code 267 = .ok (.iload 4, 2) := by decide +kernel
theorem d_Mod_measure_269 : decode prog_10_method_30_code 269 = .ok (.invokevirtual 147, 3) := by decide +kernel
theorem d_Mod_measure_272 : decode prog_10_method_30_code 272 = .ok (.if_icmp .eq 32, 3) := by decide +kernel
theorem d_Mod_measure_275 : decode prog_10_method_30_code 275 = .ok (.aload_n 0, 1) := by decide +kernel
theorem d_Mod_measure_276 : decode prog_10_method_30_code 276 = .ok (.iload_n 3, 1) := by decide +kernel
theorem d_Mod_measure_277 : decode prog_10_method_30_code 277 = .ok (.iload 4, 2) := by decide +kernel
theorem d_Mod_measure_279 : decode prog_10_method_30_code 279 = .ok (.invokevirtual 144, 3) := by decide +kernel
theorem d_Mod_measure_282 : decode prog_10_method_30_code 282 = .ok (.ifCond .ne 6, 3) := by decide +kernel
theorem d_Mod_measure_285 : decode prog_10_method_30_code 285 = .ok (.goto 19, 3) := by decide +kernel
theorem d_Mod_measure_288 : decode prog_10_method_30_code 288 = .ok (.aload_n 0, 1) := by decide +kernel
theorem d_Mod_measure_289 : decode prog_10_method_30_code 289 = .ok (.getfield 66, 3) := by decide +kernel
theorem d_Mod_measure_292 : decode prog_10_method_30_code 292 = .ok (.bipush 9, 2) := by decide +kernel
theorem d_Mod_measure_294 : decode prog_10_method_30_code 294 = .ok (.iload 4, 2) := by decide +kernel
theorem d_Mod_measure_296 : decode prog_10_method_30_code 296 = .ok (.imul, 1) := by decide +kernel
theorem d_Mod_measure_297 : decode prog_10_method_30_code 297 = .ok (.iload_n 3, 1) := by decide +kernel
theorem d_Mod_measure_298 : decode prog_10_method_30_code 298 = .ok (.iadd, 1) := by decide +kernel
theorem d_Mod_measure_299 : decode prog_10_method_30_code 299 = .ok (.iload 5, 2) := by decide +kernel
theorem d_Mod_measure_301 : decode prog_10_method_30_code 301 = .ok (.iastore, 1) := by decide +kernel
theorem d_Mod_measure_302 : decode prog_10_method_30_code 302 = .ok (.iconst 1, 1) := by decide +kernel
theorem d_Mod_measure_303 : decode prog_10_method_30_code 303 = .ok (.istore_n 1, 1) := by decide +kernel
theorem d_Mod_measure_304 : decode prog_10_method_30_code 304 = .ok (.iinc 2 1, 3) := by decide +kernel
theorem d_Mod_measure_307 : decode prog_10_method_30_code 307 = .ok (.goto (-217), 3) := by decide +kernel
theorem d_Mod_measure_310 : decode prog_10_method_30_code 310 = .ok (.goto (-228), 3) := by decide +kernel
theorem d_Mod_measure_313 : decode prog_10_method_30_code 313 = .ok (.return_, 1) := by decide +kernel
theorem d_Mod_isFree_0 : decode prog_10_method_28_code 0 = .ok (.aload_n 0, 1) := by decide +kernel
theorem d_Mod_isFree_1 : decode prog_10_method_28_code 1 = .ok (.iload_n 1, 1) := by decide +kernel
theorem d_Mod_isFree_2 : decode prog_10_method_28_code 2 = .ok (.iload_n 2, 1) := by decide +kernel
theorem d_Mod_isFree_3 : decode prog_10_method_28_code 3 = .ok (.invokevirtual 102, 3) := by decide +kernel
theorem d_Mod_isFree_6 : decode prog_10_method_28_code 6 = .ok (.ifCond .eq 21, 3) := by decide +kernel
theorem d_Mod_isFree_9 : decode prog_10_method_28_code 9 = .ok (.aload_n 0, 1) := by decide +kernel
theorem d_Mod_isFree_10 : decode prog_10_method_28_code 10 = .ok (.getfield 7, 3) := by decide +kernel
theorem d_Mod_isFree_13 : decode prog_10_method_28_code 13 = .ok (.bipush 9, 2) := by decide +kernel
theorem d_Mod_isFree_15 : decode prog_10_method_28_code 15 = .ok (.iload_n 2, 1) := by decide +kernel
theorem d_Mod_isFree_16 : decode prog_10_method_28_code 16 = .ok (.imul, 1) := by decide +kernel
theorem d_Mod_isFree_17 : decode prog_10_method_28_code 17 = .ok (.iload_n 1, 1) := by decide +kernel
theorem d_Mod_isFree_18 : decode prog_10_method_28_code 18 = .ok (.iadd, 1) := by decide +kernel
theorem d_Mod_isFree_19 : decode prog_10_method_28_code 19 = .ok (.baload, 1) := by decide +kernel
theorem d_Mod_isFree_20 : decode prog_10_method_28_code 20 = .ok (.ifCond .ne 7, 3) := by decide +kernel
theorem d_Mod_isFree_23 : decode prog_10_method_28_code 23 = .ok (.iconst 1, 1) := by decide +kernel
theorem d_Mod_isFree_24 : decode prog_10_method_28_code 24 = .ok (.goto 4, 3) := by decide +kernel
theorem d_Mod_isFree_27 : decode prog_10_method_28_code 27 = .ok (.iconst 0, 1) := by decide +kernel
theorem d_Mod_isFree_28 : decode prog_10_method_28_code 28 = .ok (.istore_n 3, 1) := by decide +kernel
theorem d_Mod_isFree_29 : decode prog_10_method_28_code 29 = .ok (.iconst 0, 1) := by decide +kernel
theorem d_Mod_isFree_30 : decode prog_10_method_28_code 30 = .ok (.istore 4, 2) := by decide +kernel
theorem d_Mod_isFree_32 : decode prog_10_method_28_code 32 = .ok (.iload 4, 2) := by decide +kernel
theorem d_Mod_isFree_34 : decode prog_10_method_28_code 34 = .ok (.aload_n 0, 1) := by decide +kernel
theorem d_Mod_isFree_35 : decode prog_10_method_28_code 35 = .ok (.getfield 86, 3) := by decide +kernel
theorem d_Mod_isFree_38 : decode prog_10_method_28_code 38 = .ok (.if_icmp .ge 30, 3) := by decide +kernel
theorem d_Mod_isFree_41 : decode prog_10_method_28_code 41 = .ok (.iload_n 3, 1) := by decide +kernel
theorem d_Mod_isFree_42 : decode prog_10_method_28_code 42 = .ok (.ifCond .eq 18, 3) := by decide +kernel
theorem d_Mod_isFree_45 : decode prog_10_method_28_code 45 = .ok (.aload_n 0, 1) := by decide +kernel
theorem d_Mod_isFree_46 : decode prog_10_method_28_code 46 = .ok (.iload 4, 2) := by decide +kernel
theorem d_Mod_isFree_48 : decode prog_10_method_28_code 48 = .ok (.iload_n 1, 1) := by decide +kernel
theorem d_Mod_isFree_49 : decode prog_10_method_28_code 49 = .ok (.iload_n 2, 1) := by decide +kernel
theorem d_Mod_isFree_50 : decode prog_10_method_28_code 50 = .ok (.invokevirtual 137, 3) := by decide +kernel
theorem d_Mod_isFree_53 : decode prog_10_method_28_code 53 = .ok (.ifCond .ne 7, 3) := by decide +kernel
theorem d_Mod_isFree_56 : decode prog_10_method_28_code 56 = .ok (.iconst 1, 1) := by decide +kernel
theorem d_Mod_isFree_57 : decode prog_10_method_28_code 57 = .ok (.goto 4, 3) := by decide +kernel
theorem d_Mod_isFree_60 : decode prog_10_method_28_code 60 = .ok (.iconst 0, 1) := by decide +kernel
theorem d_Mod_isFree_61 : decode prog_10_method_28_code 61 = .ok (.istore_n 3, 1) := by decide +kernel
theorem d_Mod_isFree_62 : decode prog_10_method_28_code 62 = .ok (.iinc 4 1, 3) := by decide +kernel
theorem d_Mod_isFree_65 : decode prog_10_method_28_code 65 = .ok (.goto (-33), 3) := by decide +kernel
theorem d_Mod_isFree_68 : decode prog_10_method_28_code 68 = .ok (.iload_n 3, 1) := by decide +kernel
theorem d_Mod_isFree_69 : decode prog_10_method_28_code 69 = .ok (.ireturn, 1) := by decide +kernel
theorem d_Mod_stepsFrom_0 : decode prog_10_method_29_code 0 = .ok (.aload_n 0, 1) := by decide +kernel
theorem d_Mod_stepsFrom_1 : decode prog_10_method_29_code 1 = .ok (.iload_n 1, 1) := by decide +kernel
theorem d_Mod_stepsFrom_2 : decode prog_10_method_29_code 2 = .ok (.iload_n 2, 1) := by decide +kernel
theorem d_Mod_stepsFrom_3 : decode prog_10_method_29_code 3 = .ok (.invokevirtual 102, 3) := by decide +kernel
theorem d_Mod_stepsFrom_6 : decode prog_10_method_29_code 6 = .ok (.ifCond .eq 17, 3) := by decide +kernel
theorem d_Mod_stepsFrom_9 : decode prog_10_method_29_code 9 = .ok (.aload_n 0, 1) := by decide +kernel
theorem d_Mod_stepsFrom_10 : decode prog_10_method_29_code 10 = .ok (.getfield 66, 3) := by decide +kernel
theorem d_Mod_stepsFrom_13 : decode prog_10_method_29_code 13 = .ok (.bipush 9, 2) := by decide +kernel
theorem d_Mod_stepsFrom_15 : decode prog_10_method_29_code 15 = .ok (.iload_n 2, 1) := by decide +kernel
theorem d_Mod_stepsFrom_16 : decode prog_10_method_29_code 16 = .ok (.imul, 1) := by decide +kernel
theorem d_Mod_stepsFrom_17 : decode prog_10_method_29_code 17 = .ok (.iload_n 1, 1) := by decide +kernel
theorem d_Mod_stepsFrom_18 : decode prog_10_method_29_code 18 = .ok (.iadd, 1) := by decide +kernel
theorem d_Mod_stepsFrom_19 : decode prog_10_method_29_code 19 = .ok (.iaload, 1) := by decide +kernel
theorem d_Mod_stepsFrom_20 : decode prog_10_method_29_code 20 = .ok (.goto 6, 3) := by decide +kernel
theorem d_Mod_stepsFrom_23 : decode prog_10_method_29_code 23 = .ok (.sipush 1000, 3) := by decide +kernel
theorem d_Mod_stepsFrom_26 : decode prog_10_method_29_code 26 = .ok (.ireturn, 1) := by decide +kernel
theorem d_Mod_escapes_0 : decode prog_10_method_31_code 0 = .ok (.iconst 0, 1) := by decide +kernel
theorem d_Mod_escapes_1 : decode prog_10_method_31_code 1 = .ok (.istore_n 2, 1) := by decide +kernel
theorem d_Mod_escapes_2 : decode prog_10_method_31_code 2 = .ok (.iconst 0, 1) := by decide +kernel
theorem d_Mod_escapes_3 : decode prog_10_method_31_code 3 = .ok (.istore_n 3, 1) := by decide +kernel
theorem d_Mod_escapes_4 : decode prog_10_method_31_code 4 = .ok (.iload_n 3, 1) := by decide +kernel
theorem d_Mod_escapes_5 : decode prog_10_method_31_code 5 = .ok (.aload_n 0, 1) := by decide +kernel
theorem d_Mod_escapes_6 : decode prog_10_method_31_code 6 = .ok (.getfield 17, 3) := by decide +kernel
theorem d_Mod_escapes_9 : decode prog_10_method_31_code 9 = .ok (.iload_n 1, 1) := by decide +kernel
theorem d_Mod_escapes_10 : decode prog_10_method_31_code 10 = .ok (.iaload, 1) := by decide +kernel
theorem d_Mod_escapes_11 : decode prog_10_method_31_code 11 = .ok (.if_icmp .ge 78, 3) := by decide +kernel
theorem d_Mod_escapes_14 : decode prog_10_method_31_code 14 = .ok (.iload_n 2, 1) := by decide +kernel
theorem d_Mod_escapes_15 : decode prog_10_method_31_code 15 = .ok (.ifCond .ne 62, 3) := by decide +kernel
theorem d_Mod_escapes_18 : decode prog_10_method_31_code 18 = .ok (.aload_n 0, 1) := by decide +kernel
theorem d_Mod_escapes_19 : decode prog_10_method_31_code 19 = .ok (.aload_n 0, 1) := by decide +kernel
theorem d_Mod_escapes_20 : decode prog_10_method_31_code 20 = .ok (.getfield 51, 3) := by decide +kernel
theorem d_Mod_escapes_23 : decode prog_10_method_31_code 23 = .ok (.iload_n 1, 1) := by decide +kernel
theorem d_Mod_escapes_24 : decode prog_10_method_31_code 24 = .ok (.iaload, 1) := by decide +kernel
theorem d_Mod_escapes_25 : decode prog_10_method_31_code 25 = .ok (.iload_n 3, 1) := by decide +kernel
theorem d_Mod_escapes_26 : decode prog_10_method_31_code 26 = .ok (.iadd, 1) := by decide +kernel
theorem d_Mod_escapes_27 : decode prog_10_method_31_code 27 = .ok (.aload_n 0, 1) := by decide +kernel
theorem d_Mod_escapes_28 : decode prog_10_method_31_code 28 = .ok (.getfield 54, 3) := by decide +kernel
theorem d_Mod_escapes_31 : decode prog_10_method_31_code 31 = .ok (.iload_n 1, 1) := by decide +kernel
theorem d_Mod_escapes_32 : decode prog_10_method_31_code 32 = .ok (.iaload, 1) := by decide +kernel
theorem d_Mod_escapes_33 : decode prog_10_method_31_code 33 = .ok (.iconst 1, 1) := by decide +kernel
theorem d_Mod_escapes_34 : decode prog_10_method_31_code 34 = .ok (.isub, 1) := by decide +kernel
theorem d_Mod_escapes_35 : decode prog_10_method_31_code 35 = .ok (.invokevirtual 147, 3) := by decide +kernel
theorem d_Mod_escapes_38 : decode prog_10_method_31_code 38 = .ok (.aload_n 0, 1) := by decide +kernel
theorem d_Mod_escapes_39 : decode prog_10_method_31_code 39 = .ok (.getfield 47, 3) := by decide +kernel
theorem d_Mod_escapes_42 : decode prog_10_method_31_code 42 = .ok (.if_icmp .le 35, 3) := by decide +kernel
theorem d_Mod_escapes_45 : decode prog_10_method_31_code 45 = .ok (.aload_n 0, 1) := by decide +kernel
theorem d_Mod_escapes_46 : decode prog_10_method_31_code 46 = .ok (.aload_n 0, 1) := by decide +kernel
theorem d_Mod_escapes_47 : decode prog_10_method_31_code 47 = .ok (.getfield 51, 3) := by decide +kernel
theorem d_Mod_escapes_50 : decode prog_10_method_31_code 50 = .ok (.iload_n 1, 1) := by decide +kernel
theorem d_Mod_escapes_51 : decode prog_10_method_31_code 51 = .ok (.iaload, 1) := by decide +kernel
theorem d_Mod_escapes_52 : decode prog_10_method_31_code 52 = .ok (.iload_n 3, 1) := by decide +kernel
theorem d_Mod_escapes_53 : decode prog_10_method_31_code 53 = .ok (.iadd, 1) := by decide +kernel
theorem d_Mod_escapes_54 : decode prog_10_method_31_code 54 = .ok (.aload_n 0, 1) := by decide +kernel
theorem d_Mod_escapes_55 : decode prog_10_method_31_code 55 = .ok (.getfield 54, 3) := by decide +kernel
theorem d_Mod_escapes_58 : decode prog_10_method_31_code 58 = .ok (.iload_n 1, 1) := by decide +kernel
theorem d_Mod_escapes_59 : decode prog_10_method_31_code 59 = .ok (.iaload, 1) := by decide +kernel
theorem d_Mod_escapes_60 : decode prog_10_method_31_code 60 = .ok (.aload_n 0, 1) := by decide +kernel
theorem d_Mod_escapes_61 : decode prog_10_method_31_code 61 = .ok (.getfield 20, 3) := by decide +kernel
theorem d_Mod_escapes_64 : decode prog_10_method_31_code 64 = .ok (.iload_n 1, 1) := by decide +kernel
theorem d_Mod_escapes_65 : decode prog_10_method_31_code 65 = .ok (.iaload, 1) := by decide +kernel
theorem d_Mod_escapes_66 : decode prog_10_method_31_code 66 = .ok (.iadd, 1) := by decide +kernel
theorem d_Mod_escapes_67 : decode prog_10_method_31_code 67 = .ok (.invokevirtual 147, 3) := by decide +kernel
theorem d_Mod_escapes_70 : decode prog_10_method_31_code 70 = .ok (.aload_n 0, 1) := by decide +kernel
theorem d_Mod_escapes_71 : decode prog_10_method_31_code 71 = .ok (.getfield 47, 3) := by decide +kernel
theorem d_Mod_escapes_74 : decode prog_10_method_31_code 74 = .ok (.if_icmp .gt 7, 3) := by decide +kernel
theorem d_Mod_escapes_77 : decode prog_10_method_31_code 77 = .ok (.iconst 1, 1) := by decide +kernel
theorem d_Mod_escapes_78 : decode prog_10_method_31_code 78 = .ok (.goto 4, 3) := by decide +kernel
theorem d_Mod_escapes_81 : decode prog_10_method_31_code 81 = .ok (.iconst 0, 1) := by decide +kernel
theorem d_Mod_escapes_82 : decode prog_10_method_31_code 82 = .ok (.istore_n 2, 1) := by decide +kernel
theorem d_Mod_escapes_83 : decode prog_10_method_31_code 83 = .ok (.iinc 3 1, 3) := by decide +kernel
theorem d_Mod_escapes_86 : decode prog_10_method_31_code 86 = .ok (.goto (-82), 3) := by decide +kernel
theorem d_Mod_escapes_89 : decode prog_10_method_31_code 89 = .ok (.iconst 0, 1) := by decide +kernel
theorem d_Mod_escapes_90 : decode prog_10_method_31_code 90 = .ok (.istore_n 3, 1) := by decide +kernel
theorem d_Mod_escapes_91 : decode prog_10_method_31_code 91 = .ok (.iload_n 3, 1) := by decide +kernel
theorem d_Mod_escapes_92 : decode prog_10_method_31_code 92 = .ok (.aload_n 0, 1) := by decide +kernel
theorem d_Mod_escapes_93 : decode prog_10_method_31_code 93 = .ok (.getfield 20, 3) := by decide +kernel
theorem d_Mod_escapes_96 : decode prog_10_method_31_code 96 = .ok (.iload_n 1, 1) := by decide +kernel
theorem d_Mod_escapes_97 : decode prog_10_method_31_code 97 = .ok (.iaload, 1) := by decide +kernel
theorem d_Mod_escapes_98 : decode prog_10_method_31_code 98 = .ok (.if_icmp .ge 78, 3) := by decide +kernel
theorem d_Mod_escapes_101 : decode prog_10_method_31_code 101 = .ok (.iload_n 2, 1) := by decide +kernel
theorem d_Mod_escapes_102 : decode prog_10_method_31_code 102 = .ok (.ifCond .ne 62, 3) := by decide +kernel
theorem d_Mod_escapes_105 : decode prog_10_method_31_code 105 = .ok (.aload_n 0, 1) := by decide +kernel
theorem d_Mod_escapes_106 : decode prog_10_method_31_code 106 = .ok (.aload_n 0, 1) := by decide +kernel
theorem d_Mod_escapes_107 : decode prog_10_method_31_code 107 = .ok (.getfield 51, 3) := by decide +kernel
theorem d_Mod_escapes_110 : decode prog_10_method_31_code 110 = .ok (.iload_n 1, 1) := by decide +kernel
theorem d_Mod_escapes_111 : decode prog_10_method_31_code 111 = .ok (.iaload, 1) := by decide +kernel
theorem d_Mod_escapes_112 : decode prog_10_method_31_code 112 = .ok (.iconst 1, 1) := by decide +kernel
theorem d_Mod_escapes_113 : decode prog_10_method_31_code 113 = .ok (.isub, 1) := by decide +kernel
theorem d_Mod_escapes_114 : decode prog_10_method_31_code 114 = .ok (.aload_n 0, 1) := by decide +kernel
theorem d_Mod_escapes_115 : decode prog_10_method_31_code 115 = .ok (.getfield 54, 3) := by decide +kernel
theorem d_Mod_escapes_118 : decode prog_10_method_31_code 118 = .ok (.iload_n 1, 1) := by decide +kernel
theorem d_Mod_escapes_119 : decode prog_10_method_31_code 119 = .ok (.iaload, 1) := by decide +kernel
theorem d_Mod_escapes_120 : decode prog_10_method_31_code 120 = .ok (.iload_n 3, 1) := by decide +kernel
theorem d_Mod_escapes_121 : decode prog_10_method_31_code 121 = .ok (.iadd, 1) := by decide +kernel
theorem d_Mod_escapes_122 : decode prog_10_method_31_code 122 = .ok (.invokevirtual 147, 3) := by decide +kernel
theorem d_Mod_escapes_125 : decode prog_10_method_31_code 125 = .ok (.aload_n 0, 1) := by decide +kernel
theorem d_Mod_escapes_126 : decode prog_10_method_31_code 126 = .ok (.getfield 47, 3) := by decide +kernel
theorem d_Mod_escapes_129 : decode prog_10_method_31_code 129 = .ok (.if_icmp .le 35, 3) := by decide +kernel
theorem d_Mod_escapes_132 : decode prog_10_method_31_code 132 = .ok (.aload_n 0, 1) := by decide +kernel
theorem d_Mod_escapes_133 : decode prog_10_method_31_code 133 = .ok (.aload_n 0, 1) := by decide +kernel
theorem d_Mod_escapes_134 : decode prog_10_method_31_code 134 = .ok (.getfield 51, 3) := by decide +kernel
theorem d_Mod_escapes_137 : decode prog_10_method_31_code 137 = .ok (.iload_n 1, 1) := by decide +kernel
theorem d_Mod_escapes_138 : decode prog_10_method_31_code 138 = .ok (.iaload, 1) := by decide +kernel
theorem d_Mod_escapes_139 : decode prog_10_method_31_code 139 = .ok (.aload_n 0, 1) := by decide +kernel
theorem d_Mod_escapes_140 : decode prog_10_method_31_code 140 = .ok (.getfield 17, 3) := by decide +kernel
theorem d_Mod_escapes_143 : decode prog_10_method_31_code 143 = .ok (.iload_n 1, 1) := by decide +kernel
theorem d_Mod_escapes_144 : decode prog_10_method_31_code 144 = .ok (.iaload, 1) := by decide +kernel
theorem d_Mod_escapes_145 : decode prog_10_method_31_code 145 = .ok (.iadd, 1) := by decide +kernel
theorem d_Mod_escapes_146 : decode prog_10_method_31_code 146 = .ok (.aload_n 0, 1) := by decide +kernel
theorem d_Mod_escapes_147 : decode prog_10_method_31_code 147 = .ok (.getfield 54, 3) := by decide +kernel
theorem d_Mod_escapes_150 : decode prog_10_method_31_code 150 = .ok (.iload_n 1, 1) := by decide +kernel
theorem d_Mod_escapes_151 : decode prog_10_method_31_code 151 = .ok (.iaload, 1) := by decide +kernel
theorem d_Mod_escapes_152 : decode prog_10_method_31_code 152 = .ok (.iload_n 3, 1) := by decide +kernel
theorem d_Mod_escapes_153 : decode prog_10_method_31_code 153 = .ok (.iadd, 1) := by decide +kernel
theorem d_Mod_escapes_154 : decode prog_10_method_31_code 154 = .ok (.invokevirtual 147, 3) := by decide +kernel
theorem d_Mod_escapes_157 : decode prog_10_method_31_code 157 = .ok (.aload_n 0, 1) := by decide +kernel
theorem d_Mod_escapes_158 : decode prog_10_method_31_code 158 = .ok (.getfield 47, 3) := by decide +kernel
theorem d_Mod_escapes_161 : decode prog_10_method_31_code 161 = .ok (.if_icmp .gt 7, 3) := by decide +kernel
theorem d_Mod_escapes_164 : decode prog_10_method_31_code 164 = .ok (.iconst 1, 1) := by decide +kernel
theorem d_Mod_escapes_165 : decode prog_10_method_31_code 165 = .ok (.goto 4, 3) := by decide +kernel
theorem d_Mod_escapes_168 : decode prog_10_method_31_code 168 = .ok (.iconst 0, 1) := by decide +kernel
theorem d_Mod_escapes_169 : decode prog_10_method_31_code 169 = .ok (.istore_n 2, 1) := by decide +kernel
theorem d_Mod_escapes_170 : decode prog_10_method_31_code 170 = .ok (.iinc 3 1, 3) := by decide +kernel
theorem d_Mod_escapes_173 : decode prog_10_method_31_code 173 = .ok (.goto (-82), 3) := by decide +kernel
theorem d_Mod_escapes_176 : decode prog_10_method_31_code 176 = .ok (.iload_n 2, 1) := by decide +kernel
theorem d_Mod_escapes_177 : decode prog_10_method_31_code 177 = .ok (.ireturn, 1) := by decide +kernel
theorem d_Mod_keep_0 : decode prog_10_method_34_code 0 = .ok (.aload_n 0, 1) := by decide +kernel
theorem d_Mod_keep_1 : decode prog_10_method_34_code 1 = .ok (.invokevirtual 159, 3) := by decide +kernel
theorem d_Mod_keep_4 : decode prog_10_method_34_code 4 = .ok (.istore_n 1, 1) := by decide +kernel
theorem d_Mod_keep_5 : decode prog_10_method_34_code 5 = .ok (.aload_n 0, 1) := by decide +kernel
theorem d_Mod_keep_6 : decode prog_10_method_34_code 6 = .ok (.getfield 89, 3) := by decide +kernel
theorem d_Mod_keep_9 : decode prog_10_method_34_code 9 = .ok (.ifCond .eq 12, 3) := by decide +kernel
theorem d_Mod_keep_12 : decode prog_10_method_34_code 12 = .ok (.iload_n 1, 1) := by decide +kernel
theorem d_Mod_keep_13 : decode prog_10_method_34_code 13 = .ok (.aload_n 0, 1) := by decide +kernel
theorem d_Mod_keep_14 : decode prog_10_method_34_code 14 = .ok (.getfield 163, 3) := by decide +kernel
theorem d_Mod_keep_17 : decode prog_10_method_34_code 17 = .ok (.if_icmp .gt 4, 3) := by decide +kernel
theorem d_Mod_keep_20 : decode prog_10_method_34_code 20 = .ok (.return_, 1) := by decide +kernel
theorem d_Mod_keep_21 : decode prog_10_method_34_code 21 = .ok (.aload_n 0, 1) := by decide +kernel
theorem d_Mod_keep_22 : decode prog_10_method_34_code 22 = .ok (.iconst 1, 1) := by decide +kernel
theorem d_Mod_keep_23 : decode prog_10_method_34_code 23 = .ok (.putfield 89, 3) := by decide +kernel
theorem d_Mod_keep_26 : decode prog_10_method_34_code 26 = .ok (.aload_n 0, 1) := by decide +kernel
theorem d_Mod_keep_27 : decode prog_10_method_34_code 27 = .ok (.iload_n 1, 1) := by decide +kernel
theorem d_Mod_keep_28 : decode prog_10_method_34_code 28 = .ok (.putfield 163, 3) := by decide +kernel
theorem d_Mod_keep_31 : decode prog_10_method_34_code 31 = .ok (.iconst 0, 1) := by decide +kernel
theorem d_Mod_keep_32 : decode prog_10_method_34_code 32 = .ok (.istore_n 2, 1) := by decide +kernel
theorem d_Mod_keep_33 : decode prog_10_method_34_code 33 = .ok (.iload_n 2, 1) := by decide +kernel
theorem d_Mod_keep_34 : decode prog_10_method_34_code 34 = .ok (.aload_n 0, 1) := by decide +kernel
theorem d_Mod_keep_35 : decode prog_10_method_34_code 35 = .ok (.getfield 86, 3) := by decide +kernel
theorem d_Mod_keep_38 : decode prog_10_method_34_code 38 = .ok (.if_icmp .ge 33, 3) := by decide +kernel
theorem d_Mod_keep_41 : decode prog_10_method_34_code 41 = .ok (.aload_n 0, 1) := by decide +kernel
theorem d_Mod_keep_42 : decode prog_10_method_34_code 42 = .ok (.getfield 60, 3) := by decide +kernel
theorem d_Mod_keep_45 : decode prog_10_method_34_code 45 = .ok (.iload_n 2, 1) := by decide +kernel
theorem d_Mod_keep_46 : decode prog_10_method_34_code 46 = .ok (.aload_n 0, 1) := by decide +kernel
theorem d_Mod_keep_47 : decode prog_10_method_34_code 47 = .ok (.getfield 51, 3) := by decide +kernel
theorem d_Mod_keep_50 : decode prog_10_method_34_code 50 = .ok (.iload_n 2, 1) := by decide +kernel
theorem d_Mod_keep_51 : decode prog_10_method_34_code 51 = .ok (.iaload, 1) := by decide +kernel
theorem d_Mod_keep_52 : decode prog_10_method_34_code 52 = .ok (.iastore, 1) := by decide +kernel
theorem d_Mod_keep_53 : decode prog_10_method_34_code 53 = .ok (.aload_n 0, 1) := by decide +kernel
theorem d_Mod_keep_54 : decode prog_10_method_34_code 54 = .ok (.getfield 63, 3) := by decide +kernel
theorem d_Mod_keep_57 : decode prog_10_method_34_code 57 = .ok (.iload_n 2, 1) := by decide +kernel
theorem d_Mod_keep_58 : decode prog_10_method_34_code 58 = .ok (.aload_n 0, 1) := by decide +kernel
theorem d_Mod_keep_59 : decode prog_10_method_34_code 59 = .ok (.getfield 54, 3) := by decide +kernel
theorem d_Mod_keep_62 : decode prog_10_method_34_code 62 = .ok (.iload_n 2, 1) := by decide +kernel
theorem d_Mod_keep_63 : decode prog_10_method_34_code 63 = .ok (.iaload, 1) := by decide +kernel
theorem d_Mod_keep_64 : decode prog_10_method_34_code 64 = .ok (.iastore, 1) := by decide +kernel
theorem d_Mod_keep_65 : decode prog_10_method_34_code 65 = .ok (.iinc 2 1, 3) := by decide +kernel
theorem d_Mod_keep_68 : decode prog_10_method_34_code 68 = .ok (.goto (-35), 3) := by decide +kernel
theorem d_Mod_keep_71 : decode prog_10_method_34_code 71 = .ok (.return_, 1) := by decide +kernel
theorem d_Mod_worthNow_0 : decode prog_10_method_33_code 0 = .ok (.iconst 0, 1) := by decide +kernel
theorem d_Mod_worthNow_1 : decode prog_10_method_33_code 1 = .ok (.istore_n 1, 1) := by decide +kernel
theorem d_Mod_worthNow_2 : decode prog_10_method_33_code 2 = .ok (.iconst 0, 1) := by decide +kernel
theorem d_Mod_worthNow_3 : decode prog_10_method_33_code 3 = .ok (.istore_n 2, 1) := by decide +kernel
theorem d_Mod_worthNow_4 : decode prog_10_method_33_code 4 = .ok (.iload_n 2, 1) := by decide +kernel
theorem d_Mod_worthNow_5 : decode prog_10_method_33_code 5 = .ok (.aload_n 0, 1) := by decide +kernel
theorem d_Mod_worthNow_6 : decode prog_10_method_33_code 6 = .ok (.getfield 86, 3) := by decide +kernel
theorem d_Mod_worthNow_9 : decode prog_10_method_33_code 9 = .ok (.if_icmp .ge 49, 3) := by decide +kernel
theorem d_Mod_worthNow_12 : decode prog_10_method_33_code 12 = .ok (.iconst 0, 1) := by decide +kernel
theorem d_Mod_worthNow_13 : decode prog_10_method_33_code 13 = .ok (.istore_n 3, 1) := by decide +kernel
theorem d_Mod_worthNow_14 : decode prog_10_method_33_code 14 = .ok (.iload_n 3, 1) := by decide +kernel
theorem d_Mod_worthNow_15 : decode prog_10_method_33_code 15 = .ok (.iload_n 2, 1) := by decide +kernel
theorem d_Mod_worthNow_16 : decode prog_10_method_33_code 16 = .ok (.if_icmp .ge 36, 3) := by decide +kernel
theorem d_Mod_worthNow_19 : decode prog_10_method_33_code 19 = .ok (.iload_n 1, 1) := by decide +kernel
theorem d_Mod_worthNow_20 : decode prog_10_method_33_code 20 = .ok (.aload_n 0, 1) := by decide +kernel
