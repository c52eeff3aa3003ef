theorem d_m_load_53 : decode M_m_load.2.1 53 = .ok (.putfield 131, 3) := by decide +kernel
theorem d_m_load_56 : decode M_m_load.2.1 56 = .ok (.iconst 0, 1) := by decide +kernel
theorem d_m_load_57 : decode M_m_load.2.1 57 = .ok (.istore_n 2, 1) := by decide +kernel
theorem d_m_load_58 : decode M_m_load.2.1 58 = .ok (.iload_n 2, 1) := by decide +kernel
theorem d_m_load_59 : decode M_m_load.2.1 59 = .ok (.iconst 4, 1) := by decide +kernel
theorem d_m_load_60 : decode M_m_load.2.1 60 = .ok (.if_icmp .ge 26, 3) := by decide +kernel
theorem d_m_load_63 : decode M_m_load.2.1 63 = .ok (.aload_n 0, 1) := by decide +kernel
theorem d_m_load_64 : decode M_m_load.2.1 64 = .ok (.getfield 7, 3) := by decide +kernel
theorem d_m_load_67 : decode M_m_load.2.1 67 = .ok (.iload_n 2, 1) := by decide +kernel
theorem d_m_load_68 : decode M_m_load.2.1 68 = .ok (.aload_n 0, 1) := by decide +kernel
theorem d_m_load_69 : decode M_m_load.2.1 69 = .ok (.getfield 35, 3) := by decide +kernel
theorem d_m_load_72 : decode M_m_load.2.1 72 = .ok (.bipush 6, 2) := by decide +kernel
theorem d_m_load_74 : decode M_m_load.2.1 74 = .ok (.iload_n 2, 1) := by decide +kernel
theorem d_m_load_75 : decode M_m_load.2.1 75 = .ok (.iadd, 1) := by decide +kernel
theorem d_m_load_76 : decode M_m_load.2.1 76 = .ok (.iaload, 1) := by decide +kernel
theorem d_m_load_77 : decode M_m_load.2.1 77 = .ok (.iconst 4, 1) := by decide +kernel
theorem d_m_load_78 : decode M_m_load.2.1 78 = .ok (.isub, 1) := by decide +kernel
theorem d_m_load_79 : decode M_m_load.2.1 79 = .ok (.iastore, 1) := by decide +kernel
theorem d_m_load_80 : decode M_m_load.2.1 80 = .ok (.iinc 2 1, 3) := by decide +kernel
theorem d_m_load_83 : decode M_m_load.2.1 83 = .ok (.goto (-25), 3) := by decide +kernel
theorem d_m_load_86 : decode M_m_load.2.1 86 = .ok (.iconst 0, 1) := by decide +kernel
theorem d_m_load_87 : decode M_m_load.2.1 87 = .ok (.istore_n 2, 1) := by decide +kernel
theorem d_m_load_88 : decode M_m_load.2.1 88 = .ok (.iload_n 2, 1) := by decide +kernel
theorem d_m_load_89 : decode M_m_load.2.1 89 = .ok (.iconst 4, 1) := by decide +kernel
theorem d_m_load_90 : decode M_m_load.2.1 90 = .ok (.aload_n 0, 1) := by decide +kernel
theorem d_m_load_91 : decode M_m_load.2.1 91 = .ok (.getfield 134, 3) := by decide +kernel
theorem d_m_load_94 : decode M_m_load.2.1 94 = .ok (.imul, 1) := by decide +kernel
theorem d_m_load_95 : decode M_m_load.2.1 95 = .ok (.if_icmp .ge 29, 3) := by decide +kernel
theorem d_m_load_98 : decode M_m_load.2.1 98 = .ok (.aload_n 0, 1) := by decide +kernel
theorem d_m_load_99 : decode M_m_load.2.1 99 = .ok (.getfield 16, 3) := by decide +kernel
theorem d_m_load_102 : decode M_m_load.2.1 102 = .ok (.iload_n 2, 1) := by decide +kernel
theorem d_m_load_103 : decode M_m_load.2.1 103 = .ok (.aload_n 0, 1) := by decide +kernel
theorem d_m_load_104 : decode M_m_load.2.1 104 = .ok (.bipush 10, 2) := by decide +kernel
theorem d_m_load_106 : decode M_m_load.2.1 106 = .ok (.iconst 2, 1) := by decide +kernel
theorem d_m_load_107 : decode M_m_load.2.1 107 = .ok (.iload_n 2, 1) := by decide +kernel
theorem d_m_load_108 : decode M_m_load.2.1 108 = .ok (.imul, 1) := by decide +kernel
theorem d_m_load_109 : decode M_m_load.2.1 109 = .ok (.iadd, 1) := by decide +kernel
theorem d_m_load_110 : decode M_m_load.2.1 110 = .ok (.invokevirtual 218, 3) := by decide +kernel
theorem d_m_load_113 : decode M_m_load.2.1 113 = .ok (.sipush 300, 3) := by decide +kernel
theorem d_m_load_116 : decode M_m_load.2.1 116 = .ok (.isub, 1) := by decide +kernel
theorem d_m_load_117 : decode M_m_load.2.1 117 = .ok (.iastore, 1) := by decide +kernel
theorem d_m_load_118 : decode M_m_load.2.1 118 = .ok (.iinc 2 1, 3) := by decide +kernel
theorem d_m_load_121 : decode M_m_load.2.1 121 = .ok (.goto (-33), 3) := by decide +kernel
theorem d_m_load_124 : decode M_m_load.2.1 124 = .ok (.bipush 10, 2) := by decide +kernel
theorem d_m_load_126 : decode M_m_load.2.1 126 = .ok (.bipush 8, 2) := by decide +kernel
theorem d_m_load_128 : decode M_m_load.2.1 128 = .ok (.aload_n 0, 1) := by decide +kernel
theorem d_m_load_129 : decode M_m_load.2.1 129 = .ok (.getfield 134, 3) := by decide +kernel
theorem d_m_load_132 : decode M_m_load.2.1 132 = .ok (.imul, 1) := by decide +kernel
theorem d_m_load_133 : decode M_m_load.2.1 133 = .ok (.iadd, 1) := by decide +kernel
theorem d_m_load_134 : decode M_m_load.2.1 134 = .ok (.istore_n 2, 1) := by decide +kernel
theorem d_m_load_135 : decode M_m_load.2.1 135 = .ok (.iconst 0, 1) := by decide +kernel
theorem d_m_load_136 : decode M_m_load.2.1 136 = .ok (.istore_n 3, 1) := by decide +kernel
theorem d_m_load_137 : decode M_m_load.2.1 137 = .ok (.iload_n 3, 1) := by decide +kernel
theorem d_m_load_138 : decode M_m_load.2.1 138 = .ok (.aload_n 0, 1) := by decide +kernel
theorem d_m_load_139 : decode M_m_load.2.1 139 = .ok (.invokevirtual 144, 3) := by decide +kernel
theorem d_m_load_142 : decode M_m_load.2.1 142 = .ok (.aload_n 0, 1) := by decide +kernel
theorem d_m_load_143 : decode M_m_load.2.1 143 = .ok (.getfield 137, 3) := by decide +kernel
theorem d_m_load_146 : decode M_m_load.2.1 146 = .ok (.imul, 1) := by decide +kernel
theorem d_m_load_147 : decode M_m_load.2.1 147 = .ok (.aload_n 0, 1) := by decide +kernel
theorem d_m_load_148 : decode M_m_load.2.1 148 = .ok (.invokevirtual 164, 3) := by decide +kernel
theorem d_m_load_151 : decode M_m_load.2.1 151 = .ok (.imul, 1) := by decide +kernel
theorem d_m_load_152 : decode M_m_load.2.1 152 = .ok (.if_icmp .ge 76, 3) := by decide +kernel
theorem d_m_load_155 : decode M_m_load.2.1 155 = .ok (.iload_n 3, 1) := by decide +kernel
theorem d_m_load_156 : decode M_m_load.2.1 156 = .ok (.aload_n 0, 1) := by decide +kernel
theorem d_m_load_157 : decode M_m_load.2.1 157 = .ok (.getfield 137, 3) := by decide +kernel
theorem d_m_load_160 : decode M_m_load.2.1 160 = .ok (.aload_n 0, 1) := by decide +kernel
theorem d_m_load_161 : decode M_m_load.2.1 161 = .ok (.invokevirtual 164, 3) := by decide +kernel
theorem d_m_load_164 : decode M_m_load.2.1 164 = .ok (.imul, 1) := by decide +kernel
theorem d_m_load_165 : decode M_m_load.2.1 165 = .ok (.idiv, 1) := by decide +kernel
theorem d_m_load_166 : decode M_m_load.2.1 166 = .ok (.istore 4, 2) := by decide +kernel
theorem d_m_load_168 : decode M_m_load.2.1 168 = .ok (.iload_n 3, 1) := by decide +kernel
theorem d_m_load_169 : decode M_m_load.2.1 169 = .ok (.aload_n 0, 1) := by decide +kernel
theorem d_m_load_170 : decode M_m_load.2.1 170 = .ok (.getfield 137, 3) := by decide +kernel
theorem d_m_load_173 : decode M_m_load.2.1 173 = .ok (.aload_n 0, 1) := by decide +kernel
theorem d_m_load_174 : decode M_m_load.2.1 174 = .ok (.invokevirtual 164, 3) := by decide +kernel
theorem d_m_load_177 : decode M_m_load.2.1 177 = .ok (.imul, 1) := by decide +kernel
theorem d_m_load_178 : decode M_m_load.2.1 178 = .ok (.irem, 1) := by decide +kernel
theorem d_m_load_179 : decode M_m_load.2.1 179 = .ok (.istore 5, 2) := by decide +kernel
theorem d_m_load_181 : decode M_m_load.2.1 181 = .ok (.aload_n 0, 1) := by decide +kernel
theorem d_m_load_182 : decode M_m_load.2.1 182 = .ok (.getfield 19, 3) := by decide +kernel
theorem d_m_load_185 : decode M_m_load.2.1 185 = .ok (.bipush 8, 2) := by decide +kernel
theorem d_m_load_187 : decode M_m_load.2.1 187 = .ok (.iload 4, 2) := by decide +kernel
theorem d_m_load_189 : decode M_m_load.2.1 189 = .ok (.imul, 1) := by decide +kernel
theorem d_m_load_190 : decode M_m_load.2.1 190 = .ok (.iconst 2, 1) := by decide +kernel
theorem d_m_load_191 : decode M_m_load.2.1 191 = .ok (.iload 5, 2) := by decide +kernel
theorem d_m_load_193 : decode M_m_load.2.1 193 = .ok (.aload_n 0, 1) := by decide +kernel
theorem d_m_load_194 : decode M_m_load.2.1 194 = .ok (.invokevirtual 164, 3) := by decide +kernel
theorem d_m_load_197 : decode M_m_load.2.1 197 = .ok (.idiv, 1) := by decide +kernel
theorem d_m_load_198 : decode M_m_load.2.1 198 = .ok (.imul, 1) := by decide +kernel
theorem d_m_load_199 : decode M_m_load.2.1 199 = .ok (.iadd, 1) := by decide +kernel
theorem d_m_load_200 : decode M_m_load.2.1 200 = .ok (.iload 5, 2) := by decide +kernel
theorem d_m_load_202 : decode M_m_load.2.1 202 = .ok (.aload_n 0, 1) := by decide +kernel
theorem d_m_load_203 : decode M_m_load.2.1 203 = .ok (.invokevirtual 164, 3) := by decide +kernel
theorem d_m_load_206 : decode M_m_load.2.1 206 = .ok (.irem, 1) := by decide +kernel
theorem d_m_load_207 : decode M_m_load.2.1 207 = .ok (.iadd, 1) := by decide +kernel
theorem d_m_load_208 : decode M_m_load.2.1 208 = .ok (.aload_n 0, 1) := by decide +kernel
theorem d_m_load_209 : decode M_m_load.2.1 209 = .ok (.iload_n 2, 1) := by decide +kernel
theorem d_m_load_210 : decode M_m_load.2.1 210 = .ok (.iconst 2, 1) := by decide +kernel
theorem d_m_load_211 : decode M_m_load.2.1 211 = .ok (.iload_n 3, 1) := by decide +kernel
theorem d_m_load_212 : decode M_m_load.2.1 212 = .ok (.imul, 1) := by decide +kernel
theorem d_m_load_213 : decode M_m_load.2.1 213 = .ok (.iadd, 1) := by decide +kernel
theorem d_m_load_214 : decode M_m_load.2.1 214 = .ok (.invokevirtual 218, 3) := by decide +kernel
theorem d_m_load_217 : decode M_m_load.2.1 217 = .ok (.sipush 300, 3) := by decide +kernel
theorem d_m_load_220 : decode M_m_load.2.1 220 = .ok (.isub, 1) := by decide +kernel
theorem d_m_load_221 : decode M_m_load.2.1 221 = .ok (.iastore, 1) := by decide +kernel
theorem d_m_load_222 : decode M_m_load.2.1 222 = .ok (.iinc 3 1, 3) := by decide +kernel
theorem d_m_load_225 : decode M_m_load.2.1 225 = .ok (.goto (-88), 3) := by decide +kernel
theorem d_m_load_228 : decode M_m_load.2.1 228 = .ok (.iconst 0, 1) := by decide +kernel
theorem d_m_load_229 : decode M_m_load.2.1 229 = .ok (.istore_n 3, 1) := by decide +kernel
theorem d_m_load_230 : decode M_m_load.2.1 230 = .ok (.iload_n 3, 1) := by decide +kernel
theorem d_m_load_231 : decode M_m_load.2.1 231 = .ok (.sipush 1000, 3) := by decide +kernel
theorem d_m_load_234 : decode M_m_load.2.1 234 = .ok (.if_icmp .ge 16, 3) := by decide +kernel
theorem d_m_load_237 : decode M_m_load.2.1 237 = .ok (.aload_n 0, 1) := by decide +kernel
theorem d_m_load_238 : decode M_m_load.2.1 238 = .ok (.getfield 22, 3) := by decide +kernel
theorem d_m_load_241 : decode M_m_load.2.1 241 = .ok (.iload_n 3, 1) := by decide +kernel
theorem d_m_load_242 : decode M_m_load.2.1 242 = .ok (.iconst 0, 1) := by decide +kernel
theorem d_m_load_243 : decode M_m_load.2.1 243 = .ok (.bastore, 1) := by decide +kernel
theorem d_m_load_244 : decode M_m_load.2.1 244 = .ok (.iinc 3 1, 3) := by decide +kernel
theorem d_m_load_247 : decode M_m_load.2.1 247 = .ok (.goto (-17), 3) := by decide +kernel
theorem d_m_load_250 : decode M_m_load.2.1 250 = .ok (.iconst 0, 1) := by decide +kernel
theorem d_m_load_251 : decode M_m_load.2.1 251 = .ok (.istore_n 3, 1) := by decide +kernel
theorem d_m_load_252 : decode M_m_load.2.1 252 = .ok (.iload_n 3, 1) := by decide +kernel
theorem d_m_load_253 : decode M_m_load.2.1 253 = .ok (.aload_n 0, 1) := by decide +kernel
theorem d_m_load_254 : decode M_m_load.2.1 254 = .ok (.getfield 131, 3) := by decide +kernel
theorem d_m_load_257 : decode M_m_load.2.1 257 = .ok (.if_icmp .ge 78, 3) := by decide +kernel
theorem d_m_load_260 : decode M_m_load.2.1 260 = .ok (.aload_n 0, 1) := by decide +kernel
theorem d_m_load_261 : decode M_m_load.2.1 261 = .ok (.invokevirtual 215, 3) := by decide +kernel
theorem d_m_load_264 : decode M_m_load.2.1 264 = .ok (.bipush 6, 2) := by decide +kernel
theorem d_m_load_266 : decode M_m_load.2.1 266 = .ok (.iload_n 3, 1) := by decide +kernel
theorem d_m_load_267 : decode M_m_load.2.1 267 = .ok (.imul, 1) := by decide +kernel
theorem d_m_load_268 : decode M_m_load.2.1 268 = .ok (.iadd, 1) := by decide +kernel
theorem d_m_load_269 : decode M_m_load.2.1 269 = .ok (.istore 4, 2) := by decide +kernel
theorem d_m_load_271 : decode M_m_load.2.1 271 = .ok (.aload_n 0, 1) := by decide +kernel
theorem d_m_load_272 : decode M_m_load.2.1 272 = .ok (.iload 4, 2) := by decide +kernel
theorem d_m_load_274 : decode M_m_load.2.1 274 = .ok (.invokevirtual 218, 3) := by decide +kernel
theorem d_m_load_277 : decode M_m_load.2.1 277 = .ok (.istore 5, 2) := by decide +kernel
theorem d_m_load_279 : decode M_m_load.2.1 279 = .ok (.aload_n 0, 1) := by decide +kernel
theorem d_m_load_280 : decode M_m_load.2.1 280 = .ok (.getfield 22, 3) := by decide +kernel
theorem d_m_load_283 : decode M_m_load.2.1 283 = .ok (.iload 5, 2) := by decide +kernel
theorem d_m_load_285 : decode M_m_load.2.1 285 = .ok (.iconst 1, 1) := by decide +kernel
theorem d_m_load_286 : decode M_m_load.2.1 286 = .ok (.bastore, 1) := by decide +kernel
theorem d_m_load_287 : decode M_m_load.2.1 287 = .ok (.iconst 0, 1) := by decide +kernel
theorem d_m_load_288 : decode M_m_load.2.1 288 = .ok (.istore 6, 2) := by decide +kernel
theorem d_m_load_290 : decode M_m_load.2.1 290 = .ok (.iload 6, 2) := by decide +kernel
theorem d_m_load_292 : decode M_m_load.2.1 292 = .ok (.iconst 4, 1) := by decide +kernel
theorem d_m_load_293 : decode M_m_load.2.1 293 = .ok (.if_icmp .ge 36, 3) := by decide +kernel
theorem d_m_load_296 : decode M_m_load.2.1 296 = .ok (.aload_n 0, 1) := by decide +kernel
theorem d_m_load_297 : decode M_m_load.2.1 297 = .ok (.getfield 26, 3) := by decide +kernel
theorem d_m_load_300 : decode M_m_load.2.1 300 = .ok (.iconst 4, 1) := by decide +kernel
theorem d_m_load_301 : decode M_m_load.2.1 301 = .ok (.iload 5, 2) := by decide +kernel
theorem d_m_load_303 : decode M_m_load.2.1 303 = .ok (.imul, 1) := by decide +kernel
theorem d_m_load_304 : decode M_m_load.2.1 304 = .ok (.iload 6, 2) := by decide +kernel
theorem d_m_load_306 : decode M_m_load.2.1 306 = .ok (.iadd, 1) := by decide +kernel
theorem d_m_load_307 : decode M_m_load.2.1 307 = .ok (.aload_n 0, 1) := by decide +kernel
theorem d_m_load_308 : decode M_m_load.2.1 308 = .ok (.getfield 35, 3) := by decide +kernel
theorem d_m_load_311 : decode M_m_load.2.1 311 = .ok (.iload 4, 2) := by decide +kernel
theorem d_m_load_313 : decode M_m_load.2.1 313 = .ok (.iconst 2, 1) := by decide +kernel
theorem d_m_load_314 : decode M_m_load.2.1 314 = .ok (.iadd, 1) := by decide +kernel
theorem d_m_load_315 : decode M_m_load.2.1 315 = .ok (.iload 6, 2) := by decide +kernel
theorem d_m_load_317 : decode M_m_load.2.1 317 = .ok (.iadd, 1) := by decide +kernel
theorem d_m_load_318 : decode M_m_load.2.1 318 = .ok (.iaload, 1) := by decide +kernel
theorem d_m_load_319 : decode M_m_load.2.1 319 = .ok (.bipush 100, 2) := by decide +kernel
theorem d_m_load_321 : decode M_m_load.2.1 321 = .ok (.isub, 1) := by decide +kernel
theorem d_m_load_322 : decode M_m_load.2.1 322 = .ok (.iastore, 1) := by decide +kernel
theorem d_m_load_323 : decode M_m_load.2.1 323 = .ok (.iinc 6 1, 3) := by decide +kernel
theorem d_m_load_326 : decode M_m_load.2.1 326 = .ok (.goto (-36), 3) := by decide +kernel
theorem d_m_load_329 : decode M_m_load.2.1 329 = .ok (.iinc 3 1, 3) := by decide +kernel
theorem d_m_load_332 : decode M_m_load.2.1 332 = .ok (.goto (-80), 3) := by decide +kernel
theorem d_m_load_335 : decode M_m_load.2.1 335 = .ok (.iconst 0, 1) := by decide +kernel
theorem d_m_load_336 : decode M_m_load.2.1 336 = .ok (.ireturn, 1) := by decide +kernel
theorem d_m_fault_0 : decode M_m_fault.2.1 0 = .ok (.aload_n 0, 1) := by decide +kernel
theorem d_m_fault_1 : decode M_m_fault.2.1 1 = .ok (.getfield 203, 3) := by decide +kernel
theorem d_m_fault_4 : decode M_m_fault.2.1 4 = .ok (.bipush 11, 2) := by decide +kernel
theorem d_m_fault_6 : decode M_m_fault.2.1 6 = .ok (.if_icmp .ge 5, 3) := by decide +kernel
theorem d_m_fault_9 : decode M_m_fault.2.1 9 = .ok (.iconst 1, 1) := by decide +kernel
theorem d_m_fault_10 : decode M_m_fault.2.1 10 = .ok (.ireturn, 1) := by decide +kernel
theorem d_m_fault_11 : decode M_m_fault.2.1 11 = .ok (.aload_n 0, 1) := by decide +kernel
theorem d_m_fault_12 : decode M_m_fault.2.1 12 = .ok (.getfield 35, 3) := by decide +kernel
theorem d_m_fault_15 : decode M_m_fault.2.1 15 = .ok (.iconst 0, 1) := by decide +kernel
theorem d_m_fault_16 : decode M_m_fault.2.1 16 = .ok (.iaload, 1) := by decide +kernel
theorem d_m_fault_17 : decode M_m_fault.2.1 17 = .ok (.bipush 86, 2) := by decide +kernel
theorem d_m_fault_19 : decode M_m_fault.2.1 19 = .ok (.if_icmp .ne 13, 3) := by decide +kernel
theorem d_m_fault_22 : decode M_m_fault.2.1 22 = .ok (.aload_n 0, 1) := by decide +kernel
theorem d_m_fault_23 : decode M_m_fault.2.1 23 = .ok (.getfield 35, 3) := by decide +kernel
theorem d_m_fault_26 : decode M_m_fault.2.1 26 = .ok (.iconst 1, 1) := by decide +kernel
theorem d_m_fault_27 : decode M_m_fault.2.1 27 = .ok (.iaload, 1) := by decide +kernel
theorem d_m_fault_28 : decode M_m_fault.2.1 28 = .ok (.iconst 1, 1) := by decide +kernel
theorem d_m_fault_29 : decode M_m_fault.2.1 29 = .ok (.if_icmp .eq 20, 3) := by decide +kernel
theorem d_m_fault_32 : decode M_m_fault.2.1 32 = .ok (.aload_n 0, 1) := by decide +kernel
theorem d_m_fault_33 : decode M_m_fault.2.1 33 = .ok (.getfield 35, 3) := by decide +kernel
theorem d_m_fault_36 : decode M_m_fault.2.1 36 = .ok (.iconst 0, 1) := by decide +kernel
theorem d_m_fault_37 : decode M_m_fault.2.1 37 = .ok (.iaload, 1) := by decide +kernel
theorem d_m_fault_38 : decode M_m_fault.2.1 38 = .ok (.bipush 86, 2) := by decide +kernel
theorem d_m_fault_40 : decode M_m_fault.2.1 40 = .ok (.if_icmp .eq 7, 3) := by decide +kernel
theorem d_m_fault_43 : decode M_m_fault.2.1 43 = .ok (.iconst 2, 1) := by decide +kernel
theorem d_m_fault_44 : decode M_m_fault.2.1 44 = .ok (.goto 4, 3) := by decide +kernel
theorem d_m_fault_47 : decode M_m_fault.2.1 47 = .ok (.iconst 3, 1) := by decide +kernel
theorem d_m_fault_48 : decode M_m_fault.2.1 48 = .ok (.ireturn, 1) := by decide +kernel
theorem d_m_fault_49 : decode M_m_fault.2.1 49 = .ok (.aload_n 0, 1) := by decide +kernel
theorem d_m_fault_50 : decode M_m_fault.2.1 50 = .ok (.getfield 35, 3) := by decide +kernel
theorem d_m_fault_53 : decode M_m_fault.2.1 53 = .ok (.iconst 2, 1) := by decide +kernel
theorem d_m_fault_54 : decode M_m_fault.2.1 54 = .ok (.iaload, 1) := by decide +kernel
theorem d_m_fault_55 : decode M_m_fault.2.1 55 = .ok (.iconst 2, 1) := by decide +kernel
theorem d_m_fault_56 : decode M_m_fault.2.1 56 = .ok (.if_icmp .gt 42, 3) := by decide +kernel
theorem d_m_fault_59 : decode M_m_fault.2.1 59 = .ok (.aload_n 0, 1) := by decide +kernel
theorem d_m_fault_60 : decode M_m_fault.2.1 60 = .ok (.getfield 35, 3) := by decide +kernel
theorem d_m_fault_63 : decode M_m_fault.2.1 63 = .ok (.iconst 3, 1) := by decide +kernel
theorem d_m_fault_64 : decode M_m_fault.2.1 64 = .ok (.iaload, 1) := by decide +kernel
theorem d_m_fault_65 : decode M_m_fault.2.1 65 = .ok (.iconst 1, 1) := by decide +kernel
theorem d_m_fault_66 : decode M_m_fault.2.1 66 = .ok (.iconst 4, 1) := by decide +kernel
theorem d_m_fault_67 : decode M_m_fault.2.1 67 = .ok (.invokestatic 85, 3) := by decide +kernel
theorem d_m_fault_70 : decode M_m_fault.2.1 70 = .ok (.ifCond .eq 28, 3) := by decide +kernel
theorem d_m_fault_73 : decode M_m_fault.2.1 73 = .ok (.aload_n 0, 1) := by decide +kernel
theorem d_m_fault_74 : decode M_m_fault.2.1 74 = .ok (.getfield 35, 3) := by decide +kernel
theorem d_m_fault_77 : decode M_m_fault.2.1 77 = .ok (.iconst 4, 1) := by decide +kernel
theorem d_m_fault_78 : decode M_m_fault.2.1 78 = .ok (.iaload, 1) := by decide +kernel
theorem d_m_fault_79 : decode M_m_fault.2.1 79 = .ok (.iconst 1, 1) := by decide +kernel
theorem d_m_fault_80 : decode M_m_fault.2.1 80 = .ok (.iconst 4, 1) := by decide +kernel
theorem d_m_fault_81 : decode M_m_fault.2.1 81 = .ok (.invokestatic 85, 3) := by decide +kernel
theorem d_m_fault_84 : decode M_m_fault.2.1 84 = .ok (.ifCond .eq 14, 3) := by decide +kernel
theorem d_m_fault_87 : decode M_m_fault.2.1 87 = .ok (.aload_n 0, 1) := by decide +kernel
theorem d_m_fault_88 : decode M_m_fault.2.1 88 = .ok (.getfield 35, 3) := by decide +kernel
theorem d_m_fault_91 : decode M_m_fault.2.1 91 = .ok (.iconst 5, 1) := by decide +kernel
theorem d_m_fault_92 : decode M_m_fault.2.1 92 = .ok (.iaload, 1) := by decide +kernel
theorem d_m_fault_93 : decode M_m_fault.2.1 93 = .ok (.bipush 20, 2) := by decide +kernel
theorem d_m_fault_95 : decode M_m_fault.2.1 95 = .ok (.if_icmp .le 5, 3) := by decide +kernel
theorem d_m_fault_98 : decode M_m_fault.2.1 98 = .ok (.iconst 4, 1) := by decide +kernel
theorem d_m_fault_99 : decode M_m_fault.2.1 99 = .ok (.ireturn, 1) := by decide +kernel
theorem d_m_fault_100 : decode M_m_fault.2.1 100 = .ok (.aload_n 0, 1) := by decide +kernel
theorem d_m_fault_101 : decode M_m_fault.2.1 101 = .ok (.getfield 35, 3) := by decide +kernel
theorem d_m_fault_104 : decode M_m_fault.2.1 104 = .ok (.bipush 6, 2) := by decide +kernel
theorem d_m_fault_106 : decode M_m_fault.2.1 106 = .ok (.iaload, 1) := by decide +kernel
theorem d_m_fault_107 : decode M_m_fault.2.1 107 = .ok (.iconst 4, 1) := by decide +kernel
theorem d_m_fault_108 : decode M_m_fault.2.1 108 = .ok (.isub, 1) := by decide +kernel
theorem d_m_fault_109 : decode M_m_fault.2.1 109 = .ok (.aload_n 0, 1) := by decide +kernel
theorem d_m_fault_110 : decode M_m_fault.2.1 110 = .ok (.getfield 35, 3) := by decide +kernel
theorem d_m_fault_113 : decode M_m_fault.2.1 113 = .ok (.bipush 7, 2) := by decide +kernel
theorem d_m_fault_115 : decode M_m_fault.2.1 115 = .ok (.iaload, 1) := by decide +kernel
theorem d_m_fault_116 : decode M_m_fault.2.1 116 = .ok (.iconst 4, 1) := by decide +kernel
theorem d_m_fault_117 : decode M_m_fault.2.1 117 = .ok (.isub, 1) := by decide +kernel
theorem d_m_fault_118 : decode M_m_fault.2.1 118 = .ok (.aload_n 0, 1) := by decide +kernel
theorem d_m_fault_119 : decode M_m_fault.2.1 119 = .ok (.getfield 35, 3) := by decide +kernel
theorem d_m_fault_122 : decode M_m_fault.2.1 122 = .ok (.bipush 8, 2) := by decide +kernel
theorem d_m_fault_124 : decode M_m_fault.2.1 124 = .ok (.iaload, 1) := by decide +kernel
theorem d_m_fault_125 : decode M_m_fault.2.1 125 = .ok (.iconst 4, 1) := by decide +kernel
theorem d_m_fault_126 : decode M_m_fault.2.1 126 = .ok (.isub, 1) := by decide +kernel
theorem d_m_fault_127 : decode M_m_fault.2.1 127 = .ok (.aload_n 0, 1) := by decide +kernel
theorem d_m_fault_128 : decode M_m_fault.2.1 128 = .ok (.getfield 35, 3) := by decide +kernel
theorem d_m_fault_131 : decode M_m_fault.2.1 131 = .ok (.bipush 9, 2) := by decide +kernel
theorem d_m_fault_133 : decode M_m_fault.2.1 133 = .ok (.iaload, 1) := by decide +kernel
theorem d_m_fault_134 : decode M_m_fault.2.1 134 = .ok (.iconst 4, 1) := by decide +kernel
theorem d_m_fault_135 : decode M_m_fault.2.1 135 = .ok (.isub, 1) := by decide +kernel
theorem d_m_fault_136 : decode M_m_fault.2.1 136 = .ok (.invokestatic 96, 3) := by decide +kernel
theorem d_m_fault_139 : decode M_m_fault.2.1 139 = .ok (.ifCond .ne 5, 3) := by decide +kernel
theorem d_m_fault_142 : decode M_m_fault.2.1 142 = .ok (.iconst 5, 1) := by decide +kernel
theorem d_m_fault_143 : decode M_m_fault.2.1 143 = .ok (.ireturn, 1) := by decide +kernel
theorem d_m_fault_144 : decode M_m_fault.2.1 144 = .ok (.aload_n 0, 1) := by decide +kernel
theorem d_m_fault_145 : decode M_m_fault.2.1 145 = .ok (.invokevirtual 215, 3) := by decide +kernel
theorem d_m_fault_148 : decode M_m_fault.2.1 148 = .ok (.istore_n 1, 1) := by decide +kernel
theorem d_m_fault_149 : decode M_m_fault.2.1 149 = .ok (.aload_n 0, 1) := by decide +kernel
theorem d_m_fault_150 : decode M_m_fault.2.1 150 = .ok (.getfield 35, 3) := by decide +kernel
theorem d_m_fault_153 : decode M_m_fault.2.1 153 = .ok (.iconst 5, 1) := by decide +kernel
theorem d_m_fault_154 : decode M_m_fault.2.1 154 = .ok (.iaload, 1) := by decide +kernel
theorem d_m_fault_155 : decode M_m_fault.2.1 155 = .ok (.istore_n 2, 1) := by decide +kernel
theorem d_m_fault_156 : decode M_m_fault.2.1 156 = .ok (.aload_n 0, 1) := by decide +kernel
theorem d_m_fault_157 : decode M_m_fault.2.1 157 = .ok (.getfield 203, 3) := by decide +kernel
theorem d_m_fault_160 : decode M_m_fault.2.1 160 = .ok (.iload_n 1, 1) := by decide +kernel
theorem d_m_fault_161 : decode M_m_fault.2.1 161 = .ok (.bipush 6, 2) := by decide +kernel
theorem d_m_fault_163 : decode M_m_fault.2.1 163 = .ok (.iload_n 2, 1) := by decide +kernel
theorem d_m_fault_164 : decode M_m_fault.2.1 164 = .ok (.imul, 1) := by decide +kernel
theorem d_m_fault_165 : decode M_m_fault.2.1 165 = .ok (.iadd, 1) := by decide +kernel
theorem d_m_fault_166 : decode M_m_fault.2.1 166 = .ok (.iconst 1, 1) := by decide +kernel
theorem d_m_fault_167 : decode M_m_fault.2.1 167 = .ok (.iadd, 1) := by decide +kernel
theorem d_m_fault_168 : decode M_m_fault.2.1 168 = .ok (.if_icmp .eq 6, 3) := by decide +kernel
theorem d_m_fault_171 : decode M_m_fault.2.1 171 = .ok (.bipush 6, 2) := by decide +kernel
theorem d_m_fault_173 : decode M_m_fault.2.1 173 = .ok (.ireturn, 1) := by decide +kernel
theorem d_m_fault_174 : decode M_m_fault.2.1 174 = .ok (.aload_n 0, 1) := by decide +kernel
theorem d_m_fault_175 : decode M_m_fault.2.1 175 = .ok (.getfield 35, 3) := by decide +kernel
theorem d_m_fault_178 : decode M_m_fault.2.1 178 = .ok (.aload_n 0, 1) := by decide +kernel
theorem d_m_fault_179 : decode M_m_fault.2.1 179 = .ok (.getfield 203, 3) := by decide +kernel
theorem d_m_fault_182 : decode M_m_fault.2.1 182 = .ok (.iconst 1, 1) := by decide +kernel
theorem d_m_fault_183 : decode M_m_fault.2.1 183 = .ok (.isub, 1) := by decide +kernel
theorem d_m_fault_184 : decode M_m_fault.2.1 184 = .ok (.iaload, 1) := by decide +kernel
theorem d_m_fault_185 : decode M_m_fault.2.1 185 = .ok (.aload_n 0, 1) := by decide +kernel
theorem d_m_fault_186 : decode M_m_fault.2.1 186 = .ok (.aload_n 0, 1) := by decide +kernel
theorem d_m_fault_187 : decode M_m_fault.2.1 187 = .ok (.getfield 203, 3) := by decide +kernel
theorem d_m_fault_190 : decode M_m_fault.2.1 190 = .ok (.iconst 1, 1) := by decide +kernel
theorem d_m_fault_191 : decode M_m_fault.2.1 191 = .ok (.isub, 1) := by decide +kernel
theorem d_m_fault_192 : decode M_m_fault.2.1 192 = .ok (.invokevirtual 212, 3) := by decide +kernel
theorem d_m_fault_195 : decode M_m_fault.2.1 195 = .ok (.if_icmp .eq 6, 3) := by decide +kernel
theorem d_m_fault_198 : decode M_m_fault.2.1 198 = .ok (.bipush 7, 2) := by decide +kernel
theorem d_m_fault_200 : decode M_m_fault.2.1 200 = .ok (.ireturn, 1) := by decide +kernel
theorem d_m_fault_201 : decode M_m_fault.2.1 201 = .ok (.bipush 10, 2) := by decide +kernel
theorem d_m_fault_203 : decode M_m_fault.2.1 203 = .ok (.istore_n 3, 1) := by decide +kernel
theorem d_m_fault_204 : decode M_m_fault.2.1 204 = .ok (.iload_n 3, 1) := by decide +kernel
theorem d_m_fault_205 : decode M_m_fault.2.1 205 = .ok (.iload_n 1, 1) := by decide +kernel
theorem d_m_fault_206 : decode M_m_fault.2.1 206 = .ok (.if_icmp .ge 23, 3) := by decide +kernel
theorem d_m_fault_209 : decode M_m_fault.2.1 209 = .ok (.aload_n 0, 1) := by decide +kernel
theorem d_m_fault_210 : decode M_m_fault.2.1 210 = .ok (.iload_n 3, 1) := by decide +kernel
theorem d_m_fault_211 : decode M_m_fault.2.1 211 = .ok (.invokevirtual 218, 3) := by decide +kernel
theorem d_m_fault_214 : decode M_m_fault.2.1 214 = .ok (.sipush 600, 3) := by decide +kernel
theorem d_m_fault_217 : decode M_m_fault.2.1 217 = .ok (.if_icmp .le 6, 3) := by decide +kernel
theorem d_m_fault_220 : decode M_m_fault.2.1 220 = .ok (.bipush 8, 2) := by decide +kernel
theorem d_m_fault_222 : decode M_m_fault.2.1 222 = .ok (.ireturn, 1) := by decide +kernel
theorem d_m_fault_223 : decode M_m_fault.2.1 223 = .ok (.iinc 3 2, 3) := by decide +kernel
theorem d_m_fault_226 : decode M_m_fault.2.1 226 = .ok (.goto (-22), 3) := by decide +kernel
theorem d_m_fault_229 : decode M_m_fault.2.1 229 = .ok (.iconst 0, 1) := by decide +kernel
theorem d_m_fault_230 : decode M_m_fault.2.1 230 = .ok (.istore_n 3, 1) := by decide +kernel
theorem d_m_fault_231 : decode M_m_fault.2.1 231 = .ok (.iload_n 3, 1) := by decide +kernel
theorem d_m_fault_232 : decode M_m_fault.2.1 232 = .ok (.iload_n 2, 1) := by decide +kernel
theorem d_m_fault_233 : decode M_m_fault.2.1 233 = .ok (.if_icmp .ge 134, 3) := by decide +kernel
theorem d_m_fault_236 : decode M_m_fault.2.1 236 = .ok (.iload_n 1, 1) := by decide +kernel
theorem d_m_fault_237 : decode M_m_fault.2.1 237 = .ok (.bipush 6, 2) := by decide +kernel
theorem d_m_fault_239 : decode M_m_fault.2.1 239 = .ok (.iload_n 3, 1) := by decide +kernel
theorem d_m_fault_240 : decode M_m_fault.2.1 240 = .ok (.imul, 1) := by decide +kernel
theorem d_m_fault_241 : decode M_m_fault.2.1 241 = .ok (.iadd, 1) := by decide +kernel
theorem d_m_fault_242 : decode M_m_fault.2.1 242 = .ok (.istore 4, 2) := by decide +kernel
theorem d_m_fault_244 : decode M_m_fault.2.1 244 = .ok (.iload_n 3, 1) := by decide +kernel
theorem d_m_fault_245 : decode M_m_fault.2.1 245 = .ok (.ifCond .ne 7, 3) := by decide +kernel
theorem d_m_fault_248 : decode M_m_fault.2.1 248 = .ok (.iconst (-1), 1) := by decide +kernel
theorem d_m_fault_249 : decode M_m_fault.2.1 249 = .ok (.goto 12, 3) := by decide +kernel
theorem d_m_fault_252 : decode M_m_fault.2.1 252 = .ok (.aload_n 0, 1) := by decide +kernel
theorem d_m_fault_253 : decode M_m_fault.2.1 253 = .ok (.iload 4, 2) := by decide +kernel
theorem d_m_fault_255 : decode M_m_fault.2.1 255 = .ok (.bipush 6, 2) := by decide +kernel
theorem d_m_fault_257 : decode M_m_fault.2.1 257 = .ok (.isub, 1) := by decide +kernel
theorem d_m_fault_258 : decode M_m_fault.2.1 258 = .ok (.invokevirtual 218, 3) := by decide +kernel
theorem d_m_fault_261 : decode M_m_fault.2.1 261 = .ok (.istore 5, 2) := by decide +kernel
theorem d_m_fault_263 : decode M_m_fault.2.1 263 = .ok (.aload_n 0, 1) := by decide +kernel
theorem d_m_fault_264 : decode M_m_fault.2.1 264 = .ok (.iload 4, 2) := by decide +kernel
theorem d_m_fault_266 : decode M_m_fault.2.1 266 = .ok (.invokevirtual 218, 3) := by decide +kernel
theorem d_m_fault_269 : decode M_m_fault.2.1 269 = .ok (.sipush 999, 3) := by decide +kernel
theorem d_m_fault_272 : decode M_m_fault.2.1 272 = .ok (.if_icmp .gt 14, 3) := by decide +kernel
theorem d_m_fault_275 : decode M_m_fault.2.1 275 = .ok (.aload_n 0, 1) := by decide +kernel
theorem d_m_fault_276 : decode M_m_fault.2.1 276 = .ok (.iload 4, 2) := by decide +kernel
theorem d_m_fault_278 : decode M_m_fault.2.1 278 = .ok (.invokevirtual 218, 3) := by decide +kernel
theorem d_m_fault_281 : decode M_m_fault.2.1 281 = .ok (.iload 5, 2) := by decide +kernel
theorem d_m_fault_283 : decode M_m_fault.2.1 283 = .ok (.if_icmp .gt 7, 3) := by decide +kernel
theorem d_m_fault_286 : decode M_m_fault.2.1 286 = .ok (.iconst 1, 1) := by decide +kernel
theorem d_m_fault_287 : decode M_m_fault.2.1 287 = .ok (.goto 4, 3) := by decide +kernel
theorem d_m_fault_290 : decode M_m_fault.2.1 290 = .ok (.iconst 0, 1) := by decide +kernel
theorem d_m_fault_291 : decode M_m_fault.2.1 291 = .ok (.istore 6, 2) := by decide +kernel
theorem d_m_fault_293 : decode M_m_fault.2.1 293 = .ok (.iload 6, 2) := by decide +kernel
theorem d_m_fault_295 : decode M_m_fault.2.1 295 = .ok (.ifCond .ne 63, 3) := by decide +kernel
theorem d_m_fault_298 : decode M_m_fault.2.1 298 = .ok (.aload_n 0, 1) := by decide +kernel
theorem d_m_fault_299 : decode M_m_fault.2.1 299 = .ok (.getfield 35, 3) := by decide +kernel
theorem d_m_fault_302 : decode M_m_fault.2.1 302 = .ok (.iload 4, 2) := by decide +kernel
theorem d_m_fault_304 : decode M_m_fault.2.1 304 = .ok (.iconst 2, 1) := by decide +kernel
theorem d_m_fault_305 : decode M_m_fault.2.1 305 = .ok (.iadd, 1) := by decide +kernel
theorem d_m_fault_306 : decode M_m_fault.2.1 306 = .ok (.iaload, 1) := by decide +kernel
theorem d_m_fault_307 : decode M_m_fault.2.1 307 = .ok (.sipush 200, 3) := by decide +kernel
theorem d_m_fault_310 : decode M_m_fault.2.1 310 = .ok (.if_icmp .gt 48, 3) := by decide +kernel
theorem d_m_fault_313 : decode M_m_fault.2.1 313 = .ok (.aload_n 0, 1) := by decide +kernel
theorem d_m_fault_314 : decode M_m_fault.2.1 314 = .ok (.getfield 35, 3) := by decide +kernel
theorem d_m_fault_317 : decode M_m_fault.2.1 317 = .ok (.iload 4, 2) := by decide +kernel
theorem d_m_fault_319 : decode M_m_fault.2.1 319 = .ok (.iconst 3, 1) := by decide +kernel
theorem d_m_fault_320 : decode M_m_fault.2.1 320 = .ok (.iadd, 1) := by decide +kernel
theorem d_m_fault_321 : decode M_m_fault.2.1 321 = .ok (.iaload, 1) := by decide +kernel
theorem d_m_fault_322 : decode M_m_fault.2.1 322 = .ok (.sipush 200, 3) := by decide +kernel
theorem d_m_fault_325 : decode M_m_fault.2.1 325 = .ok (.if_icmp .gt 33, 3) := by decide +kernel
theorem d_m_fault_328 : decode M_m_fault.2.1 328 = .ok (.aload_n 0, 1) := by decide +kernel
theorem d_m_fault_329 : decode M_m_fault.2.1 329 = .ok (.getfield 35, 3) := by decide +kernel
theorem d_m_fault_332 : decode M_m_fault.2.1 332 = .ok (.iload 4, 2) := by decide +kernel
theorem d_m_fault_334 : decode M_m_fault.2.1 334 = .ok (.iconst 4, 1) := by decide +kernel
theorem d_m_fault_335 : decode M_m_fault.2.1 335 = .ok (.iadd, 1) := by decide +kernel
theorem d_m_fault_336 : decode M_m_fault.2.1 336 = .ok (.iaload, 1) := by decide +kernel
theorem d_m_fault_337 : decode M_m_fault.2.1 337 = .ok (.sipush 200, 3) := by decide +kernel
theorem d_m_fault_340 : decode M_m_fault.2.1 340 = .ok (.if_icmp .gt 18, 3) := by decide +kernel
theorem d_m_fault_343 : decode M_m_fault.2.1 343 = .ok (.aload_n 0, 1) := by decide +kernel
theorem d_m_fault_344 : decode M_m_fault.2.1 344 = .ok (.getfield 35, 3) := by decide +kernel
theorem d_m_fault_347 : decode M_m_fault.2.1 347 = .ok (.iload 4, 2) := by decide +kernel
theorem d_m_fault_349 : decode M_m_fault.2.1 349 = .ok (.iconst 5, 1) := by decide +kernel
theorem d_m_fault_350 : decode M_m_fault.2.1 350 = .ok (.iadd, 1) := by decide +kernel
theorem d_m_fault_351 : decode M_m_fault.2.1 351 = .ok (.iaload, 1) := by decide +kernel
theorem d_m_fault_352 : decode M_m_fault.2.1 352 = .ok (.sipush 200, 3) := by decide +kernel
theorem d_m_fault_355 : decode M_m_fault.2.1 355 = .ok (.if_icmp .le 6, 3) := by decide +kernel
theorem d_m_fault_358 : decode M_m_fault.2.1 358 = .ok (.bipush 9, 2) := by decide +kernel
theorem d_m_fault_360 : decode M_m_fault.2.1 360 = .ok (.ireturn, 1) := by decide +kernel
theorem d_m_fault_361 : decode M_m_fault.2.1 361 = .ok (.iinc 3 1, 3) := by decide +kernel
theorem d_m_fault_364 : decode M_m_fault.2.1 364 = .ok (.goto (-133), 3) := by decide +kernel
theorem d_m_fault_367 : decode M_m_fault.2.1 367 = .ok (.iconst 0, 1) := by decide +kernel
theorem d_m_fault_368 : decode M_m_fault.2.1 368 = .ok (.ireturn, 1) := by decide +kernel
theorem d_m_head_0 : decode M_m_head.2.1 0 = .ok (.aload_n 0, 1) := by decide +kernel
theorem d_m_head_1 : decode M_m_head.2.1 1 = .ok (.getfield 35, 3) := by decide +kernel
theorem d_m_head_4 : decode M_m_head.2.1 4 = .ok (.iconst 2, 1) := by decide +kernel
theorem d_m_head_5 : decode M_m_head.2.1 5 = .ok (.iaload, 1) := by decide +kernel
theorem d_m_head_6 : decode M_m_head.2.1 6 = .ok (.iconst 2, 1) := by decide +kernel
theorem d_m_head_7 : decode M_m_head.2.1 7 = .ok (.if_icmp .ne 7, 3) := by decide +kernel
theorem d_m_head_10 : decode M_m_head.2.1 10 = .ok (.iconst 0, 1) := by decide +kernel
theorem d_m_head_11 : decode M_m_head.2.1 11 = .ok (.goto 11, 3) := by decide +kernel
theorem d_m_head_14 : decode M_m_head.2.1 14 = .ok (.iconst 4, 1) := by decide +kernel
theorem d_m_head_15 : decode M_m_head.2.1 15 = .ok (.aload_n 0, 1) := by decide +kernel
theorem d_m_head_16 : decode M_m_head.2.1 16 = .ok (.getfield 35, 3) := by decide +kernel
theorem d_m_head_19 : decode M_m_head.2.1 19 = .ok (.iconst 4, 1) := by decide +kernel
theorem d_m_head_20 : decode M_m_head.2.1 20 = .ok (.iaload, 1) := by decide +kernel
theorem d_m_head_21 : decode M_m_head.2.1 21 = .ok (.imul, 1) := by decide +kernel
theorem d_m_head_22 : decode M_m_head.2.1 22 = .ok (.istore_n 1, 1) := by decide +kernel
theorem d_m_head_23 : decode M_m_head.2.1 23 = .ok (.bipush 10, 2) := by decide +kernel
theorem d_m_head_25 : decode M_m_head.2.1 25 = .ok (.bipush 8, 2) := by decide +kernel
theorem d_m_head_27 : decode M_m_head.2.1 27 = .ok (.aload_n 0, 1) := by decide +kernel
theorem d_m_head_28 : decode M_m_head.2.1 28 = .ok (.getfield 35, 3) := by decide +kernel
theorem d_m_head_31 : decode M_m_head.2.1 31 = .ok (.iconst 3, 1) := by decide +kernel
theorem d_m_head_32 : decode M_m_head.2.1 32 = .ok (.iaload, 1) := by decide +kernel
theorem d_m_head_33 : decode M_m_head.2.1 33 = .ok (.imul, 1) := by decide +kernel
theorem d_m_head_34 : decode M_m_head.2.1 34 = .ok (.iadd, 1) := by decide +kernel
theorem d_m_head_35 : decode M_m_head.2.1 35 = .ok (.iconst 2, 1) := by decide +kernel
theorem d_m_head_36 : decode M_m_head.2.1 36 = .ok (.iload_n 1, 1) := by decide +kernel
theorem d_m_head_37 : decode M_m_head.2.1 37 = .ok (.imul, 1) := by decide +kernel
theorem d_m_head_38 : decode M_m_head.2.1 38 = .ok (.iadd, 1) := by decide +kernel
theorem d_m_head_39 : decode M_m_head.2.1 39 = .ok (.ireturn, 1) := by decide +kernel
theorem d_m_two_0 : decode M_m_two.2.1 0 = .ok (.aload_n 0, 1) := by decide +kernel
theorem d_m_two_1 : decode M_m_two.2.1 1 = .ok (.getfield 35, 3) := by decide +kernel
theorem d_m_two_4 : decode M_m_two.2.1 4 = .ok (.iload_n 1, 1) := by decide +kernel
theorem d_m_two_5 : decode M_m_two.2.1 5 = .ok (.iaload, 1) := by decide +kernel
theorem d_m_two_6 : decode M_m_two.2.1 6 = .ok (.sipush 256, 3) := by decide +kernel
theorem d_m_two_9 : decode M_m_two.2.1 9 = .ok (.imul, 1) := by decide +kernel
theorem d_m_two_10 : decode M_m_two.2.1 10 = .ok (.aload_n 0, 1) := by decide +kernel
theorem d_m_two_11 : decode M_m_two.2.1 11 = .ok (.getfield 35, 3) := by decide +kernel
theorem d_m_two_14 : decode M_m_two.2.1 14 = .ok (.iload_n 1, 1) := by decide +kernel
theorem d_m_two_15 : decode M_m_two.2.1 15 = .ok (.iconst 1, 1) := by decide +kernel
theorem d_m_two_16 : decode M_m_two.2.1 16 = .ok (.iadd, 1) := by decide +kernel
theorem d_m_two_17 : decode M_m_two.2.1 17 = .ok (.iaload, 1) := by decide +kernel
theorem d_m_two_18 : decode M_m_two.2.1 18 = .ok (.iadd, 1) := by decide +kernel
theorem d_m_two_19 : decode M_m_two.2.1 19 = .ok (.ireturn, 1) := by decide +kernel
