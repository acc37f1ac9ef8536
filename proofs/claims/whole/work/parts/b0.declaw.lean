/-! decode rows of the law (written by program) -/
theorem d_lw_0 : decode code 0 = .ok (.new 8, 3) := by decide +kernel
theorem d_lw_3 : decode code 3 = .ok (.dup, 1) := by decide +kernel
theorem d_lw_4 : decode code 4 = .ok (.invokespecial 70, 3) := by decide +kernel
theorem d_lw_7 : decode code 7 = .ok (.astore_n 1, 1) := by decide +kernel
theorem d_lw_8 : decode code 8 = .ok (.new 71, 3) := by decide +kernel
theorem d_lw_11 : decode code 11 = .ok (.dup, 1) := by decide +kernel
theorem d_lw_12 : decode code 12 = .ok (.invokespecial 73, 3) := by decide +kernel
theorem d_lw_15 : decode code 15 = .ok (.astore_n 2, 1) := by decide +kernel
theorem d_lw_16 : decode code 16 = .ok (.iconst 1, 1) := by decide +kernel
theorem d_lw_17 : decode code 17 = .ok (.newarray .long, 2) := by decide +kernel
theorem d_lw_19 : decode code 19 = .ok (.astore_n 3, 1) := by decide +kernel
theorem d_lw_20 : decode code 20 = .ok (.iconst 0, 1) := by decide +kernel
theorem d_lw_21 : decode code 21 = .ok (.istore 4, 2) := by decide +kernel
theorem d_lw_23 : decode code 23 = .ok (.iload 4, 2) := by decide +kernel
theorem d_lw_25 : decode code 25 = .ok (.aload_n 0, 1) := by decide +kernel
theorem d_lw_26 : decode code 26 = .ok (.arraylength, 1) := by decide +kernel
theorem d_lw_27 : decode code 27 = .ok (.iconst 4, 1) := by decide +kernel
theorem d_lw_28 : decode code 28 = .ok (.isub, 1) := by decide +kernel
theorem d_lw_29 : decode code 29 = .ok (.if_icmp .gt 1130, 3) := by decide +kernel
theorem d_lw_32 : decode code 32 = .ok (.aload_n 0, 1) := by decide +kernel
theorem d_lw_33 : decode code 33 = .ok (.iload 4, 2) := by decide +kernel
theorem d_lw_35 : decode code 35 = .ok (.iaload, 1) := by decide +kernel
theorem d_lw_36 : decode code 36 = .ok (.bipush 31, 2) := by decide +kernel
theorem d_lw_38 : decode code 38 = .ok (.iand, 1) := by decide +kernel
theorem d_lw_39 : decode code 39 = .ok (.tableswitch 1114 0 17 #[85, 134, 190, 246, 302, 358, 394, 430, 443, 511, 602, 638, 706, 774, 842, 898, 966, 1034], 85) := by decide +kernel
theorem d_lw_124 : decode code 124 = .ok (.aload_n 1, 1) := by decide +kernel
theorem d_lw_125 : decode code 125 = .ok (.aload_n 0, 1) := by decide +kernel
theorem d_lw_126 : decode code 126 = .ok (.iload 4, 2) := by decide +kernel
theorem d_lw_128 : decode code 128 = .ok (.iconst 1, 1) := by decide +kernel
theorem d_lw_129 : decode code 129 = .ok (.iadd, 1) := by decide +kernel
theorem d_lw_130 : decode code 130 = .ok (.iaload, 1) := by decide +kernel
theorem d_lw_131 : decode code 131 = .ok (.aload_n 0, 1) := by decide +kernel
theorem d_lw_132 : decode code 132 = .ok (.iload 4, 2) := by decide +kernel
theorem d_lw_134 : decode code 134 = .ok (.iconst 2, 1) := by decide +kernel
theorem d_lw_135 : decode code 135 = .ok (.iadd, 1) := by decide +kernel
theorem d_lw_136 : decode code 136 = .ok (.iaload, 1) := by decide +kernel
theorem d_lw_137 : decode code 137 = .ok (.aload_n 0, 1) := by decide +kernel
theorem d_lw_138 : decode code 138 = .ok (.iload 4, 2) := by decide +kernel
theorem d_lw_140 : decode code 140 = .ok (.iconst 3, 1) := by decide +kernel
theorem d_lw_141 : decode code 141 = .ok (.iadd, 1) := by decide +kernel
theorem d_lw_142 : decode code 142 = .ok (.iaload, 1) := by decide +kernel
theorem d_lw_143 : decode code 143 = .ok (.invokevirtual 74, 3) := by decide +kernel
theorem d_lw_146 : decode code 146 = .ok (.aload_n 2, 1) := by decide +kernel
theorem d_lw_147 : decode code 147 = .ok (.aload_n 0, 1) := by decide +kernel
theorem d_lw_148 : decode code 148 = .ok (.iload 4, 2) := by decide +kernel
theorem d_lw_150 : decode code 150 = .ok (.iconst 1, 1) := by decide +kernel
theorem d_lw_151 : decode code 151 = .ok (.iadd, 1) := by decide +kernel
theorem d_lw_152 : decode code 152 = .ok (.iaload, 1) := by decide +kernel
theorem d_lw_153 : decode code 153 = .ok (.aload_n 0, 1) := by decide +kernel
theorem d_lw_154 : decode code 154 = .ok (.iload 4, 2) := by decide +kernel
theorem d_lw_156 : decode code 156 = .ok (.iconst 2, 1) := by decide +kernel
theorem d_lw_157 : decode code 157 = .ok (.iadd, 1) := by decide +kernel
theorem d_lw_158 : decode code 158 = .ok (.iaload, 1) := by decide +kernel
theorem d_lw_159 : decode code 159 = .ok (.aload_n 0, 1) := by decide +kernel
theorem d_lw_160 : decode code 160 = .ok (.iload 4, 2) := by decide +kernel
theorem d_lw_162 : decode code 162 = .ok (.iconst 3, 1) := by decide +kernel
theorem d_lw_163 : decode code 163 = .ok (.iadd, 1) := by decide +kernel
theorem d_lw_164 : decode code 164 = .ok (.iaload, 1) := by decide +kernel
theorem d_lw_165 : decode code 165 = .ok (.invokevirtual 78, 3) := by decide +kernel
theorem d_lw_168 : decode code 168 = .ok (.if_icmp .eq 985, 3) := by decide +kernel
theorem d_lw_171 : decode code 171 = .ok (.iconst 0, 1) := by decide +kernel
theorem d_lw_172 : decode code 172 = .ok (.ireturn, 1) := by decide +kernel
theorem d_lw_173 : decode code 173 = .ok (.aload_n 1, 1) := by decide +kernel
theorem d_lw_174 : decode code 174 = .ok (.aload_n 0, 1) := by decide +kernel
theorem d_lw_175 : decode code 175 = .ok (.iload 4, 2) := by decide +kernel
theorem d_lw_177 : decode code 177 = .ok (.iconst 1, 1) := by decide +kernel
theorem d_lw_178 : decode code 178 = .ok (.iadd, 1) := by decide +kernel
theorem d_lw_179 : decode code 179 = .ok (.iaload, 1) := by decide +kernel
theorem d_lw_180 : decode code 180 = .ok (.aload_n 3, 1) := by decide +kernel
theorem d_lw_181 : decode code 181 = .ok (.invokestatic 79, 3) := by decide +kernel
theorem d_lw_184 : decode code 184 = .ok (.istore 5, 2) := by decide +kernel
theorem d_lw_186 : decode code 186 = .ok (.aload_n 2, 1) := by decide +kernel
theorem d_lw_187 : decode code 187 = .ok (.aload_n 0, 1) := by decide +kernel
theorem d_lw_188 : decode code 188 = .ok (.iload 4, 2) := by decide +kernel
theorem d_lw_190 : decode code 190 = .ok (.iconst 1, 1) := by decide +kernel
theorem d_lw_191 : decode code 191 = .ok (.iadd, 1) := by decide +kernel
theorem d_lw_192 : decode code 192 = .ok (.iaload, 1) := by decide +kernel
theorem d_lw_193 : decode code 193 = .ok (.invokevirtual 84, 3) := by decide +kernel
theorem d_lw_196 : decode code 196 = .ok (.istore 6, 2) := by decide +kernel
theorem d_lw_198 : decode code 198 = .ok (.aload_n 2, 1) := by decide +kernel
theorem d_lw_199 : decode code 199 = .ok (.invokevirtual 85, 3) := by decide +kernel
theorem d_lw_202 : decode code 202 = .ok (.iload 5, 2) := by decide +kernel
theorem d_lw_204 : decode code 204 = .ok (.if_icmp .eq 5, 3) := by decide +kernel
theorem d_lw_207 : decode code 207 = .ok (.iconst 0, 1) := by decide +kernel
theorem d_lw_208 : decode code 208 = .ok (.ireturn, 1) := by decide +kernel
theorem d_lw_209 : decode code 209 = .ok (.iload 5, 2) := by decide +kernel
theorem d_lw_211 : decode code 211 = .ok (.ifCond .ne 15, 3) := by decide +kernel
theorem d_lw_214 : decode code 214 = .ok (.aload_n 3, 1) := by decide +kernel
theorem d_lw_215 : decode code 215 = .ok (.iconst 0, 1) := by decide +kernel
theorem d_lw_216 : decode code 216 = .ok (.laload, 1) := by decide +kernel
theorem d_lw_217 : decode code 217 = .ok (.iload 6, 2) := by decide +kernel
theorem d_lw_219 : decode code 219 = .ok (.i2l, 1) := by decide +kernel
theorem d_lw_220 : decode code 220 = .ok (.lcmp, 1) := by decide +kernel
theorem d_lw_221 : decode code 221 = .ok (.ifCond .eq 5, 3) := by decide +kernel
theorem d_lw_224 : decode code 224 = .ok (.iconst 0, 1) := by decide +kernel
theorem d_lw_225 : decode code 225 = .ok (.ireturn, 1) := by decide +kernel
theorem d_lw_226 : decode code 226 = .ok (.goto 927, 3) := by decide +kernel
theorem d_lw_229 : decode code 229 = .ok (.aload_n 1, 1) := by decide +kernel
theorem d_lw_230 : decode code 230 = .ok (.aload_n 0, 1) := by decide +kernel
theorem d_lw_231 : decode code 231 = .ok (.iload 4, 2) := by decide +kernel
theorem d_lw_233 : decode code 233 = .ok (.iconst 1, 1) := by decide +kernel
theorem d_lw_234 : decode code 234 = .ok (.iadd, 1) := by decide +kernel
theorem d_lw_235 : decode code 235 = .ok (.iaload, 1) := by decide +kernel
theorem d_lw_236 : decode code 236 = .ok (.aload_n 3, 1) := by decide +kernel
theorem d_lw_237 : decode code 237 = .ok (.invokestatic 89, 3) := by decide +kernel
theorem d_lw_240 : decode code 240 = .ok (.istore 5, 2) := by decide +kernel
theorem d_lw_242 : decode code 242 = .ok (.aload_n 2, 1) := by decide +kernel
theorem d_lw_243 : decode code 243 = .ok (.aload_n 0, 1) := by decide +kernel
theorem d_lw_244 : decode code 244 = .ok (.iload 4, 2) := by decide +kernel
theorem d_lw_246 : decode code 246 = .ok (.iconst 1, 1) := by decide +kernel
theorem d_lw_247 : decode code 247 = .ok (.iadd, 1) := by decide +kernel
theorem d_lw_248 : decode code 248 = .ok (.iaload, 1) := by decide +kernel
theorem d_lw_249 : decode code 249 = .ok (.invokevirtual 91, 3) := by decide +kernel
theorem d_lw_252 : decode code 252 = .ok (.istore 6, 2) := by decide +kernel
theorem d_lw_254 : decode code 254 = .ok (.aload_n 2, 1) := by decide +kernel
theorem d_lw_255 : decode code 255 = .ok (.invokevirtual 85, 3) := by decide +kernel
theorem d_lw_258 : decode code 258 = .ok (.iload 5, 2) := by decide +kernel
theorem d_lw_260 : decode code 260 = .ok (.if_icmp .eq 5, 3) := by decide +kernel
theorem d_lw_263 : decode code 263 = .ok (.iconst 0, 1) := by decide +kernel
theorem d_lw_264 : decode code 264 = .ok (.ireturn, 1) := by decide +kernel
theorem d_lw_265 : decode code 265 = .ok (.iload 5, 2) := by decide +kernel
theorem d_lw_267 : decode code 267 = .ok (.ifCond .ne 15, 3) := by decide +kernel
theorem d_lw_270 : decode code 270 = .ok (.aload_n 3, 1) := by decide +kernel
theorem d_lw_271 : decode code 271 = .ok (.iconst 0, 1) := by decide +kernel
theorem d_lw_272 : decode code 272 = .ok (.laload, 1) := by decide +kernel
theorem d_lw_273 : decode code 273 = .ok (.iload 6, 2) := by decide +kernel
theorem d_lw_275 : decode code 275 = .ok (.i2l, 1) := by decide +kernel
theorem d_lw_276 : decode code 276 = .ok (.lcmp, 1) := by decide +kernel
theorem d_lw_277 : decode code 277 = .ok (.ifCond .eq 5, 3) := by decide +kernel
theorem d_lw_280 : decode code 280 = .ok (.iconst 0, 1) := by decide +kernel
theorem d_lw_281 : decode code 281 = .ok (.ireturn, 1) := by decide +kernel
theorem d_lw_282 : decode code 282 = .ok (.goto 871, 3) := by decide +kernel
theorem d_lw_285 : decode code 285 = .ok (.aload_n 1, 1) := by decide +kernel
theorem d_lw_286 : decode code 286 = .ok (.aload_n 0, 1) := by decide +kernel
theorem d_lw_287 : decode code 287 = .ok (.iload 4, 2) := by decide +kernel
theorem d_lw_289 : decode code 289 = .ok (.iconst 1, 1) := by decide +kernel
theorem d_lw_290 : decode code 290 = .ok (.iadd, 1) := by decide +kernel
theorem d_lw_291 : decode code 291 = .ok (.iaload, 1) := by decide +kernel
theorem d_lw_292 : decode code 292 = .ok (.aload_n 3, 1) := by decide +kernel
theorem d_lw_293 : decode code 293 = .ok (.invokestatic 92, 3) := by decide +kernel
