abbrev b_SlippedStreamsLaw_law : ByteArray := code
theorem d_SlippedStreamsLaw_law_0 : decode b_SlippedStreamsLaw_law 0 = .ok (.new 7, 3) := by decide +kernel
theorem d_SlippedStreamsLaw_law_3 : decode b_SlippedStreamsLaw_law 3 = .ok (.dup, 1) := by decide +kernel
theorem d_SlippedStreamsLaw_law_4 : decode b_SlippedStreamsLaw_law 4 = .ok (.invokespecial 9, 3) := by decide +kernel
theorem d_SlippedStreamsLaw_law_7 : decode b_SlippedStreamsLaw_law 7 = .ok (.astore_n 1, 1) := by decide +kernel
theorem d_SlippedStreamsLaw_law_8 : decode b_SlippedStreamsLaw_law 8 = .ok (.new 10, 3) := by decide +kernel
theorem d_SlippedStreamsLaw_law_11 : decode b_SlippedStreamsLaw_law 11 = .ok (.dup, 1) := by decide +kernel
theorem d_SlippedStreamsLaw_law_12 : decode b_SlippedStreamsLaw_law 12 = .ok (.invokespecial 12, 3) := by decide +kernel
theorem d_SlippedStreamsLaw_law_15 : decode b_SlippedStreamsLaw_law 15 = .ok (.astore_n 2, 1) := by decide +kernel
theorem d_SlippedStreamsLaw_law_16 : decode b_SlippedStreamsLaw_law 16 = .ok (.iconst 0, 1) := by decide +kernel
theorem d_SlippedStreamsLaw_law_17 : decode b_SlippedStreamsLaw_law 17 = .ok (.istore_n 3, 1) := by decide +kernel
theorem d_SlippedStreamsLaw_law_18 : decode b_SlippedStreamsLaw_law 18 = .ok (.iload_n 3, 1) := by decide +kernel
theorem d_SlippedStreamsLaw_law_19 : decode b_SlippedStreamsLaw_law 19 = .ok (.aload_n 0, 1) := by decide +kernel
theorem d_SlippedStreamsLaw_law_20 : decode b_SlippedStreamsLaw_law 20 = .ok (.arraylength, 1) := by decide +kernel
theorem d_SlippedStreamsLaw_law_21 : decode b_SlippedStreamsLaw_law 21 = .ok (.iconst 5, 1) := by decide +kernel
theorem d_SlippedStreamsLaw_law_22 : decode b_SlippedStreamsLaw_law 22 = .ok (.isub, 1) := by decide +kernel
theorem d_SlippedStreamsLaw_law_23 : decode b_SlippedStreamsLaw_law 23 = .ok (.if_icmp .gt 597, 3) := by decide +kernel
theorem d_SlippedStreamsLaw_law_26 : decode b_SlippedStreamsLaw_law 26 = .ok (.aload_n 0, 1) := by decide +kernel
theorem d_SlippedStreamsLaw_law_27 : decode b_SlippedStreamsLaw_law 27 = .ok (.iload_n 3, 1) := by decide +kernel
theorem d_SlippedStreamsLaw_law_28 : decode b_SlippedStreamsLaw_law 28 = .ok (.iaload, 1) := by decide +kernel
theorem d_SlippedStreamsLaw_law_29 : decode b_SlippedStreamsLaw_law 29 = .ok (.bipush 31, 2) := by decide +kernel
theorem d_SlippedStreamsLaw_law_31 : decode b_SlippedStreamsLaw_law 31 = .ok (.iand, 1) := by decide +kernel
theorem d_SlippedStreamsLaw_law_32 : decode b_SlippedStreamsLaw_law 32 = .ok (.tableswitch 582 0 17 #[88, 141, 172, 185, 196, 219, 232, 255, 278, 301, 324, 337, 360, 409, 458, 471, 494, 533], 88) := by decide +kernel
theorem d_SlippedStreamsLaw_law_120 : decode b_SlippedStreamsLaw_law 120 = .ok (.aload_n 1, 1) := by decide +kernel
theorem d_SlippedStreamsLaw_law_121 : decode b_SlippedStreamsLaw_law 121 = .ok (.aload_n 0, 1) := by decide +kernel
theorem d_SlippedStreamsLaw_law_122 : decode b_SlippedStreamsLaw_law 122 = .ok (.iload_n 3, 1) := by decide +kernel
theorem d_SlippedStreamsLaw_law_123 : decode b_SlippedStreamsLaw_law 123 = .ok (.iconst 1, 1) := by decide +kernel
theorem d_SlippedStreamsLaw_law_124 : decode b_SlippedStreamsLaw_law 124 = .ok (.iadd, 1) := by decide +kernel
theorem d_SlippedStreamsLaw_law_125 : decode b_SlippedStreamsLaw_law 125 = .ok (.iaload, 1) := by decide +kernel
theorem d_SlippedStreamsLaw_law_126 : decode b_SlippedStreamsLaw_law 126 = .ok (.aload_n 0, 1) := by decide +kernel
theorem d_SlippedStreamsLaw_law_127 : decode b_SlippedStreamsLaw_law 127 = .ok (.iload_n 3, 1) := by decide +kernel
theorem d_SlippedStreamsLaw_law_128 : decode b_SlippedStreamsLaw_law 128 = .ok (.iconst 2, 1) := by decide +kernel
theorem d_SlippedStreamsLaw_law_129 : decode b_SlippedStreamsLaw_law 129 = .ok (.iadd, 1) := by decide +kernel
theorem d_SlippedStreamsLaw_law_130 : decode b_SlippedStreamsLaw_law 130 = .ok (.iaload, 1) := by decide +kernel
theorem d_SlippedStreamsLaw_law_131 : decode b_SlippedStreamsLaw_law 131 = .ok (.aload_n 0, 1) := by decide +kernel
theorem d_SlippedStreamsLaw_law_132 : decode b_SlippedStreamsLaw_law 132 = .ok (.iload_n 3, 1) := by decide +kernel
theorem d_SlippedStreamsLaw_law_133 : decode b_SlippedStreamsLaw_law 133 = .ok (.iconst 3, 1) := by decide +kernel
theorem d_SlippedStreamsLaw_law_134 : decode b_SlippedStreamsLaw_law 134 = .ok (.iadd, 1) := by decide +kernel
theorem d_SlippedStreamsLaw_law_135 : decode b_SlippedStreamsLaw_law 135 = .ok (.iaload, 1) := by decide +kernel
theorem d_SlippedStreamsLaw_law_136 : decode b_SlippedStreamsLaw_law 136 = .ok (.aload_n 0, 1) := by decide +kernel
theorem d_SlippedStreamsLaw_law_137 : decode b_SlippedStreamsLaw_law 137 = .ok (.iload_n 3, 1) := by decide +kernel
theorem d_SlippedStreamsLaw_law_138 : decode b_SlippedStreamsLaw_law 138 = .ok (.iconst 4, 1) := by decide +kernel
theorem d_SlippedStreamsLaw_law_139 : decode b_SlippedStreamsLaw_law 139 = .ok (.iadd, 1) := by decide +kernel
theorem d_SlippedStreamsLaw_law_140 : decode b_SlippedStreamsLaw_law 140 = .ok (.iaload, 1) := by decide +kernel
theorem d_SlippedStreamsLaw_law_141 : decode b_SlippedStreamsLaw_law 141 = .ok (.invokevirtual 13, 3) := by decide +kernel
theorem d_SlippedStreamsLaw_law_144 : decode b_SlippedStreamsLaw_law 144 = .ok (.aload_n 2, 1) := by decide +kernel
theorem d_SlippedStreamsLaw_law_145 : decode b_SlippedStreamsLaw_law 145 = .ok (.aload_n 0, 1) := by decide +kernel
theorem d_SlippedStreamsLaw_law_146 : decode b_SlippedStreamsLaw_law 146 = .ok (.iload_n 3, 1) := by decide +kernel
theorem d_SlippedStreamsLaw_law_147 : decode b_SlippedStreamsLaw_law 147 = .ok (.iconst 1, 1) := by decide +kernel
theorem d_SlippedStreamsLaw_law_148 : decode b_SlippedStreamsLaw_law 148 = .ok (.iadd, 1) := by decide +kernel
theorem d_SlippedStreamsLaw_law_149 : decode b_SlippedStreamsLaw_law 149 = .ok (.iaload, 1) := by decide +kernel
theorem d_SlippedStreamsLaw_law_150 : decode b_SlippedStreamsLaw_law 150 = .ok (.aload_n 0, 1) := by decide +kernel
theorem d_SlippedStreamsLaw_law_151 : decode b_SlippedStreamsLaw_law 151 = .ok (.iload_n 3, 1) := by decide +kernel
theorem d_SlippedStreamsLaw_law_152 : decode b_SlippedStreamsLaw_law 152 = .ok (.iconst 2, 1) := by decide +kernel
theorem d_SlippedStreamsLaw_law_153 : decode b_SlippedStreamsLaw_law 153 = .ok (.iadd, 1) := by decide +kernel
theorem d_SlippedStreamsLaw_law_154 : decode b_SlippedStreamsLaw_law 154 = .ok (.iaload, 1) := by decide +kernel
theorem d_SlippedStreamsLaw_law_155 : decode b_SlippedStreamsLaw_law 155 = .ok (.aload_n 0, 1) := by decide +kernel
theorem d_SlippedStreamsLaw_law_156 : decode b_SlippedStreamsLaw_law 156 = .ok (.iload_n 3, 1) := by decide +kernel
theorem d_SlippedStreamsLaw_law_157 : decode b_SlippedStreamsLaw_law 157 = .ok (.iconst 3, 1) := by decide +kernel
theorem d_SlippedStreamsLaw_law_158 : decode b_SlippedStreamsLaw_law 158 = .ok (.iadd, 1) := by decide +kernel
theorem d_SlippedStreamsLaw_law_159 : decode b_SlippedStreamsLaw_law 159 = .ok (.iaload, 1) := by decide +kernel
theorem d_SlippedStreamsLaw_law_160 : decode b_SlippedStreamsLaw_law 160 = .ok (.aload_n 0, 1) := by decide +kernel
theorem d_SlippedStreamsLaw_law_161 : decode b_SlippedStreamsLaw_law 161 = .ok (.iload_n 3, 1) := by decide +kernel
theorem d_SlippedStreamsLaw_law_162 : decode b_SlippedStreamsLaw_law 162 = .ok (.iconst 4, 1) := by decide +kernel
theorem d_SlippedStreamsLaw_law_163 : decode b_SlippedStreamsLaw_law 163 = .ok (.iadd, 1) := by decide +kernel
theorem d_SlippedStreamsLaw_law_164 : decode b_SlippedStreamsLaw_law 164 = .ok (.iaload, 1) := by decide +kernel
theorem d_SlippedStreamsLaw_law_165 : decode b_SlippedStreamsLaw_law 165 = .ok (.invokevirtual 17, 3) := by decide +kernel
theorem d_SlippedStreamsLaw_law_168 : decode b_SlippedStreamsLaw_law 168 = .ok (.if_icmp .eq 446, 3) := by decide +kernel
theorem d_SlippedStreamsLaw_law_171 : decode b_SlippedStreamsLaw_law 171 = .ok (.iconst 0, 1) := by decide +kernel
theorem d_SlippedStreamsLaw_law_172 : decode b_SlippedStreamsLaw_law 172 = .ok (.ireturn, 1) := by decide +kernel
theorem d_SlippedStreamsLaw_law_173 : decode b_SlippedStreamsLaw_law 173 = .ok (.aload_n 1, 1) := by decide +kernel
theorem d_SlippedStreamsLaw_law_174 : decode b_SlippedStreamsLaw_law 174 = .ok (.aload_n 0, 1) := by decide +kernel
theorem d_SlippedStreamsLaw_law_175 : decode b_SlippedStreamsLaw_law 175 = .ok (.iload_n 3, 1) := by decide +kernel
theorem d_SlippedStreamsLaw_law_176 : decode b_SlippedStreamsLaw_law 176 = .ok (.iconst 1, 1) := by decide +kernel
theorem d_SlippedStreamsLaw_law_177 : decode b_SlippedStreamsLaw_law 177 = .ok (.iadd, 1) := by decide +kernel
theorem d_SlippedStreamsLaw_law_178 : decode b_SlippedStreamsLaw_law 178 = .ok (.iaload, 1) := by decide +kernel
theorem d_SlippedStreamsLaw_law_179 : decode b_SlippedStreamsLaw_law 179 = .ok (.aload_n 0, 1) := by decide +kernel
theorem d_SlippedStreamsLaw_law_180 : decode b_SlippedStreamsLaw_law 180 = .ok (.iload_n 3, 1) := by decide +kernel
theorem d_SlippedStreamsLaw_law_181 : decode b_SlippedStreamsLaw_law 181 = .ok (.iconst 2, 1) := by decide +kernel
theorem d_SlippedStreamsLaw_law_182 : decode b_SlippedStreamsLaw_law 182 = .ok (.iadd, 1) := by decide +kernel
theorem d_SlippedStreamsLaw_law_183 : decode b_SlippedStreamsLaw_law 183 = .ok (.iaload, 1) := by decide +kernel
theorem d_SlippedStreamsLaw_law_184 : decode b_SlippedStreamsLaw_law 184 = .ok (.invokevirtual 18, 3) := by decide +kernel
theorem d_SlippedStreamsLaw_law_187 : decode b_SlippedStreamsLaw_law 187 = .ok (.aload_n 2, 1) := by decide +kernel
theorem d_SlippedStreamsLaw_law_188 : decode b_SlippedStreamsLaw_law 188 = .ok (.aload_n 0, 1) := by decide +kernel
theorem d_SlippedStreamsLaw_law_189 : decode b_SlippedStreamsLaw_law 189 = .ok (.iload_n 3, 1) := by decide +kernel
theorem d_SlippedStreamsLaw_law_190 : decode b_SlippedStreamsLaw_law 190 = .ok (.iconst 1, 1) := by decide +kernel
theorem d_SlippedStreamsLaw_law_191 : decode b_SlippedStreamsLaw_law 191 = .ok (.iadd, 1) := by decide +kernel
theorem d_SlippedStreamsLaw_law_192 : decode b_SlippedStreamsLaw_law 192 = .ok (.iaload, 1) := by decide +kernel
theorem d_SlippedStreamsLaw_law_193 : decode b_SlippedStreamsLaw_law 193 = .ok (.aload_n 0, 1) := by decide +kernel
theorem d_SlippedStreamsLaw_law_194 : decode b_SlippedStreamsLaw_law 194 = .ok (.iload_n 3, 1) := by decide +kernel
theorem d_SlippedStreamsLaw_law_195 : decode b_SlippedStreamsLaw_law 195 = .ok (.iconst 2, 1) := by decide +kernel
theorem d_SlippedStreamsLaw_law_196 : decode b_SlippedStreamsLaw_law 196 = .ok (.iadd, 1) := by decide +kernel
theorem d_SlippedStreamsLaw_law_197 : decode b_SlippedStreamsLaw_law 197 = .ok (.iaload, 1) := by decide +kernel
theorem d_SlippedStreamsLaw_law_198 : decode b_SlippedStreamsLaw_law 198 = .ok (.invokevirtual 22, 3) := by decide +kernel
theorem d_SlippedStreamsLaw_law_201 : decode b_SlippedStreamsLaw_law 201 = .ok (.goto 413, 3) := by decide +kernel
theorem d_SlippedStreamsLaw_law_204 : decode b_SlippedStreamsLaw_law 204 = .ok (.aload_n 1, 1) := by decide +kernel
theorem d_SlippedStreamsLaw_law_205 : decode b_SlippedStreamsLaw_law 205 = .ok (.invokevirtual 23, 3) := by decide +kernel
theorem d_SlippedStreamsLaw_law_208 : decode b_SlippedStreamsLaw_law 208 = .ok (.aload_n 2, 1) := by decide +kernel
theorem d_SlippedStreamsLaw_law_209 : decode b_SlippedStreamsLaw_law 209 = .ok (.invokevirtual 27, 3) := by decide +kernel
theorem d_SlippedStreamsLaw_law_212 : decode b_SlippedStreamsLaw_law 212 = .ok (.if_icmp .eq 402, 3) := by decide +kernel
theorem d_SlippedStreamsLaw_law_215 : decode b_SlippedStreamsLaw_law 215 = .ok (.iconst 0, 1) := by decide +kernel
theorem d_SlippedStreamsLaw_law_216 : decode b_SlippedStreamsLaw_law 216 = .ok (.ireturn, 1) := by decide +kernel
theorem d_SlippedStreamsLaw_law_217 : decode b_SlippedStreamsLaw_law 217 = .ok (.aload_n 1, 1) := by decide +kernel
theorem d_SlippedStreamsLaw_law_218 : decode b_SlippedStreamsLaw_law 218 = .ok (.invokevirtual 28, 3) := by decide +kernel
theorem d_SlippedStreamsLaw_law_221 : decode b_SlippedStreamsLaw_law 221 = .ok (.aload_n 2, 1) := by decide +kernel
theorem d_SlippedStreamsLaw_law_222 : decode b_SlippedStreamsLaw_law 222 = .ok (.invokevirtual 31, 3) := by decide +kernel
theorem d_SlippedStreamsLaw_law_225 : decode b_SlippedStreamsLaw_law 225 = .ok (.goto 389, 3) := by decide +kernel
theorem d_SlippedStreamsLaw_law_228 : decode b_SlippedStreamsLaw_law 228 = .ok (.aload_n 1, 1) := by decide +kernel
theorem d_SlippedStreamsLaw_law_229 : decode b_SlippedStreamsLaw_law 229 = .ok (.aload_n 0, 1) := by decide +kernel
theorem d_SlippedStreamsLaw_law_230 : decode b_SlippedStreamsLaw_law 230 = .ok (.iload_n 3, 1) := by decide +kernel
theorem d_SlippedStreamsLaw_law_231 : decode b_SlippedStreamsLaw_law 231 = .ok (.iconst 1, 1) := by decide +kernel
theorem d_SlippedStreamsLaw_law_232 : decode b_SlippedStreamsLaw_law 232 = .ok (.iadd, 1) := by decide +kernel
theorem d_SlippedStreamsLaw_law_233 : decode b_SlippedStreamsLaw_law 233 = .ok (.iaload, 1) := by decide +kernel
theorem d_SlippedStreamsLaw_law_234 : decode b_SlippedStreamsLaw_law 234 = .ok (.invokevirtual 32, 3) := by decide +kernel
theorem d_SlippedStreamsLaw_law_237 : decode b_SlippedStreamsLaw_law 237 = .ok (.aload_n 2, 1) := by decide +kernel
theorem d_SlippedStreamsLaw_law_238 : decode b_SlippedStreamsLaw_law 238 = .ok (.aload_n 0, 1) := by decide +kernel
theorem d_SlippedStreamsLaw_law_239 : decode b_SlippedStreamsLaw_law 239 = .ok (.iload_n 3, 1) := by decide +kernel
theorem d_SlippedStreamsLaw_law_240 : decode b_SlippedStreamsLaw_law 240 = .ok (.iconst 1, 1) := by decide +kernel
theorem d_SlippedStreamsLaw_law_241 : decode b_SlippedStreamsLaw_law 241 = .ok (.iadd, 1) := by decide +kernel
theorem d_SlippedStreamsLaw_law_242 : decode b_SlippedStreamsLaw_law 242 = .ok (.iaload, 1) := by decide +kernel
theorem d_SlippedStreamsLaw_law_243 : decode b_SlippedStreamsLaw_law 243 = .ok (.invokevirtual 36, 3) := by decide +kernel
theorem d_SlippedStreamsLaw_law_246 : decode b_SlippedStreamsLaw_law 246 = .ok (.if_icmp .eq 368, 3) := by decide +kernel
theorem d_SlippedStreamsLaw_law_249 : decode b_SlippedStreamsLaw_law 249 = .ok (.iconst 0, 1) := by decide +kernel
theorem d_SlippedStreamsLaw_law_250 : decode b_SlippedStreamsLaw_law 250 = .ok (.ireturn, 1) := by decide +kernel
theorem d_SlippedStreamsLaw_law_251 : decode b_SlippedStreamsLaw_law 251 = .ok (.aload_n 1, 1) := by decide +kernel
theorem d_SlippedStreamsLaw_law_252 : decode b_SlippedStreamsLaw_law 252 = .ok (.invokevirtual 37, 3) := by decide +kernel
theorem d_SlippedStreamsLaw_law_255 : decode b_SlippedStreamsLaw_law 255 = .ok (.aload_n 2, 1) := by decide +kernel
theorem d_SlippedStreamsLaw_law_256 : decode b_SlippedStreamsLaw_law 256 = .ok (.invokevirtual 40, 3) := by decide +kernel
theorem d_SlippedStreamsLaw_law_259 : decode b_SlippedStreamsLaw_law 259 = .ok (.if_icmp .eq 355, 3) := by decide +kernel
theorem d_SlippedStreamsLaw_law_262 : decode b_SlippedStreamsLaw_law 262 = .ok (.iconst 0, 1) := by decide +kernel
theorem d_SlippedStreamsLaw_law_263 : decode b_SlippedStreamsLaw_law 263 = .ok (.ireturn, 1) := by decide +kernel
theorem d_SlippedStreamsLaw_law_264 : decode b_SlippedStreamsLaw_law 264 = .ok (.aload_n 1, 1) := by decide +kernel
theorem d_SlippedStreamsLaw_law_265 : decode b_SlippedStreamsLaw_law 265 = .ok (.aload_n 0, 1) := by decide +kernel
theorem d_SlippedStreamsLaw_law_266 : decode b_SlippedStreamsLaw_law 266 = .ok (.iload_n 3, 1) := by decide +kernel
theorem d_SlippedStreamsLaw_law_267 : decode b_SlippedStreamsLaw_law 267 = .ok (.iconst 1, 1) := by decide +kernel
theorem d_SlippedStreamsLaw_law_268 : decode b_SlippedStreamsLaw_law 268 = .ok (.iadd, 1) := by decide +kernel
theorem d_SlippedStreamsLaw_law_269 : decode b_SlippedStreamsLaw_law 269 = .ok (.iaload, 1) := by decide +kernel
theorem d_SlippedStreamsLaw_law_270 : decode b_SlippedStreamsLaw_law 270 = .ok (.invokevirtual 41, 3) := by decide +kernel
theorem d_SlippedStreamsLaw_law_273 : decode b_SlippedStreamsLaw_law 273 = .ok (.aload_n 2, 1) := by decide +kernel
theorem d_SlippedStreamsLaw_law_274 : decode b_SlippedStreamsLaw_law 274 = .ok (.aload_n 0, 1) := by decide +kernel
theorem d_SlippedStreamsLaw_law_275 : decode b_SlippedStreamsLaw_law 275 = .ok (.iload_n 3, 1) := by decide +kernel
theorem d_SlippedStreamsLaw_law_276 : decode b_SlippedStreamsLaw_law 276 = .ok (.iconst 1, 1) := by decide +kernel
theorem d_SlippedStreamsLaw_law_277 : decode b_SlippedStreamsLaw_law 277 = .ok (.iadd, 1) := by decide +kernel
theorem d_SlippedStreamsLaw_law_278 : decode b_SlippedStreamsLaw_law 278 = .ok (.iaload, 1) := by decide +kernel
theorem d_SlippedStreamsLaw_law_279 : decode b_SlippedStreamsLaw_law 279 = .ok (.invokevirtual 44, 3) := by decide +kernel
theorem d_SlippedStreamsLaw_law_282 : decode b_SlippedStreamsLaw_law 282 = .ok (.if_icmp .eq 332, 3) := by decide +kernel
theorem d_SlippedStreamsLaw_law_285 : decode b_SlippedStreamsLaw_law 285 = .ok (.iconst 0, 1) := by decide +kernel
theorem d_SlippedStreamsLaw_law_286 : decode b_SlippedStreamsLaw_law 286 = .ok (.ireturn, 1) := by decide +kernel
theorem d_SlippedStreamsLaw_law_287 : decode b_SlippedStreamsLaw_law 287 = .ok (.aload_n 1, 1) := by decide +kernel
theorem d_SlippedStreamsLaw_law_288 : decode b_SlippedStreamsLaw_law 288 = .ok (.aload_n 0, 1) := by decide +kernel
theorem d_SlippedStreamsLaw_law_289 : decode b_SlippedStreamsLaw_law 289 = .ok (.iload_n 3, 1) := by decide +kernel
theorem d_SlippedStreamsLaw_law_290 : decode b_SlippedStreamsLaw_law 290 = .ok (.iconst 1, 1) := by decide +kernel
theorem d_SlippedStreamsLaw_law_291 : decode b_SlippedStreamsLaw_law 291 = .ok (.iadd, 1) := by decide +kernel
theorem d_SlippedStreamsLaw_law_292 : decode b_SlippedStreamsLaw_law 292 = .ok (.iaload, 1) := by decide +kernel
theorem d_SlippedStreamsLaw_law_293 : decode b_SlippedStreamsLaw_law 293 = .ok (.invokevirtual 45, 3) := by decide +kernel
theorem d_SlippedStreamsLaw_law_296 : decode b_SlippedStreamsLaw_law 296 = .ok (.aload_n 2, 1) := by decide +kernel
theorem d_SlippedStreamsLaw_law_297 : decode b_SlippedStreamsLaw_law 297 = .ok (.aload_n 0, 1) := by decide +kernel
theorem d_SlippedStreamsLaw_law_298 : decode b_SlippedStreamsLaw_law 298 = .ok (.iload_n 3, 1) := by decide +kernel
theorem d_SlippedStreamsLaw_law_299 : decode b_SlippedStreamsLaw_law 299 = .ok (.iconst 1, 1) := by decide +kernel
theorem d_SlippedStreamsLaw_law_300 : decode b_SlippedStreamsLaw_law 300 = .ok (.iadd, 1) := by decide +kernel
theorem d_SlippedStreamsLaw_law_301 : decode b_SlippedStreamsLaw_law 301 = .ok (.iaload, 1) := by decide +kernel
theorem d_SlippedStreamsLaw_law_302 : decode b_SlippedStreamsLaw_law 302 = .ok (.invokevirtual 48, 3) := by decide +kernel
theorem d_SlippedStreamsLaw_law_305 : decode b_SlippedStreamsLaw_law 305 = .ok (.if_icmp .eq 309, 3) := by decide +kernel
theorem d_SlippedStreamsLaw_law_308 : decode b_SlippedStreamsLaw_law 308 = .ok (.iconst 0, 1) := by decide +kernel
theorem d_SlippedStreamsLaw_law_309 : decode b_SlippedStreamsLaw_law 309 = .ok (.ireturn, 1) := by decide +kernel
theorem d_SlippedStreamsLaw_law_310 : decode b_SlippedStreamsLaw_law 310 = .ok (.aload_n 1, 1) := by decide +kernel
theorem d_SlippedStreamsLaw_law_311 : decode b_SlippedStreamsLaw_law 311 = .ok (.aload_n 0, 1) := by decide +kernel
theorem d_SlippedStreamsLaw_law_312 : decode b_SlippedStreamsLaw_law 312 = .ok (.iload_n 3, 1) := by decide +kernel
theorem d_SlippedStreamsLaw_law_313 : decode b_SlippedStreamsLaw_law 313 = .ok (.iconst 1, 1) := by decide +kernel
theorem d_SlippedStreamsLaw_law_314 : decode b_SlippedStreamsLaw_law 314 = .ok (.iadd, 1) := by decide +kernel
theorem d_SlippedStreamsLaw_law_315 : decode b_SlippedStreamsLaw_law 315 = .ok (.iaload, 1) := by decide +kernel
theorem d_SlippedStreamsLaw_law_316 : decode b_SlippedStreamsLaw_law 316 = .ok (.invokevirtual 49, 3) := by decide +kernel
theorem d_SlippedStreamsLaw_law_319 : decode b_SlippedStreamsLaw_law 319 = .ok (.aload_n 2, 1) := by decide +kernel
theorem d_SlippedStreamsLaw_law_320 : decode b_SlippedStreamsLaw_law 320 = .ok (.aload_n 0, 1) := by decide +kernel
theorem d_SlippedStreamsLaw_law_321 : decode b_SlippedStreamsLaw_law 321 = .ok (.iload_n 3, 1) := by decide +kernel
theorem d_SlippedStreamsLaw_law_322 : decode b_SlippedStreamsLaw_law 322 = .ok (.iconst 1, 1) := by decide +kernel
theorem d_SlippedStreamsLaw_law_323 : decode b_SlippedStreamsLaw_law 323 = .ok (.iadd, 1) := by decide +kernel
theorem d_SlippedStreamsLaw_law_324 : decode b_SlippedStreamsLaw_law 324 = .ok (.iaload, 1) := by decide +kernel
theorem d_SlippedStreamsLaw_law_325 : decode b_SlippedStreamsLaw_law 325 = .ok (.invokevirtual 52, 3) := by decide +kernel
theorem d_SlippedStreamsLaw_law_328 : decode b_SlippedStreamsLaw_law 328 = .ok (.if_icmp .eq 286, 3) := by decide +kernel
theorem d_SlippedStreamsLaw_law_331 : decode b_SlippedStreamsLaw_law 331 = .ok (.iconst 0, 1) := by decide +kernel
theorem d_SlippedStreamsLaw_law_332 : decode b_SlippedStreamsLaw_law 332 = .ok (.ireturn, 1) := by decide +kernel
theorem d_SlippedStreamsLaw_law_333 : decode b_SlippedStreamsLaw_law 333 = .ok (.aload_n 1, 1) := by decide +kernel
theorem d_SlippedStreamsLaw_law_334 : decode b_SlippedStreamsLaw_law 334 = .ok (.aload_n 0, 1) := by decide +kernel
theorem d_SlippedStreamsLaw_law_335 : decode b_SlippedStreamsLaw_law 335 = .ok (.iload_n 3, 1) := by decide +kernel
theorem d_SlippedStreamsLaw_law_336 : decode b_SlippedStreamsLaw_law 336 = .ok (.iconst 1, 1) := by decide +kernel
theorem d_SlippedStreamsLaw_law_337 : decode b_SlippedStreamsLaw_law 337 = .ok (.iadd, 1) := by decide +kernel
theorem d_SlippedStreamsLaw_law_338 : decode b_SlippedStreamsLaw_law 338 = .ok (.iaload, 1) := by decide +kernel
theorem d_SlippedStreamsLaw_law_339 : decode b_SlippedStreamsLaw_law 339 = .ok (.invokevirtual 53, 3) := by decide +kernel
theorem d_SlippedStreamsLaw_law_342 : decode b_SlippedStreamsLaw_law 342 = .ok (.aload_n 2, 1) := by decide +kernel
theorem d_SlippedStreamsLaw_law_343 : decode b_SlippedStreamsLaw_law 343 = .ok (.aload_n 0, 1) := by decide +kernel
theorem d_SlippedStreamsLaw_law_344 : decode b_SlippedStreamsLaw_law 344 = .ok (.iload_n 3, 1) := by decide +kernel
theorem d_SlippedStreamsLaw_law_345 : decode b_SlippedStreamsLaw_law 345 = .ok (.iconst 1, 1) := by decide +kernel
theorem d_SlippedStreamsLaw_law_346 : decode b_SlippedStreamsLaw_law 346 = .ok (.iadd, 1) := by decide +kernel
theorem d_SlippedStreamsLaw_law_347 : decode b_SlippedStreamsLaw_law 347 = .ok (.iaload, 1) := by decide +kernel
theorem d_SlippedStreamsLaw_law_348 : decode b_SlippedStreamsLaw_law 348 = .ok (.invokevirtual 56, 3) := by decide +kernel
theorem d_SlippedStreamsLaw_law_351 : decode b_SlippedStreamsLaw_law 351 = .ok (.if_icmp .eq 263, 3) := by decide +kernel
theorem d_SlippedStreamsLaw_law_354 : decode b_SlippedStreamsLaw_law 354 = .ok (.iconst 0, 1) := by decide +kernel
theorem d_SlippedStreamsLaw_law_355 : decode b_SlippedStreamsLaw_law 355 = .ok (.ireturn, 1) := by decide +kernel
theorem d_SlippedStreamsLaw_law_356 : decode b_SlippedStreamsLaw_law 356 = .ok (.aload_n 1, 1) := by decide +kernel
theorem d_SlippedStreamsLaw_law_357 : decode b_SlippedStreamsLaw_law 357 = .ok (.invokevirtual 57, 3) := by decide +kernel
theorem d_SlippedStreamsLaw_law_360 : decode b_SlippedStreamsLaw_law 360 = .ok (.aload_n 2, 1) := by decide +kernel
theorem d_SlippedStreamsLaw_law_361 : decode b_SlippedStreamsLaw_law 361 = .ok (.invokevirtual 60, 3) := by decide +kernel
theorem d_SlippedStreamsLaw_law_364 : decode b_SlippedStreamsLaw_law 364 = .ok (.if_icmp .eq 250, 3) := by decide +kernel
theorem d_SlippedStreamsLaw_law_367 : decode b_SlippedStreamsLaw_law 367 = .ok (.iconst 0, 1) := by decide +kernel
theorem d_SlippedStreamsLaw_law_368 : decode b_SlippedStreamsLaw_law 368 = .ok (.ireturn, 1) := by decide +kernel
theorem d_SlippedStreamsLaw_law_369 : decode b_SlippedStreamsLaw_law 369 = .ok (.aload_n 1, 1) := by decide +kernel
theorem d_SlippedStreamsLaw_law_370 : decode b_SlippedStreamsLaw_law 370 = .ok (.aload_n 0, 1) := by decide +kernel
theorem d_SlippedStreamsLaw_law_371 : decode b_SlippedStreamsLaw_law 371 = .ok (.iload_n 3, 1) := by decide +kernel
theorem d_SlippedStreamsLaw_law_372 : decode b_SlippedStreamsLaw_law 372 = .ok (.iconst 1, 1) := by decide +kernel
theorem d_SlippedStreamsLaw_law_373 : decode b_SlippedStreamsLaw_law 373 = .ok (.iadd, 1) := by decide +kernel
theorem d_SlippedStreamsLaw_law_374 : decode b_SlippedStreamsLaw_law 374 = .ok (.iaload, 1) := by decide +kernel
theorem d_SlippedStreamsLaw_law_375 : decode b_SlippedStreamsLaw_law 375 = .ok (.invokevirtual 61, 3) := by decide +kernel
theorem d_SlippedStreamsLaw_law_378 : decode b_SlippedStreamsLaw_law 378 = .ok (.aload_n 2, 1) := by decide +kernel
theorem d_SlippedStreamsLaw_law_379 : decode b_SlippedStreamsLaw_law 379 = .ok (.aload_n 0, 1) := by decide +kernel
theorem d_SlippedStreamsLaw_law_380 : decode b_SlippedStreamsLaw_law 380 = .ok (.iload_n 3, 1) := by decide +kernel
theorem d_SlippedStreamsLaw_law_381 : decode b_SlippedStreamsLaw_law 381 = .ok (.iconst 1, 1) := by decide +kernel
theorem d_SlippedStreamsLaw_law_382 : decode b_SlippedStreamsLaw_law 382 = .ok (.iadd, 1) := by decide +kernel
theorem d_SlippedStreamsLaw_law_383 : decode b_SlippedStreamsLaw_law 383 = .ok (.iaload, 1) := by decide +kernel
theorem d_SlippedStreamsLaw_law_384 : decode b_SlippedStreamsLaw_law 384 = .ok (.invokevirtual 64, 3) := by decide +kernel
theorem d_SlippedStreamsLaw_law_387 : decode b_SlippedStreamsLaw_law 387 = .ok (.if_icmp .eq 227, 3) := by decide +kernel
theorem d_SlippedStreamsLaw_law_390 : decode b_SlippedStreamsLaw_law 390 = .ok (.iconst 0, 1) := by decide +kernel
theorem d_SlippedStreamsLaw_law_391 : decode b_SlippedStreamsLaw_law 391 = .ok (.ireturn, 1) := by decide +kernel
theorem d_SlippedStreamsLaw_law_392 : decode b_SlippedStreamsLaw_law 392 = .ok (.aload_n 1, 1) := by decide +kernel
theorem d_SlippedStreamsLaw_law_393 : decode b_SlippedStreamsLaw_law 393 = .ok (.aload_n 0, 1) := by decide +kernel
theorem d_SlippedStreamsLaw_law_394 : decode b_SlippedStreamsLaw_law 394 = .ok (.iload_n 3, 1) := by decide +kernel
theorem d_SlippedStreamsLaw_law_395 : decode b_SlippedStreamsLaw_law 395 = .ok (.iconst 1, 1) := by decide +kernel
theorem d_SlippedStreamsLaw_law_396 : decode b_SlippedStreamsLaw_law 396 = .ok (.iadd, 1) := by decide +kernel
theorem d_SlippedStreamsLaw_law_397 : decode b_SlippedStreamsLaw_law 397 = .ok (.iaload, 1) := by decide +kernel
theorem d_SlippedStreamsLaw_law_398 : decode b_SlippedStreamsLaw_law 398 = .ok (.aload_n 0, 1) := by decide +kernel
theorem d_SlippedStreamsLaw_law_399 : decode b_SlippedStreamsLaw_law 399 = .ok (.iload_n 3, 1) := by decide +kernel
theorem d_SlippedStreamsLaw_law_400 : decode b_SlippedStreamsLaw_law 400 = .ok (.iconst 2, 1) := by decide +kernel
theorem d_SlippedStreamsLaw_law_401 : decode b_SlippedStreamsLaw_law 401 = .ok (.iadd, 1) := by decide +kernel
theorem d_SlippedStreamsLaw_law_402 : decode b_SlippedStreamsLaw_law 402 = .ok (.iaload, 1) := by decide +kernel
theorem d_SlippedStreamsLaw_law_403 : decode b_SlippedStreamsLaw_law 403 = .ok (.ifCond .eq 7, 3) := by decide +kernel
theorem d_SlippedStreamsLaw_law_406 : decode b_SlippedStreamsLaw_law 406 = .ok (.iconst 1, 1) := by decide +kernel
theorem d_SlippedStreamsLaw_law_407 : decode b_SlippedStreamsLaw_law 407 = .ok (.goto 4, 3) := by decide +kernel
theorem d_SlippedStreamsLaw_law_410 : decode b_SlippedStreamsLaw_law 410 = .ok (.iconst 0, 1) := by decide +kernel
theorem d_SlippedStreamsLaw_law_411 : decode b_SlippedStreamsLaw_law 411 = .ok (.invokevirtual 65, 3) := by decide +kernel
theorem d_SlippedStreamsLaw_law_414 : decode b_SlippedStreamsLaw_law 414 = .ok (.aload_n 2, 1) := by decide +kernel
theorem d_SlippedStreamsLaw_law_415 : decode b_SlippedStreamsLaw_law 415 = .ok (.aload_n 0, 1) := by decide +kernel
theorem d_SlippedStreamsLaw_law_416 : decode b_SlippedStreamsLaw_law 416 = .ok (.iload_n 3, 1) := by decide +kernel
theorem d_SlippedStreamsLaw_law_417 : decode b_SlippedStreamsLaw_law 417 = .ok (.iconst 1, 1) := by decide +kernel
theorem d_SlippedStreamsLaw_law_418 : decode b_SlippedStreamsLaw_law 418 = .ok (.iadd, 1) := by decide +kernel
theorem d_SlippedStreamsLaw_law_419 : decode b_SlippedStreamsLaw_law 419 = .ok (.iaload, 1) := by decide +kernel
theorem d_SlippedStreamsLaw_law_420 : decode b_SlippedStreamsLaw_law 420 = .ok (.aload_n 0, 1) := by decide +kernel
theorem d_SlippedStreamsLaw_law_421 : decode b_SlippedStreamsLaw_law 421 = .ok (.iload_n 3, 1) := by decide +kernel
theorem d_SlippedStreamsLaw_law_422 : decode b_SlippedStreamsLaw_law 422 = .ok (.iconst 2, 1) := by decide +kernel
theorem d_SlippedStreamsLaw_law_423 : decode b_SlippedStreamsLaw_law 423 = .ok (.iadd, 1) := by decide +kernel
theorem d_SlippedStreamsLaw_law_424 : decode b_SlippedStreamsLaw_law 424 = .ok (.iaload, 1) := by decide +kernel
theorem d_SlippedStreamsLaw_law_425 : decode b_SlippedStreamsLaw_law 425 = .ok (.ifCond .eq 7, 3) := by decide +kernel
theorem d_SlippedStreamsLaw_law_428 : decode b_SlippedStreamsLaw_law 428 = .ok (.iconst 1, 1) := by decide +kernel
theorem d_SlippedStreamsLaw_law_429 : decode b_SlippedStreamsLaw_law 429 = .ok (.goto 4, 3) := by decide +kernel
theorem d_SlippedStreamsLaw_law_432 : decode b_SlippedStreamsLaw_law 432 = .ok (.iconst 0, 1) := by decide +kernel
theorem d_SlippedStreamsLaw_law_433 : decode b_SlippedStreamsLaw_law 433 = .ok (.invokevirtual 69, 3) := by decide +kernel
theorem d_SlippedStreamsLaw_law_436 : decode b_SlippedStreamsLaw_law 436 = .ok (.if_icmp .eq 178, 3) := by decide +kernel
theorem d_SlippedStreamsLaw_law_439 : decode b_SlippedStreamsLaw_law 439 = .ok (.iconst 0, 1) := by decide +kernel
theorem d_SlippedStreamsLaw_law_440 : decode b_SlippedStreamsLaw_law 440 = .ok (.ireturn, 1) := by decide +kernel
theorem d_SlippedStreamsLaw_law_441 : decode b_SlippedStreamsLaw_law 441 = .ok (.aload_n 1, 1) := by decide +kernel
theorem d_SlippedStreamsLaw_law_442 : decode b_SlippedStreamsLaw_law 442 = .ok (.aload_n 0, 1) := by decide +kernel
theorem d_SlippedStreamsLaw_law_443 : decode b_SlippedStreamsLaw_law 443 = .ok (.iload_n 3, 1) := by decide +kernel
theorem d_SlippedStreamsLaw_law_444 : decode b_SlippedStreamsLaw_law 444 = .ok (.iconst 1, 1) := by decide +kernel
theorem d_SlippedStreamsLaw_law_445 : decode b_SlippedStreamsLaw_law 445 = .ok (.iadd, 1) := by decide +kernel
theorem d_SlippedStreamsLaw_law_446 : decode b_SlippedStreamsLaw_law 446 = .ok (.iaload, 1) := by decide +kernel
theorem d_SlippedStreamsLaw_law_447 : decode b_SlippedStreamsLaw_law 447 = .ok (.aload_n 0, 1) := by decide +kernel
theorem d_SlippedStreamsLaw_law_448 : decode b_SlippedStreamsLaw_law 448 = .ok (.iload_n 3, 1) := by decide +kernel
theorem d_SlippedStreamsLaw_law_449 : decode b_SlippedStreamsLaw_law 449 = .ok (.iconst 2, 1) := by decide +kernel
theorem d_SlippedStreamsLaw_law_450 : decode b_SlippedStreamsLaw_law 450 = .ok (.iadd, 1) := by decide +kernel
theorem d_SlippedStreamsLaw_law_451 : decode b_SlippedStreamsLaw_law 451 = .ok (.iaload, 1) := by decide +kernel
theorem d_SlippedStreamsLaw_law_452 : decode b_SlippedStreamsLaw_law 452 = .ok (.ifCond .eq 7, 3) := by decide +kernel
theorem d_SlippedStreamsLaw_law_455 : decode b_SlippedStreamsLaw_law 455 = .ok (.iconst 1, 1) := by decide +kernel
theorem d_SlippedStreamsLaw_law_456 : decode b_SlippedStreamsLaw_law 456 = .ok (.goto 4, 3) := by decide +kernel
theorem d_SlippedStreamsLaw_law_459 : decode b_SlippedStreamsLaw_law 459 = .ok (.iconst 0, 1) := by decide +kernel
theorem d_SlippedStreamsLaw_law_460 : decode b_SlippedStreamsLaw_law 460 = .ok (.invokevirtual 70, 3) := by decide +kernel
theorem d_SlippedStreamsLaw_law_463 : decode b_SlippedStreamsLaw_law 463 = .ok (.aload_n 2, 1) := by decide +kernel
theorem d_SlippedStreamsLaw_law_464 : decode b_SlippedStreamsLaw_law 464 = .ok (.aload_n 0, 1) := by decide +kernel
theorem d_SlippedStreamsLaw_law_465 : decode b_SlippedStreamsLaw_law 465 = .ok (.iload_n 3, 1) := by decide +kernel
theorem d_SlippedStreamsLaw_law_466 : decode b_SlippedStreamsLaw_law 466 = .ok (.iconst 1, 1) := by decide +kernel
theorem d_SlippedStreamsLaw_law_467 : decode b_SlippedStreamsLaw_law 467 = .ok (.iadd, 1) := by decide +kernel
theorem d_SlippedStreamsLaw_law_468 : decode b_SlippedStreamsLaw_law 468 = .ok (.iaload, 1) := by decide +kernel
theorem d_SlippedStreamsLaw_law_469 : decode b_SlippedStreamsLaw_law 469 = .ok (.aload_n 0, 1) := by decide +kernel
theorem d_SlippedStreamsLaw_law_470 : decode b_SlippedStreamsLaw_law 470 = .ok (.iload_n 3, 1) := by decide +kernel
theorem d_SlippedStreamsLaw_law_471 : decode b_SlippedStreamsLaw_law 471 = .ok (.iconst 2, 1) := by decide +kernel
theorem d_SlippedStreamsLaw_law_472 : decode b_SlippedStreamsLaw_law 472 = .ok (.iadd, 1) := by decide +kernel
theorem d_SlippedStreamsLaw_law_473 : decode b_SlippedStreamsLaw_law 473 = .ok (.iaload, 1) := by decide +kernel
theorem d_SlippedStreamsLaw_law_474 : decode b_SlippedStreamsLaw_law 474 = .ok (.ifCond .eq 7, 3) := by decide +kernel
theorem d_SlippedStreamsLaw_law_477 : decode b_SlippedStreamsLaw_law 477 = .ok (.iconst 1, 1) := by decide +kernel
theorem d_SlippedStreamsLaw_law_478 : decode b_SlippedStreamsLaw_law 478 = .ok (.goto 4, 3) := by decide +kernel
theorem d_SlippedStreamsLaw_law_481 : decode b_SlippedStreamsLaw_law 481 = .ok (.iconst 0, 1) := by decide +kernel
theorem d_SlippedStreamsLaw_law_482 : decode b_SlippedStreamsLaw_law 482 = .ok (.invokevirtual 73, 3) := by decide +kernel
theorem d_SlippedStreamsLaw_law_485 : decode b_SlippedStreamsLaw_law 485 = .ok (.if_icmp .eq 129, 3) := by decide +kernel
theorem d_SlippedStreamsLaw_law_488 : decode b_SlippedStreamsLaw_law 488 = .ok (.iconst 0, 1) := by decide +kernel
theorem d_SlippedStreamsLaw_law_489 : decode b_SlippedStreamsLaw_law 489 = .ok (.ireturn, 1) := by decide +kernel
theorem d_SlippedStreamsLaw_law_490 : decode b_SlippedStreamsLaw_law 490 = .ok (.aload_n 1, 1) := by decide +kernel
theorem d_SlippedStreamsLaw_law_491 : decode b_SlippedStreamsLaw_law 491 = .ok (.invokevirtual 74, 3) := by decide +kernel
theorem d_SlippedStreamsLaw_law_494 : decode b_SlippedStreamsLaw_law 494 = .ok (.aload_n 2, 1) := by decide +kernel
theorem d_SlippedStreamsLaw_law_495 : decode b_SlippedStreamsLaw_law 495 = .ok (.invokevirtual 77, 3) := by decide +kernel
theorem d_SlippedStreamsLaw_law_498 : decode b_SlippedStreamsLaw_law 498 = .ok (.if_icmp .eq 116, 3) := by decide +kernel
theorem d_SlippedStreamsLaw_law_501 : decode b_SlippedStreamsLaw_law 501 = .ok (.iconst 0, 1) := by decide +kernel
theorem d_SlippedStreamsLaw_law_502 : decode b_SlippedStreamsLaw_law 502 = .ok (.ireturn, 1) := by decide +kernel
theorem d_SlippedStreamsLaw_law_503 : decode b_SlippedStreamsLaw_law 503 = .ok (.aload_n 1, 1) := by decide +kernel
theorem d_SlippedStreamsLaw_law_504 : decode b_SlippedStreamsLaw_law 504 = .ok (.aload_n 0, 1) := by decide +kernel
theorem d_SlippedStreamsLaw_law_505 : decode b_SlippedStreamsLaw_law 505 = .ok (.iload_n 3, 1) := by decide +kernel
theorem d_SlippedStreamsLaw_law_506 : decode b_SlippedStreamsLaw_law 506 = .ok (.iconst 1, 1) := by decide +kernel
theorem d_SlippedStreamsLaw_law_507 : decode b_SlippedStreamsLaw_law 507 = .ok (.iadd, 1) := by decide +kernel
theorem d_SlippedStreamsLaw_law_508 : decode b_SlippedStreamsLaw_law 508 = .ok (.iaload, 1) := by decide +kernel
theorem d_SlippedStreamsLaw_law_509 : decode b_SlippedStreamsLaw_law 509 = .ok (.invokevirtual 78, 3) := by decide +kernel
theorem d_SlippedStreamsLaw_law_512 : decode b_SlippedStreamsLaw_law 512 = .ok (.aload_n 2, 1) := by decide +kernel
theorem d_SlippedStreamsLaw_law_513 : decode b_SlippedStreamsLaw_law 513 = .ok (.aload_n 0, 1) := by decide +kernel
theorem d_SlippedStreamsLaw_law_514 : decode b_SlippedStreamsLaw_law 514 = .ok (.iload_n 3, 1) := by decide +kernel
theorem d_SlippedStreamsLaw_law_515 : decode b_SlippedStreamsLaw_law 515 = .ok (.iconst 1, 1) := by decide +kernel
theorem d_SlippedStreamsLaw_law_516 : decode b_SlippedStreamsLaw_law 516 = .ok (.iadd, 1) := by decide +kernel
theorem d_SlippedStreamsLaw_law_517 : decode b_SlippedStreamsLaw_law 517 = .ok (.iaload, 1) := by decide +kernel
theorem d_SlippedStreamsLaw_law_518 : decode b_SlippedStreamsLaw_law 518 = .ok (.invokevirtual 81, 3) := by decide +kernel
theorem d_SlippedStreamsLaw_law_521 : decode b_SlippedStreamsLaw_law 521 = .ok (.if_icmp .eq 93, 3) := by decide +kernel
theorem d_SlippedStreamsLaw_law_524 : decode b_SlippedStreamsLaw_law 524 = .ok (.iconst 0, 1) := by decide +kernel
theorem d_SlippedStreamsLaw_law_525 : decode b_SlippedStreamsLaw_law 525 = .ok (.ireturn, 1) := by decide +kernel
theorem d_SlippedStreamsLaw_law_526 : decode b_SlippedStreamsLaw_law 526 = .ok (.aload_n 1, 1) := by decide +kernel
theorem d_SlippedStreamsLaw_law_527 : decode b_SlippedStreamsLaw_law 527 = .ok (.aload_n 0, 1) := by decide +kernel
theorem d_SlippedStreamsLaw_law_528 : decode b_SlippedStreamsLaw_law 528 = .ok (.iload_n 3, 1) := by decide +kernel
theorem d_SlippedStreamsLaw_law_529 : decode b_SlippedStreamsLaw_law 529 = .ok (.iconst 1, 1) := by decide +kernel
theorem d_SlippedStreamsLaw_law_530 : decode b_SlippedStreamsLaw_law 530 = .ok (.iadd, 1) := by decide +kernel
theorem d_SlippedStreamsLaw_law_531 : decode b_SlippedStreamsLaw_law 531 = .ok (.iaload, 1) := by decide +kernel
theorem d_SlippedStreamsLaw_law_532 : decode b_SlippedStreamsLaw_law 532 = .ok (.ifCond .eq 7, 3) := by decide +kernel
theorem d_SlippedStreamsLaw_law_535 : decode b_SlippedStreamsLaw_law 535 = .ok (.iconst 1, 1) := by decide +kernel
theorem d_SlippedStreamsLaw_law_536 : decode b_SlippedStreamsLaw_law 536 = .ok (.goto 4, 3) := by decide +kernel
theorem d_SlippedStreamsLaw_law_539 : decode b_SlippedStreamsLaw_law 539 = .ok (.iconst 0, 1) := by decide +kernel
theorem d_SlippedStreamsLaw_law_540 : decode b_SlippedStreamsLaw_law 540 = .ok (.invokevirtual 82, 3) := by decide +kernel
theorem d_SlippedStreamsLaw_law_543 : decode b_SlippedStreamsLaw_law 543 = .ok (.aload_n 2, 1) := by decide +kernel
theorem d_SlippedStreamsLaw_law_544 : decode b_SlippedStreamsLaw_law 544 = .ok (.aload_n 0, 1) := by decide +kernel
theorem d_SlippedStreamsLaw_law_545 : decode b_SlippedStreamsLaw_law 545 = .ok (.iload_n 3, 1) := by decide +kernel
theorem d_SlippedStreamsLaw_law_546 : decode b_SlippedStreamsLaw_law 546 = .ok (.iconst 1, 1) := by decide +kernel
theorem d_SlippedStreamsLaw_law_547 : decode b_SlippedStreamsLaw_law 547 = .ok (.iadd, 1) := by decide +kernel
theorem d_SlippedStreamsLaw_law_548 : decode b_SlippedStreamsLaw_law 548 = .ok (.iaload, 1) := by decide +kernel
theorem d_SlippedStreamsLaw_law_549 : decode b_SlippedStreamsLaw_law 549 = .ok (.ifCond .eq 7, 3) := by decide +kernel
theorem d_SlippedStreamsLaw_law_552 : decode b_SlippedStreamsLaw_law 552 = .ok (.iconst 1, 1) := by decide +kernel
theorem d_SlippedStreamsLaw_law_553 : decode b_SlippedStreamsLaw_law 553 = .ok (.goto 4, 3) := by decide +kernel
theorem d_SlippedStreamsLaw_law_556 : decode b_SlippedStreamsLaw_law 556 = .ok (.iconst 0, 1) := by decide +kernel
theorem d_SlippedStreamsLaw_law_557 : decode b_SlippedStreamsLaw_law 557 = .ok (.invokevirtual 86, 3) := by decide +kernel
theorem d_SlippedStreamsLaw_law_560 : decode b_SlippedStreamsLaw_law 560 = .ok (.if_icmp .eq 54, 3) := by decide +kernel
theorem d_SlippedStreamsLaw_law_563 : decode b_SlippedStreamsLaw_law 563 = .ok (.iconst 0, 1) := by decide +kernel
theorem d_SlippedStreamsLaw_law_564 : decode b_SlippedStreamsLaw_law 564 = .ok (.ireturn, 1) := by decide +kernel
theorem d_SlippedStreamsLaw_law_565 : decode b_SlippedStreamsLaw_law 565 = .ok (.aload_n 1, 1) := by decide +kernel
theorem d_SlippedStreamsLaw_law_566 : decode b_SlippedStreamsLaw_law 566 = .ok (.aload_n 0, 1) := by decide +kernel
theorem d_SlippedStreamsLaw_law_567 : decode b_SlippedStreamsLaw_law 567 = .ok (.iload_n 3, 1) := by decide +kernel
theorem d_SlippedStreamsLaw_law_568 : decode b_SlippedStreamsLaw_law 568 = .ok (.iconst 1, 1) := by decide +kernel
theorem d_SlippedStreamsLaw_law_569 : decode b_SlippedStreamsLaw_law 569 = .ok (.iadd, 1) := by decide +kernel
theorem d_SlippedStreamsLaw_law_570 : decode b_SlippedStreamsLaw_law 570 = .ok (.iaload, 1) := by decide +kernel
theorem d_SlippedStreamsLaw_law_571 : decode b_SlippedStreamsLaw_law 571 = .ok (.aload_n 0, 1) := by decide +kernel
theorem d_SlippedStreamsLaw_law_572 : decode b_SlippedStreamsLaw_law 572 = .ok (.iload_n 3, 1) := by decide +kernel
theorem d_SlippedStreamsLaw_law_573 : decode b_SlippedStreamsLaw_law 573 = .ok (.iconst 2, 1) := by decide +kernel
theorem d_SlippedStreamsLaw_law_574 : decode b_SlippedStreamsLaw_law 574 = .ok (.iadd, 1) := by decide +kernel
theorem d_SlippedStreamsLaw_law_575 : decode b_SlippedStreamsLaw_law 575 = .ok (.iaload, 1) := by decide +kernel
theorem d_SlippedStreamsLaw_law_576 : decode b_SlippedStreamsLaw_law 576 = .ok (.ifCond .eq 7, 3) := by decide +kernel
theorem d_SlippedStreamsLaw_law_579 : decode b_SlippedStreamsLaw_law 579 = .ok (.iconst 1, 1) := by decide +kernel
theorem d_SlippedStreamsLaw_law_580 : decode b_SlippedStreamsLaw_law 580 = .ok (.goto 4, 3) := by decide +kernel
theorem d_SlippedStreamsLaw_law_583 : decode b_SlippedStreamsLaw_law 583 = .ok (.iconst 0, 1) := by decide +kernel
theorem d_SlippedStreamsLaw_law_584 : decode b_SlippedStreamsLaw_law 584 = .ok (.invokevirtual 87, 3) := by decide +kernel
theorem d_SlippedStreamsLaw_law_587 : decode b_SlippedStreamsLaw_law 587 = .ok (.aload_n 2, 1) := by decide +kernel
theorem d_SlippedStreamsLaw_law_588 : decode b_SlippedStreamsLaw_law 588 = .ok (.aload_n 0, 1) := by decide +kernel
theorem d_SlippedStreamsLaw_law_589 : decode b_SlippedStreamsLaw_law 589 = .ok (.iload_n 3, 1) := by decide +kernel
theorem d_SlippedStreamsLaw_law_590 : decode b_SlippedStreamsLaw_law 590 = .ok (.iconst 1, 1) := by decide +kernel
theorem d_SlippedStreamsLaw_law_591 : decode b_SlippedStreamsLaw_law 591 = .ok (.iadd, 1) := by decide +kernel
theorem d_SlippedStreamsLaw_law_592 : decode b_SlippedStreamsLaw_law 592 = .ok (.iaload, 1) := by decide +kernel
theorem d_SlippedStreamsLaw_law_593 : decode b_SlippedStreamsLaw_law 593 = .ok (.aload_n 0, 1) := by decide +kernel
theorem d_SlippedStreamsLaw_law_594 : decode b_SlippedStreamsLaw_law 594 = .ok (.iload_n 3, 1) := by decide +kernel
theorem d_SlippedStreamsLaw_law_595 : decode b_SlippedStreamsLaw_law 595 = .ok (.iconst 2, 1) := by decide +kernel
theorem d_SlippedStreamsLaw_law_596 : decode b_SlippedStreamsLaw_law 596 = .ok (.iadd, 1) := by decide +kernel
theorem d_SlippedStreamsLaw_law_597 : decode b_SlippedStreamsLaw_law 597 = .ok (.iaload, 1) := by decide +kernel
theorem d_SlippedStreamsLaw_law_598 : decode b_SlippedStreamsLaw_law 598 = .ok (.ifCond .eq 7, 3) := by decide +kernel
theorem d_SlippedStreamsLaw_law_601 : decode b_SlippedStreamsLaw_law 601 = .ok (.iconst 1, 1) := by decide +kernel
theorem d_SlippedStreamsLaw_law_602 : decode b_SlippedStreamsLaw_law 602 = .ok (.goto 4, 3) := by decide +kernel
theorem d_SlippedStreamsLaw_law_605 : decode b_SlippedStreamsLaw_law 605 = .ok (.iconst 0, 1) := by decide +kernel
theorem d_SlippedStreamsLaw_law_606 : decode b_SlippedStreamsLaw_law 606 = .ok (.invokevirtual 90, 3) := by decide +kernel
theorem d_SlippedStreamsLaw_law_609 : decode b_SlippedStreamsLaw_law 609 = .ok (.if_icmp .eq 5, 3) := by decide +kernel
theorem d_SlippedStreamsLaw_law_612 : decode b_SlippedStreamsLaw_law 612 = .ok (.iconst 0, 1) := by decide +kernel
theorem d_SlippedStreamsLaw_law_613 : decode b_SlippedStreamsLaw_law 613 = .ok (.ireturn, 1) := by decide +kernel
theorem d_SlippedStreamsLaw_law_614 : decode b_SlippedStreamsLaw_law 614 = .ok (.iinc 3 5, 3) := by decide +kernel
theorem d_SlippedStreamsLaw_law_617 : decode b_SlippedStreamsLaw_law 617 = .ok (.goto (-599), 3) := by decide +kernel
theorem d_SlippedStreamsLaw_law_620 : decode b_SlippedStreamsLaw_law 620 = .ok (.iconst 1, 1) := by decide +kernel
theorem d_SlippedStreamsLaw_law_621 : decode b_SlippedStreamsLaw_law 621 = .ok (.ireturn, 1) := by decide +kernel
