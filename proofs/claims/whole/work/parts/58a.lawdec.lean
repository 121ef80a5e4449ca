/-! the law, decoded -/
theorem dl_0 : decode code 0 = .ok (.new 7, 3) := by decide +kernel
theorem dl_3 : decode code 3 = .ok (.dup, 1) := by decide +kernel
theorem dl_4 : decode code 4 = .ok (.invokespecial 9, 3) := by decide +kernel
theorem dl_7 : decode code 7 = .ok (.astore_n 1, 1) := by decide +kernel
theorem dl_8 : decode code 8 = .ok (.new 10, 3) := by decide +kernel
theorem dl_11 : decode code 11 = .ok (.dup, 1) := by decide +kernel
theorem dl_12 : decode code 12 = .ok (.invokespecial 12, 3) := by decide +kernel
theorem dl_15 : decode code 15 = .ok (.astore_n 2, 1) := by decide +kernel
theorem dl_16 : decode code 16 = .ok (.iconst 0, 1) := by decide +kernel
theorem dl_17 : decode code 17 = .ok (.istore_n 3, 1) := by decide +kernel
theorem dl_18 : decode code 18 = .ok (.iload_n 3, 1) := by decide +kernel
theorem dl_19 : decode code 19 = .ok (.aload_n 0, 1) := by decide +kernel
theorem dl_20 : decode code 20 = .ok (.arraylength, 1) := by decide +kernel
theorem dl_21 : decode code 21 = .ok (.bipush 6, 2) := by decide +kernel
theorem dl_23 : decode code 23 = .ok (.isub, 1) := by decide +kernel
theorem dl_24 : decode code 24 = .ok (.if_icmp .gt 812, 3) := by decide +kernel
theorem dl_27 : decode code 27 = .ok (.aload_n 0, 1) := by decide +kernel
theorem dl_28 : decode code 28 = .ok (.iload_n 3, 1) := by decide +kernel
theorem dl_29 : decode code 29 = .ok (.iaload, 1) := by decide +kernel
theorem dl_30 : decode code 30 = .ok (.bipush 31, 2) := by decide +kernel
theorem dl_32 : decode code 32 = .ok (.iand, 1) := by decide +kernel
theorem dl_33 : decode code 33 = .ok (.tableswitch 797 0 26 #[123, 146, 199, 252, 265, 308, 341, 404, 427, 440, 453, 487, 500, 513, 536, 549, 562, 596, 630, 643, 666, 679, 702, 725, 748, 761, 774], 123) := by decide +kernel
theorem dl_156 : decode code 156 = .ok (.aload_n 1, 1) := by decide +kernel
theorem dl_157 : decode code 157 = .ok (.aload_n 0, 1) := by decide +kernel
theorem dl_158 : decode code 158 = .ok (.iload_n 3, 1) := by decide +kernel
theorem dl_159 : decode code 159 = .ok (.iconst 1, 1) := by decide +kernel
theorem dl_160 : decode code 160 = .ok (.iadd, 1) := by decide +kernel
theorem dl_161 : decode code 161 = .ok (.iaload, 1) := by decide +kernel
theorem dl_162 : decode code 162 = .ok (.invokevirtual 13, 3) := by decide +kernel
theorem dl_165 : decode code 165 = .ok (.aload_n 2, 1) := by decide +kernel
theorem dl_166 : decode code 166 = .ok (.aload_n 0, 1) := by decide +kernel
theorem dl_167 : decode code 167 = .ok (.iload_n 3, 1) := by decide +kernel
theorem dl_168 : decode code 168 = .ok (.iconst 1, 1) := by decide +kernel
theorem dl_169 : decode code 169 = .ok (.iadd, 1) := by decide +kernel
theorem dl_170 : decode code 170 = .ok (.iaload, 1) := by decide +kernel
theorem dl_171 : decode code 171 = .ok (.invokevirtual 17, 3) := by decide +kernel
theorem dl_174 : decode code 174 = .ok (.if_icmp .eq 656, 3) := by decide +kernel
theorem dl_177 : decode code 177 = .ok (.iconst 0, 1) := by decide +kernel
theorem dl_178 : decode code 178 = .ok (.ireturn, 1) := by decide +kernel
theorem dl_179 : decode code 179 = .ok (.aload_n 1, 1) := by decide +kernel
theorem dl_180 : decode code 180 = .ok (.aload_n 0, 1) := by decide +kernel
theorem dl_181 : decode code 181 = .ok (.iload_n 3, 1) := by decide +kernel
theorem dl_182 : decode code 182 = .ok (.iconst 1, 1) := by decide +kernel
theorem dl_183 : decode code 183 = .ok (.iadd, 1) := by decide +kernel
theorem dl_184 : decode code 184 = .ok (.iaload, 1) := by decide +kernel
theorem dl_185 : decode code 185 = .ok (.aload_n 0, 1) := by decide +kernel
theorem dl_186 : decode code 186 = .ok (.iload_n 3, 1) := by decide +kernel
theorem dl_187 : decode code 187 = .ok (.iconst 2, 1) := by decide +kernel
theorem dl_188 : decode code 188 = .ok (.iadd, 1) := by decide +kernel
theorem dl_189 : decode code 189 = .ok (.iaload, 1) := by decide +kernel
theorem dl_190 : decode code 190 = .ok (.aload_n 0, 1) := by decide +kernel
theorem dl_191 : decode code 191 = .ok (.iload_n 3, 1) := by decide +kernel
theorem dl_192 : decode code 192 = .ok (.iconst 3, 1) := by decide +kernel
theorem dl_193 : decode code 193 = .ok (.iadd, 1) := by decide +kernel
theorem dl_194 : decode code 194 = .ok (.iaload, 1) := by decide +kernel
theorem dl_195 : decode code 195 = .ok (.aload_n 0, 1) := by decide +kernel
theorem dl_196 : decode code 196 = .ok (.iload_n 3, 1) := by decide +kernel
theorem dl_197 : decode code 197 = .ok (.iconst 4, 1) := by decide +kernel
theorem dl_198 : decode code 198 = .ok (.iadd, 1) := by decide +kernel
theorem dl_199 : decode code 199 = .ok (.iaload, 1) := by decide +kernel
theorem dl_200 : decode code 200 = .ok (.invokevirtual 18, 3) := by decide +kernel
theorem dl_203 : decode code 203 = .ok (.aload_n 2, 1) := by decide +kernel
theorem dl_204 : decode code 204 = .ok (.aload_n 0, 1) := by decide +kernel
theorem dl_205 : decode code 205 = .ok (.iload_n 3, 1) := by decide +kernel
theorem dl_206 : decode code 206 = .ok (.iconst 1, 1) := by decide +kernel
theorem dl_207 : decode code 207 = .ok (.iadd, 1) := by decide +kernel
theorem dl_208 : decode code 208 = .ok (.iaload, 1) := by decide +kernel
theorem dl_209 : decode code 209 = .ok (.aload_n 0, 1) := by decide +kernel
theorem dl_210 : decode code 210 = .ok (.iload_n 3, 1) := by decide +kernel
theorem dl_211 : decode code 211 = .ok (.iconst 2, 1) := by decide +kernel
theorem dl_212 : decode code 212 = .ok (.iadd, 1) := by decide +kernel
theorem dl_213 : decode code 213 = .ok (.iaload, 1) := by decide +kernel
theorem dl_214 : decode code 214 = .ok (.aload_n 0, 1) := by decide +kernel
theorem dl_215 : decode code 215 = .ok (.iload_n 3, 1) := by decide +kernel
theorem dl_216 : decode code 216 = .ok (.iconst 3, 1) := by decide +kernel
theorem dl_217 : decode code 217 = .ok (.iadd, 1) := by decide +kernel
theorem dl_218 : decode code 218 = .ok (.iaload, 1) := by decide +kernel
theorem dl_219 : decode code 219 = .ok (.aload_n 0, 1) := by decide +kernel
theorem dl_220 : decode code 220 = .ok (.iload_n 3, 1) := by decide +kernel
theorem dl_221 : decode code 221 = .ok (.iconst 4, 1) := by decide +kernel
theorem dl_222 : decode code 222 = .ok (.iadd, 1) := by decide +kernel
theorem dl_223 : decode code 223 = .ok (.iaload, 1) := by decide +kernel
theorem dl_224 : decode code 224 = .ok (.invokevirtual 22, 3) := by decide +kernel
theorem dl_227 : decode code 227 = .ok (.if_icmp .eq 603, 3) := by decide +kernel
theorem dl_230 : decode code 230 = .ok (.iconst 0, 1) := by decide +kernel
theorem dl_231 : decode code 231 = .ok (.ireturn, 1) := by decide +kernel
theorem dl_232 : decode code 232 = .ok (.aload_n 1, 1) := by decide +kernel
theorem dl_233 : decode code 233 = .ok (.aload_n 0, 1) := by decide +kernel
theorem dl_234 : decode code 234 = .ok (.iload_n 3, 1) := by decide +kernel
theorem dl_235 : decode code 235 = .ok (.iconst 1, 1) := by decide +kernel
theorem dl_236 : decode code 236 = .ok (.iadd, 1) := by decide +kernel
theorem dl_237 : decode code 237 = .ok (.iaload, 1) := by decide +kernel
theorem dl_238 : decode code 238 = .ok (.aload_n 0, 1) := by decide +kernel
theorem dl_239 : decode code 239 = .ok (.iload_n 3, 1) := by decide +kernel
theorem dl_240 : decode code 240 = .ok (.iconst 2, 1) := by decide +kernel
theorem dl_241 : decode code 241 = .ok (.iadd, 1) := by decide +kernel
theorem dl_242 : decode code 242 = .ok (.iaload, 1) := by decide +kernel
theorem dl_243 : decode code 243 = .ok (.aload_n 0, 1) := by decide +kernel
theorem dl_244 : decode code 244 = .ok (.iload_n 3, 1) := by decide +kernel
theorem dl_245 : decode code 245 = .ok (.iconst 3, 1) := by decide +kernel
theorem dl_246 : decode code 246 = .ok (.iadd, 1) := by decide +kernel
theorem dl_247 : decode code 247 = .ok (.iaload, 1) := by decide +kernel
theorem dl_248 : decode code 248 = .ok (.aload_n 0, 1) := by decide +kernel
theorem dl_249 : decode code 249 = .ok (.iload_n 3, 1) := by decide +kernel
theorem dl_250 : decode code 250 = .ok (.iconst 4, 1) := by decide +kernel
theorem dl_251 : decode code 251 = .ok (.iadd, 1) := by decide +kernel
theorem dl_252 : decode code 252 = .ok (.iaload, 1) := by decide +kernel
theorem dl_253 : decode code 253 = .ok (.invokevirtual 23, 3) := by decide +kernel
theorem dl_256 : decode code 256 = .ok (.aload_n 2, 1) := by decide +kernel
theorem dl_257 : decode code 257 = .ok (.aload_n 0, 1) := by decide +kernel
