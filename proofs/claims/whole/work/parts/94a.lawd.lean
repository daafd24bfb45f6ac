theorem d_Law_law_172 : decode code 172 = .ok (.iload 4, 2) := by decide +kernel
theorem d_Law_law_174 : decode code 174 = .ok (.iconst 4, 1) := by decide +kernel
theorem d_Law_law_175 : decode code 175 = .ok (.iadd, 1) := by decide +kernel
theorem d_Law_law_176 : decode code 176 = .ok (.iaload, 1) := by decide +kernel
theorem d_Law_law_177 : decode code 177 = .ok (.aload_n 0, 1) := by decide +kernel
theorem d_Law_law_178 : decode code 178 = .ok (.iload 4, 2) := by decide +kernel
theorem d_Law_law_180 : decode code 180 = .ok (.iconst 5, 1) := by decide +kernel
theorem d_Law_law_181 : decode code 181 = .ok (.iadd, 1) := by decide +kernel
theorem d_Law_law_182 : decode code 182 = .ok (.iaload, 1) := by decide +kernel
theorem d_Law_law_183 : decode code 183 = .ok (.aload_n 0, 1) := by decide +kernel
theorem d_Law_law_184 : decode code 184 = .ok (.iload 4, 2) := by decide +kernel
theorem d_Law_law_186 : decode code 186 = .ok (.bipush 6, 2) := by decide +kernel
theorem d_Law_law_188 : decode code 188 = .ok (.iadd, 1) := by decide +kernel
theorem d_Law_law_189 : decode code 189 = .ok (.iaload, 1) := by decide +kernel
theorem d_Law_law_190 : decode code 190 = .ok (.aload_n 3, 1) := by decide +kernel
theorem d_Law_law_191 : decode code 191 = .ok (.invokestatic 88, 3) := by decide +kernel
theorem d_Law_law_194 : decode code 194 = .ok (.istore 5, 2) := by decide +kernel
theorem d_Law_law_196 : decode code 196 = .ok (.aload_n 2, 1) := by decide +kernel
theorem d_Law_law_197 : decode code 197 = .ok (.aload_n 0, 1) := by decide +kernel
theorem d_Law_law_198 : decode code 198 = .ok (.iload 4, 2) := by decide +kernel
theorem d_Law_law_200 : decode code 200 = .ok (.iconst 1, 1) := by decide +kernel
theorem d_Law_law_201 : decode code 201 = .ok (.iadd, 1) := by decide +kernel
theorem d_Law_law_202 : decode code 202 = .ok (.iaload, 1) := by decide +kernel
theorem d_Law_law_203 : decode code 203 = .ok (.aload_n 0, 1) := by decide +kernel
theorem d_Law_law_204 : decode code 204 = .ok (.iload 4, 2) := by decide +kernel
theorem d_Law_law_206 : decode code 206 = .ok (.iconst 2, 1) := by decide +kernel
theorem d_Law_law_207 : decode code 207 = .ok (.iadd, 1) := by decide +kernel
theorem d_Law_law_208 : decode code 208 = .ok (.iaload, 1) := by decide +kernel
theorem d_Law_law_209 : decode code 209 = .ok (.aload_n 0, 1) := by decide +kernel
theorem d_Law_law_210 : decode code 210 = .ok (.iload 4, 2) := by decide +kernel
theorem d_Law_law_212 : decode code 212 = .ok (.iconst 3, 1) := by decide +kernel
theorem d_Law_law_213 : decode code 213 = .ok (.iadd, 1) := by decide +kernel
theorem d_Law_law_214 : decode code 214 = .ok (.iaload, 1) := by decide +kernel
theorem d_Law_law_215 : decode code 215 = .ok (.aload_n 0, 1) := by decide +kernel
theorem d_Law_law_216 : decode code 216 = .ok (.iload 4, 2) := by decide +kernel
theorem d_Law_law_218 : decode code 218 = .ok (.iconst 4, 1) := by decide +kernel
theorem d_Law_law_219 : decode code 219 = .ok (.iadd, 1) := by decide +kernel
theorem d_Law_law_220 : decode code 220 = .ok (.iaload, 1) := by decide +kernel
theorem d_Law_law_221 : decode code 221 = .ok (.aload_n 0, 1) := by decide +kernel
theorem d_Law_law_222 : decode code 222 = .ok (.iload 4, 2) := by decide +kernel
theorem d_Law_law_224 : decode code 224 = .ok (.iconst 5, 1) := by decide +kernel
theorem d_Law_law_225 : decode code 225 = .ok (.iadd, 1) := by decide +kernel
theorem d_Law_law_226 : decode code 226 = .ok (.iaload, 1) := by decide +kernel
theorem d_Law_law_227 : decode code 227 = .ok (.aload_n 0, 1) := by decide +kernel
theorem d_Law_law_228 : decode code 228 = .ok (.iload 4, 2) := by decide +kernel
theorem d_Law_law_230 : decode code 230 = .ok (.bipush 6, 2) := by decide +kernel
theorem d_Law_law_232 : decode code 232 = .ok (.iadd, 1) := by decide +kernel
theorem d_Law_law_233 : decode code 233 = .ok (.iaload, 1) := by decide +kernel
theorem d_Law_law_234 : decode code 234 = .ok (.invokevirtual 91, 3) := by decide +kernel
theorem d_Law_law_237 : decode code 237 = .ok (.istore 6, 2) := by decide +kernel
theorem d_Law_law_239 : decode code 239 = .ok (.aload_n 2, 1) := by decide +kernel
theorem d_Law_law_240 : decode code 240 = .ok (.invokevirtual 92, 3) := by decide +kernel
theorem d_Law_law_243 : decode code 243 = .ok (.iload 5, 2) := by decide +kernel
theorem d_Law_law_245 : decode code 245 = .ok (.if_icmp .eq 5, 3) := by decide +kernel
theorem d_Law_law_248 : decode code 248 = .ok (.iconst 0, 1) := by decide +kernel
theorem d_Law_law_249 : decode code 249 = .ok (.ireturn, 1) := by decide +kernel
theorem d_Law_law_250 : decode code 250 = .ok (.iload 5, 2) := by decide +kernel
theorem d_Law_law_252 : decode code 252 = .ok (.ifCond .ne 22, 3) := by decide +kernel
theorem d_Law_law_255 : decode code 255 = .ok (.aload_n 3, 1) := by decide +kernel
theorem d_Law_law_256 : decode code 256 = .ok (.iconst 0, 1) := by decide +kernel
