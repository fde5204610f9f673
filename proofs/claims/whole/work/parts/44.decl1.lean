theorem d_law_law_170 : decode code 170 = .ok (.iadd, 1) := by decide +kernel
theorem d_law_law_171 : decode code 171 = .ok (.iaload, 1) := by decide +kernel
theorem d_law_law_172 : decode code 172 = .ok (.aload_n 0, 1) := by decide +kernel
theorem d_law_law_173 : decode code 173 = .ok (.iload_n 3, 1) := by decide +kernel
theorem d_law_law_174 : decode code 174 = .ok (.iconst 2, 1) := by decide +kernel
theorem d_law_law_175 : decode code 175 = .ok (.iadd, 1) := by decide +kernel
theorem d_law_law_176 : decode code 176 = .ok (.iaload, 1) := by decide +kernel
theorem d_law_law_177 : decode code 177 = .ok (.invokevirtual 22, 3) := by decide +kernel
theorem d_law_law_180 : decode code 180 = .ok (.aload_n 2, 1) := by decide +kernel
theorem d_law_law_181 : decode code 181 = .ok (.aload_n 0, 1) := by decide +kernel
theorem d_law_law_182 : decode code 182 = .ok (.iload_n 3, 1) := by decide +kernel
theorem d_law_law_183 : decode code 183 = .ok (.iconst 1, 1) := by decide +kernel
theorem d_law_law_184 : decode code 184 = .ok (.iadd, 1) := by decide +kernel
theorem d_law_law_185 : decode code 185 = .ok (.iaload, 1) := by decide +kernel
theorem d_law_law_186 : decode code 186 = .ok (.aload_n 0, 1) := by decide +kernel
theorem d_law_law_187 : decode code 187 = .ok (.iload_n 3, 1) := by decide +kernel
theorem d_law_law_188 : decode code 188 = .ok (.iconst 2, 1) := by decide +kernel
theorem d_law_law_189 : decode code 189 = .ok (.iadd, 1) := by decide +kernel
theorem d_law_law_190 : decode code 190 = .ok (.iaload, 1) := by decide +kernel
theorem d_law_law_191 : decode code 191 = .ok (.invokevirtual 26, 3) := by decide +kernel
theorem d_law_law_194 : decode code 194 = .ok (.if_icmp .eq 310, 3) := by decide +kernel
theorem d_law_law_197 : decode code 197 = .ok (.iconst 0, 1) := by decide +kernel
theorem d_law_law_198 : decode code 198 = .ok (.ireturn, 1) := by decide +kernel
theorem d_law_law_199 : decode code 199 = .ok (.aload_n 1, 1) := by decide +kernel
theorem d_law_law_200 : decode code 200 = .ok (.aload_n 0, 1) := by decide +kernel
theorem d_law_law_201 : decode code 201 = .ok (.iload_n 3, 1) := by decide +kernel
theorem d_law_law_202 : decode code 202 = .ok (.iconst 1, 1) := by decide +kernel
theorem d_law_law_203 : decode code 203 = .ok (.iadd, 1) := by decide +kernel
theorem d_law_law_204 : decode code 204 = .ok (.iaload, 1) := by decide +kernel
theorem d_law_law_205 : decode code 205 = .ok (.aload_n 0, 1) := by decide +kernel
theorem d_law_law_206 : decode code 206 = .ok (.iload_n 3, 1) := by decide +kernel
theorem d_law_law_207 : decode code 207 = .ok (.iconst 2, 1) := by decide +kernel
theorem d_law_law_208 : decode code 208 = .ok (.iadd, 1) := by decide +kernel
theorem d_law_law_209 : decode code 209 = .ok (.iaload, 1) := by decide +kernel
theorem d_law_law_210 : decode code 210 = .ok (.aload_n 0, 1) := by decide +kernel
theorem d_law_law_211 : decode code 211 = .ok (.iload_n 3, 1) := by decide +kernel
theorem d_law_law_212 : decode code 212 = .ok (.iconst 3, 1) := by decide +kernel
theorem d_law_law_213 : decode code 213 = .ok (.iadd, 1) := by decide +kernel
theorem d_law_law_214 : decode code 214 = .ok (.iaload, 1) := by decide +kernel
theorem d_law_law_215 : decode code 215 = .ok (.invokevirtual 27, 3) := by decide +kernel
theorem d_law_law_218 : decode code 218 = .ok (.aload_n 2, 1) := by decide +kernel
theorem d_law_law_219 : decode code 219 = .ok (.aload_n 0, 1) := by decide +kernel
theorem d_law_law_220 : decode code 220 = .ok (.iload_n 3, 1) := by decide +kernel
theorem d_law_law_221 : decode code 221 = .ok (.iconst 1, 1) := by decide +kernel
theorem d_law_law_222 : decode code 222 = .ok (.iadd, 1) := by decide +kernel
theorem d_law_law_223 : decode code 223 = .ok (.iaload, 1) := by decide +kernel
theorem d_law_law_224 : decode code 224 = .ok (.aload_n 0, 1) := by decide +kernel
theorem d_law_law_225 : decode code 225 = .ok (.iload_n 3, 1) := by decide +kernel
theorem d_law_law_226 : decode code 226 = .ok (.iconst 2, 1) := by decide +kernel
theorem d_law_law_227 : decode code 227 = .ok (.iadd, 1) := by decide +kernel
theorem d_law_law_228 : decode code 228 = .ok (.iaload, 1) := by decide +kernel
theorem d_law_law_229 : decode code 229 = .ok (.aload_n 0, 1) := by decide +kernel
theorem d_law_law_230 : decode code 230 = .ok (.iload_n 3, 1) := by decide +kernel
theorem d_law_law_231 : decode code 231 = .ok (.iconst 3, 1) := by decide +kernel
theorem d_law_law_232 : decode code 232 = .ok (.iadd, 1) := by decide +kernel
theorem d_law_law_233 : decode code 233 = .ok (.iaload, 1) := by decide +kernel
theorem d_law_law_234 : decode code 234 = .ok (.invokevirtual 31, 3) := by decide +kernel
theorem d_law_law_237 : decode code 237 = .ok (.if_icmp .eq 267, 3) := by decide +kernel
theorem d_law_law_240 : decode code 240 = .ok (.iconst 0, 1) := by decide +kernel
theorem d_law_law_241 : decode code 241 = .ok (.ireturn, 1) := by decide +kernel
