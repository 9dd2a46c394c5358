theorem d_code_764 : decode code 764 = .ok (.iconst 1, 1) := by decide +kernel
theorem d_code_765 : decode code 765 = .ok (.ireturn, 1) := by decide +kernel
theorem d_code_758 : decode code 758 = .ok (.iinc 3 4, 3) := by decide +kernel
theorem d_code_761 : decode code 761 = .ok (.goto (-743), 3) := by decide +kernel
theorem d_code_18 : decode code 18 = .ok (.iload_n 3, 1) := by decide +kernel
theorem d_code_19 : decode code 19 = .ok (.aload_n 0, 1) := by decide +kernel
theorem d_code_20 : decode code 20 = .ok (.arraylength, 1) := by decide +kernel
theorem d_code_21 : decode code 21 = .ok (.iconst 4, 1) := by decide +kernel
theorem d_code_22 : decode code 22 = .ok (.isub, 1) := by decide +kernel
theorem d_code_23 : decode code 23 = .ok (.if_icmp .gt 741, 3) := by decide +kernel
theorem d_code_156 : decode code 156 = .ok (.aload_n 1, 1) := by decide +kernel
theorem d_code_157 : decode code 157 = .ok (.invokevirtual 13, 3) := by decide +kernel
theorem d_code_160 : decode code 160 = .ok (.aload_n 2, 1) := by decide +kernel
theorem d_code_161 : decode code 161 = .ok (.invokevirtual 17, 3) := by decide +kernel
theorem d_code_164 : decode code 164 = .ok (.if_icmp .eq 594, 3) := by decide +kernel
theorem d_code_169 : decode code 169 = .ok (.aload_n 1, 1) := by decide +kernel
theorem d_code_170 : decode code 170 = .ok (.invokevirtual 18, 3) := by decide +kernel
theorem d_code_173 : decode code 173 = .ok (.aload_n 2, 1) := by decide +kernel
theorem d_code_174 : decode code 174 = .ok (.invokevirtual 21, 3) := by decide +kernel
theorem d_code_177 : decode code 177 = .ok (.if_icmp .eq 581, 3) := by decide +kernel
theorem d_code_182 : decode code 182 = .ok (.aload_n 1, 1) := by decide +kernel
theorem d_code_183 : decode code 183 = .ok (.aload_n 0, 1) := by decide +kernel
theorem d_code_184 : decode code 184 = .ok (.iload_n 3, 1) := by decide +kernel
theorem d_code_185 : decode code 185 = .ok (.iconst 1, 1) := by decide +kernel
theorem d_code_186 : decode code 186 = .ok (.iadd, 1) := by decide +kernel
theorem d_code_187 : decode code 187 = .ok (.iaload, 1) := by decide +kernel
theorem d_code_188 : decode code 188 = .ok (.aload_n 0, 1) := by decide +kernel
theorem d_code_189 : decode code 189 = .ok (.iload_n 3, 1) := by decide +kernel
theorem d_code_190 : decode code 190 = .ok (.iconst 2, 1) := by decide +kernel
theorem d_code_191 : decode code 191 = .ok (.iadd, 1) := by decide +kernel
theorem d_code_192 : decode code 192 = .ok (.iaload, 1) := by decide +kernel
theorem d_code_193 : decode code 193 = .ok (.invokevirtual 22, 3) := by decide +kernel
theorem d_code_196 : decode code 196 = .ok (.aload_n 2, 1) := by decide +kernel
theorem d_code_197 : decode code 197 = .ok (.aload_n 0, 1) := by decide +kernel
theorem d_code_198 : decode code 198 = .ok (.iload_n 3, 1) := by decide +kernel
theorem d_code_199 : decode code 199 = .ok (.iconst 1, 1) := by decide +kernel
theorem d_code_200 : decode code 200 = .ok (.iadd, 1) := by decide +kernel
theorem d_code_201 : decode code 201 = .ok (.iaload, 1) := by decide +kernel
theorem d_code_202 : decode code 202 = .ok (.aload_n 0, 1) := by decide +kernel
theorem d_code_203 : decode code 203 = .ok (.iload_n 3, 1) := by decide +kernel
theorem d_code_204 : decode code 204 = .ok (.iconst 2, 1) := by decide +kernel
theorem d_code_205 : decode code 205 = .ok (.iadd, 1) := by decide +kernel
theorem d_code_206 : decode code 206 = .ok (.iaload, 1) := by decide +kernel
theorem d_code_207 : decode code 207 = .ok (.invokevirtual 26, 3) := by decide +kernel
theorem d_code_210 : decode code 210 = .ok (.if_icmp .eq 548, 3) := by decide +kernel
theorem d_code_215 : decode code 215 = .ok (.aload_n 1, 1) := by decide +kernel
theorem d_code_216 : decode code 216 = .ok (.aload_n 0, 1) := by decide +kernel
theorem d_code_217 : decode code 217 = .ok (.iload_n 3, 1) := by decide +kernel
theorem d_code_218 : decode code 218 = .ok (.iconst 1, 1) := by decide +kernel
theorem d_code_219 : decode code 219 = .ok (.iadd, 1) := by decide +kernel
theorem d_code_220 : decode code 220 = .ok (.iaload, 1) := by decide +kernel
theorem d_code_221 : decode code 221 = .ok (.aload_n 0, 1) := by decide +kernel
theorem d_code_222 : decode code 222 = .ok (.iload_n 3, 1) := by decide +kernel
theorem d_code_223 : decode code 223 = .ok (.iconst 2, 1) := by decide +kernel
theorem d_code_224 : decode code 224 = .ok (.iadd, 1) := by decide +kernel
theorem d_code_225 : decode code 225 = .ok (.iaload, 1) := by decide +kernel
theorem d_code_226 : decode code 226 = .ok (.invokevirtual 27, 3) := by decide +kernel
theorem d_code_229 : decode code 229 = .ok (.aload_n 2, 1) := by decide +kernel
theorem d_code_230 : decode code 230 = .ok (.aload_n 0, 1) := by decide +kernel
theorem d_code_231 : decode code 231 = .ok (.iload_n 3, 1) := by decide +kernel
theorem d_code_232 : decode code 232 = .ok (.iconst 1, 1) := by decide +kernel
theorem d_code_233 : decode code 233 = .ok (.iadd, 1) := by decide +kernel
theorem d_code_234 : decode code 234 = .ok (.iaload, 1) := by decide +kernel
theorem d_code_235 : decode code 235 = .ok (.aload_n 0, 1) := by decide +kernel
theorem d_code_236 : decode code 236 = .ok (.iload_n 3, 1) := by decide +kernel
theorem d_code_237 : decode code 237 = .ok (.iconst 2, 1) := by decide +kernel
theorem d_code_238 : decode code 238 = .ok (.iadd, 1) := by decide +kernel
theorem d_code_239 : decode code 239 = .ok (.iaload, 1) := by decide +kernel
theorem d_code_240 : decode code 240 = .ok (.invokevirtual 30, 3) := by decide +kernel
theorem d_code_243 : decode code 243 = .ok (.if_icmp .eq 515, 3) := by decide +kernel
theorem d_code_248 : decode code 248 = .ok (.aload_n 1, 1) := by decide +kernel
theorem d_code_249 : decode code 249 = .ok (.invokevirtual 31, 3) := by decide +kernel
theorem d_code_252 : decode code 252 = .ok (.aload_n 2, 1) := by decide +kernel
theorem d_code_253 : decode code 253 = .ok (.invokevirtual 34, 3) := by decide +kernel
theorem d_code_256 : decode code 256 = .ok (.if_icmp .eq 502, 3) := by decide +kernel
theorem d_code_261 : decode code 261 = .ok (.aload_n 1, 1) := by decide +kernel
theorem d_code_262 : decode code 262 = .ok (.aload_n 0, 1) := by decide +kernel
theorem d_code_263 : decode code 263 = .ok (.iload_n 3, 1) := by decide +kernel
theorem d_code_264 : decode code 264 = .ok (.iconst 1, 1) := by decide +kernel
theorem d_code_265 : decode code 265 = .ok (.iadd, 1) := by decide +kernel
