theorem dL_law_0_grp : (decode cL_law 0 = .ok (.new 7, 3)) ∧ (decode cL_law 3 = .ok (.dup, 1)) ∧ (decode cL_law 4 = .ok (.invokespecial 9, 3)) ∧ (decode cL_law 7 = .ok (.astore_n 1, 1)) ∧ (decode cL_law 8 = .ok (.new 10, 3)) ∧ (decode cL_law 11 = .ok (.dup, 1)) ∧ (decode cL_law 12 = .ok (.invokespecial 12, 3)) ∧ (decode cL_law 15 = .ok (.astore_n 2, 1)) ∧ (decode cL_law 16 = .ok (.iconst 0, 1)) := by decide +kernel
theorem dL_law_0 : decode cL_law 0 = .ok (.new 7, 3) := dL_law_0_grp.1
theorem dL_law_3 : decode cL_law 3 = .ok (.dup, 1) := dL_law_0_grp.2.1
theorem dL_law_4 : decode cL_law 4 = .ok (.invokespecial 9, 3) := dL_law_0_grp.2.2.1
theorem dL_law_7 : decode cL_law 7 = .ok (.astore_n 1, 1) := dL_law_0_grp.2.2.2.1
theorem dL_law_8 : decode cL_law 8 = .ok (.new 10, 3) := dL_law_0_grp.2.2.2.2.1
theorem dL_law_11 : decode cL_law 11 = .ok (.dup, 1) := dL_law_0_grp.2.2.2.2.2.1
theorem dL_law_12 : decode cL_law 12 = .ok (.invokespecial 12, 3) := dL_law_0_grp.2.2.2.2.2.2.1
theorem dL_law_15 : decode cL_law 15 = .ok (.astore_n 2, 1) := dL_law_0_grp.2.2.2.2.2.2.2.1
theorem dL_law_16 : decode cL_law 16 = .ok (.iconst 0, 1) := dL_law_0_grp.2.2.2.2.2.2.2.2
theorem dL_law_17_grp : (decode cL_law 17 = .ok (.istore_n 3, 1)) ∧ (decode cL_law 18 = .ok (.iload_n 3, 1)) ∧ (decode cL_law 19 = .ok (.aload_n 0, 1)) ∧ (decode cL_law 20 = .ok (.arraylength, 1)) ∧ (decode cL_law 21 = .ok (.bipush 7, 2)) ∧ (decode cL_law 23 = .ok (.isub, 1)) ∧ (decode cL_law 24 = .ok (.if_icmp .gt 1345, 3)) ∧ (decode cL_law 27 = .ok (.aload_n 0, 1)) ∧ (decode cL_law 28 = .ok (.iload_n 3, 1)) := by decide +kernel
theorem dL_law_17 : decode cL_law 17 = .ok (.istore_n 3, 1) := dL_law_17_grp.1
theorem dL_law_18 : decode cL_law 18 = .ok (.iload_n 3, 1) := dL_law_17_grp.2.1
theorem dL_law_19 : decode cL_law 19 = .ok (.aload_n 0, 1) := dL_law_17_grp.2.2.1
theorem dL_law_20 : decode cL_law 20 = .ok (.arraylength, 1) := dL_law_17_grp.2.2.2.1
theorem dL_law_21 : decode cL_law 21 = .ok (.bipush 7, 2) := dL_law_17_grp.2.2.2.2.1
theorem dL_law_23 : decode cL_law 23 = .ok (.isub, 1) := dL_law_17_grp.2.2.2.2.2.1
theorem dL_law_24 : decode cL_law 24 = .ok (.if_icmp .gt 1345, 3) := dL_law_17_grp.2.2.2.2.2.2.1
theorem dL_law_27 : decode cL_law 27 = .ok (.aload_n 0, 1) := dL_law_17_grp.2.2.2.2.2.2.2.1
theorem dL_law_28 : decode cL_law 28 = .ok (.iload_n 3, 1) := dL_law_17_grp.2.2.2.2.2.2.2.2
theorem dL_law_29_grp : (decode cL_law 29 = .ok (.iaload, 1)) ∧ (decode cL_law 30 = .ok (.bipush 63, 2)) ∧ (decode cL_law 32 = .ok (.iand, 1)) := by decide +kernel
theorem dL_law_29 : decode cL_law 29 = .ok (.iaload, 1) := dL_law_29_grp.1
theorem dL_law_30 : decode cL_law 30 = .ok (.bipush 63, 2) := dL_law_29_grp.2.1
theorem dL_law_32 : decode cL_law 32 = .ok (.iand, 1) := dL_law_29_grp.2.2
theorem dL_law_33 : decode cL_law 33 = .ok (.tableswitch 1330 0 32 #[147, 210, 233, 286, 339, 382, 425, 516, 579, 612, 655, 698, 741, 794, 827, 840, 853, 876, 909, 942, 965, 978, 1041, 1064, 1077, 1100, 1133, 1156, 1215, 1238, 1271, 1294, 1307], 147) := by decide +kernel
theorem dL_law_180_grp : (decode cL_law 180 = .ok (.aload_n 1, 1)) ∧ (decode cL_law 181 = .ok (.aload_n 0, 1)) ∧ (decode cL_law 182 = .ok (.iload_n 3, 1)) ∧ (decode cL_law 183 = .ok (.iconst 1, 1)) ∧ (decode cL_law 184 = .ok (.iadd, 1)) ∧ (decode cL_law 185 = .ok (.iaload, 1)) ∧ (decode cL_law 186 = .ok (.aload_n 0, 1)) ∧ (decode cL_law 187 = .ok (.iload_n 3, 1)) ∧ (decode cL_law 188 = .ok (.iconst 2, 1)) := by decide +kernel
theorem dL_law_180 : decode cL_law 180 = .ok (.aload_n 1, 1) := dL_law_180_grp.1
theorem dL_law_181 : decode cL_law 181 = .ok (.aload_n 0, 1) := dL_law_180_grp.2.1
theorem dL_law_182 : decode cL_law 182 = .ok (.iload_n 3, 1) := dL_law_180_grp.2.2.1
theorem dL_law_183 : decode cL_law 183 = .ok (.iconst 1, 1) := dL_law_180_grp.2.2.2.1
theorem dL_law_184 : decode cL_law 184 = .ok (.iadd, 1) := dL_law_180_grp.2.2.2.2.1
theorem dL_law_185 : decode cL_law 185 = .ok (.iaload, 1) := dL_law_180_grp.2.2.2.2.2.1
theorem dL_law_186 : decode cL_law 186 = .ok (.aload_n 0, 1) := dL_law_180_grp.2.2.2.2.2.2.1
theorem dL_law_187 : decode cL_law 187 = .ok (.iload_n 3, 1) := dL_law_180_grp.2.2.2.2.2.2.2.1
theorem dL_law_188 : decode cL_law 188 = .ok (.iconst 2, 1) := dL_law_180_grp.2.2.2.2.2.2.2.2
theorem dL_law_189_grp : (decode cL_law 189 = .ok (.iadd, 1)) ∧ (decode cL_law 190 = .ok (.iaload, 1)) ∧ (decode cL_law 191 = .ok (.aload_n 0, 1)) ∧ (decode cL_law 192 = .ok (.iload_n 3, 1)) ∧ (decode cL_law 193 = .ok (.iconst 3, 1)) ∧ (decode cL_law 194 = .ok (.iadd, 1)) ∧ (decode cL_law 195 = .ok (.iaload, 1)) ∧ (decode cL_law 196 = .ok (.aload_n 0, 1)) ∧ (decode cL_law 197 = .ok (.iload_n 3, 1)) := by decide +kernel
theorem dL_law_189 : decode cL_law 189 = .ok (.iadd, 1) := dL_law_189_grp.1
theorem dL_law_190 : decode cL_law 190 = .ok (.iaload, 1) := dL_law_189_grp.2.1
theorem dL_law_191 : decode cL_law 191 = .ok (.aload_n 0, 1) := dL_law_189_grp.2.2.1
theorem dL_law_192 : decode cL_law 192 = .ok (.iload_n 3, 1) := dL_law_189_grp.2.2.2.1
theorem dL_law_193 : decode cL_law 193 = .ok (.iconst 3, 1) := dL_law_189_grp.2.2.2.2.1
theorem dL_law_194 : decode cL_law 194 = .ok (.iadd, 1) := dL_law_189_grp.2.2.2.2.2.1
theorem dL_law_195 : decode cL_law 195 = .ok (.iaload, 1) := dL_law_189_grp.2.2.2.2.2.2.1
theorem dL_law_196 : decode cL_law 196 = .ok (.aload_n 0, 1) := dL_law_189_grp.2.2.2.2.2.2.2.1
theorem dL_law_197 : decode cL_law 197 = .ok (.iload_n 3, 1) := dL_law_189_grp.2.2.2.2.2.2.2.2
theorem dL_law_198_grp : (decode cL_law 198 = .ok (.iconst 4, 1)) ∧ (decode cL_law 199 = .ok (.iadd, 1)) ∧ (decode cL_law 200 = .ok (.iaload, 1)) ∧ (decode cL_law 201 = .ok (.aload_n 0, 1)) ∧ (decode cL_law 202 = .ok (.iload_n 3, 1)) ∧ (decode cL_law 203 = .ok (.iconst 5, 1)) ∧ (decode cL_law 204 = .ok (.iadd, 1)) ∧ (decode cL_law 205 = .ok (.iaload, 1)) ∧ (decode cL_law 206 = .ok (.invokevirtual 13, 3)) := by decide +kernel
theorem dL_law_198 : decode cL_law 198 = .ok (.iconst 4, 1) := dL_law_198_grp.1
theorem dL_law_199 : decode cL_law 199 = .ok (.iadd, 1) := dL_law_198_grp.2.1
theorem dL_law_200 : decode cL_law 200 = .ok (.iaload, 1) := dL_law_198_grp.2.2.1
theorem dL_law_201 : decode cL_law 201 = .ok (.aload_n 0, 1) := dL_law_198_grp.2.2.2.1
theorem dL_law_202 : decode cL_law 202 = .ok (.iload_n 3, 1) := dL_law_198_grp.2.2.2.2.1
theorem dL_law_203 : decode cL_law 203 = .ok (.iconst 5, 1) := dL_law_198_grp.2.2.2.2.2.1
theorem dL_law_204 : decode cL_law 204 = .ok (.iadd, 1) := dL_law_198_grp.2.2.2.2.2.2.1
theorem dL_law_205 : decode cL_law 205 = .ok (.iaload, 1) := dL_law_198_grp.2.2.2.2.2.2.2.1
theorem dL_law_206 : decode cL_law 206 = .ok (.invokevirtual 13, 3) := dL_law_198_grp.2.2.2.2.2.2.2.2
theorem dL_law_209_grp : (decode cL_law 209 = .ok (.pop, 1)) ∧ (decode cL_law 210 = .ok (.aload_n 2, 1)) ∧ (decode cL_law 211 = .ok (.aload_n 0, 1)) ∧ (decode cL_law 212 = .ok (.iload_n 3, 1)) ∧ (decode cL_law 213 = .ok (.iconst 1, 1)) ∧ (decode cL_law 214 = .ok (.iadd, 1)) ∧ (decode cL_law 215 = .ok (.iaload, 1)) ∧ (decode cL_law 216 = .ok (.aload_n 0, 1)) ∧ (decode cL_law 217 = .ok (.iload_n 3, 1)) := by decide +kernel
theorem dL_law_209 : decode cL_law 209 = .ok (.pop, 1) := dL_law_209_grp.1
theorem dL_law_210 : decode cL_law 210 = .ok (.aload_n 2, 1) := dL_law_209_grp.2.1
theorem dL_law_211 : decode cL_law 211 = .ok (.aload_n 0, 1) := dL_law_209_grp.2.2.1
theorem dL_law_212 : decode cL_law 212 = .ok (.iload_n 3, 1) := dL_law_209_grp.2.2.2.1
theorem dL_law_213 : decode cL_law 213 = .ok (.iconst 1, 1) := dL_law_209_grp.2.2.2.2.1
theorem dL_law_214 : decode cL_law 214 = .ok (.iadd, 1) := dL_law_209_grp.2.2.2.2.2.1
theorem dL_law_215 : decode cL_law 215 = .ok (.iaload, 1) := dL_law_209_grp.2.2.2.2.2.2.1
theorem dL_law_216 : decode cL_law 216 = .ok (.aload_n 0, 1) := dL_law_209_grp.2.2.2.2.2.2.2.1
theorem dL_law_217 : decode cL_law 217 = .ok (.iload_n 3, 1) := dL_law_209_grp.2.2.2.2.2.2.2.2
theorem dL_law_218_grp : (decode cL_law 218 = .ok (.iconst 2, 1)) ∧ (decode cL_law 219 = .ok (.iadd, 1)) ∧ (decode cL_law 220 = .ok (.iaload, 1)) ∧ (decode cL_law 221 = .ok (.aload_n 0, 1)) ∧ (decode cL_law 222 = .ok (.iload_n 3, 1)) ∧ (decode cL_law 223 = .ok (.iconst 3, 1)) ∧ (decode cL_law 224 = .ok (.iadd, 1)) ∧ (decode cL_law 225 = .ok (.iaload, 1)) ∧ (decode cL_law 226 = .ok (.aload_n 0, 1)) := by decide +kernel
theorem dL_law_218 : decode cL_law 218 = .ok (.iconst 2, 1) := dL_law_218_grp.1
theorem dL_law_219 : decode cL_law 219 = .ok (.iadd, 1) := dL_law_218_grp.2.1
theorem dL_law_220 : decode cL_law 220 = .ok (.iaload, 1) := dL_law_218_grp.2.2.1
theorem dL_law_221 : decode cL_law 221 = .ok (.aload_n 0, 1) := dL_law_218_grp.2.2.2.1
theorem dL_law_222 : decode cL_law 222 = .ok (.iload_n 3, 1) := dL_law_218_grp.2.2.2.2.1
theorem dL_law_223 : decode cL_law 223 = .ok (.iconst 3, 1) := dL_law_218_grp.2.2.2.2.2.1
theorem dL_law_224 : decode cL_law 224 = .ok (.iadd, 1) := dL_law_218_grp.2.2.2.2.2.2.1
theorem dL_law_225 : decode cL_law 225 = .ok (.iaload, 1) := dL_law_218_grp.2.2.2.2.2.2.2.1
theorem dL_law_226 : decode cL_law 226 = .ok (.aload_n 0, 1) := dL_law_218_grp.2.2.2.2.2.2.2.2
theorem dL_law_227_grp : (decode cL_law 227 = .ok (.iload_n 3, 1)) ∧ (decode cL_law 228 = .ok (.iconst 4, 1)) ∧ (decode cL_law 229 = .ok (.iadd, 1)) ∧ (decode cL_law 230 = .ok (.iaload, 1)) ∧ (decode cL_law 231 = .ok (.aload_n 0, 1)) ∧ (decode cL_law 232 = .ok (.iload_n 3, 1)) ∧ (decode cL_law 233 = .ok (.iconst 5, 1)) ∧ (decode cL_law 234 = .ok (.iadd, 1)) ∧ (decode cL_law 235 = .ok (.iaload, 1)) := by decide +kernel
theorem dL_law_227 : decode cL_law 227 = .ok (.iload_n 3, 1) := dL_law_227_grp.1
theorem dL_law_228 : decode cL_law 228 = .ok (.iconst 4, 1) := dL_law_227_grp.2.1
theorem dL_law_229 : decode cL_law 229 = .ok (.iadd, 1) := dL_law_227_grp.2.2.1
theorem dL_law_230 : decode cL_law 230 = .ok (.iaload, 1) := dL_law_227_grp.2.2.2.1
theorem dL_law_231 : decode cL_law 231 = .ok (.aload_n 0, 1) := dL_law_227_grp.2.2.2.2.1
theorem dL_law_232 : decode cL_law 232 = .ok (.iload_n 3, 1) := dL_law_227_grp.2.2.2.2.2.1
theorem dL_law_233 : decode cL_law 233 = .ok (.iconst 5, 1) := dL_law_227_grp.2.2.2.2.2.2.1
theorem dL_law_234 : decode cL_law 234 = .ok (.iadd, 1) := dL_law_227_grp.2.2.2.2.2.2.2.1
theorem dL_law_235 : decode cL_law 235 = .ok (.iaload, 1) := dL_law_227_grp.2.2.2.2.2.2.2.2
theorem dL_law_236_grp : (decode cL_law 236 = .ok (.invokevirtual 17, 3)) ∧ (decode cL_law 239 = .ok (.pop, 1)) ∧ (decode cL_law 240 = .ok (.goto 1123, 3)) ∧ (decode cL_law 243 = .ok (.aload_n 1, 1)) ∧ (decode cL_law 244 = .ok (.aload_n 0, 1)) ∧ (decode cL_law 245 = .ok (.iload_n 3, 1)) ∧ (decode cL_law 246 = .ok (.iconst 1, 1)) ∧ (decode cL_law 247 = .ok (.iadd, 1)) ∧ (decode cL_law 248 = .ok (.iaload, 1)) := by decide +kernel
theorem dL_law_236 : decode cL_law 236 = .ok (.invokevirtual 17, 3) := dL_law_236_grp.1
theorem dL_law_239 : decode cL_law 239 = .ok (.pop, 1) := dL_law_236_grp.2.1
theorem dL_law_240 : decode cL_law 240 = .ok (.goto 1123, 3) := dL_law_236_grp.2.2.1
theorem dL_law_243 : decode cL_law 243 = .ok (.aload_n 1, 1) := dL_law_236_grp.2.2.2.1
theorem dL_law_244 : decode cL_law 244 = .ok (.aload_n 0, 1) := dL_law_236_grp.2.2.2.2.1
theorem dL_law_245 : decode cL_law 245 = .ok (.iload_n 3, 1) := dL_law_236_grp.2.2.2.2.2.1
theorem dL_law_246 : decode cL_law 246 = .ok (.iconst 1, 1) := dL_law_236_grp.2.2.2.2.2.2.1
theorem dL_law_247 : decode cL_law 247 = .ok (.iadd, 1) := dL_law_236_grp.2.2.2.2.2.2.2.1
theorem dL_law_248 : decode cL_law 248 = .ok (.iaload, 1) := dL_law_236_grp.2.2.2.2.2.2.2.2
theorem dL_law_249_grp : (decode cL_law 249 = .ok (.invokevirtual 18, 3)) ∧ (decode cL_law 252 = .ok (.pop, 1)) ∧ (decode cL_law 253 = .ok (.aload_n 2, 1)) ∧ (decode cL_law 254 = .ok (.aload_n 0, 1)) ∧ (decode cL_law 255 = .ok (.iload_n 3, 1)) ∧ (decode cL_law 256 = .ok (.iconst 1, 1)) ∧ (decode cL_law 257 = .ok (.iadd, 1)) ∧ (decode cL_law 258 = .ok (.iaload, 1)) ∧ (decode cL_law 259 = .ok (.invokevirtual 22, 3)) := by decide +kernel
theorem dL_law_249 : decode cL_law 249 = .ok (.invokevirtual 18, 3) := dL_law_249_grp.1
theorem dL_law_252 : decode cL_law 252 = .ok (.pop, 1) := dL_law_249_grp.2.1
theorem dL_law_253 : decode cL_law 253 = .ok (.aload_n 2, 1) := dL_law_249_grp.2.2.1
theorem dL_law_254 : decode cL_law 254 = .ok (.aload_n 0, 1) := dL_law_249_grp.2.2.2.1
theorem dL_law_255 : decode cL_law 255 = .ok (.iload_n 3, 1) := dL_law_249_grp.2.2.2.2.1
theorem dL_law_256 : decode cL_law 256 = .ok (.iconst 1, 1) := dL_law_249_grp.2.2.2.2.2.1
theorem dL_law_257 : decode cL_law 257 = .ok (.iadd, 1) := dL_law_249_grp.2.2.2.2.2.2.1
theorem dL_law_258 : decode cL_law 258 = .ok (.iaload, 1) := dL_law_249_grp.2.2.2.2.2.2.2.1
theorem dL_law_259 : decode cL_law 259 = .ok (.invokevirtual 22, 3) := dL_law_249_grp.2.2.2.2.2.2.2.2
theorem dL_law_262_grp : (decode cL_law 262 = .ok (.pop, 1)) ∧ (decode cL_law 263 = .ok (.goto 1100, 3)) ∧ (decode cL_law 266 = .ok (.aload_n 1, 1)) ∧ (decode cL_law 267 = .ok (.aload_n 0, 1)) ∧ (decode cL_law 268 = .ok (.iload_n 3, 1)) ∧ (decode cL_law 269 = .ok (.iconst 1, 1)) ∧ (decode cL_law 270 = .ok (.iadd, 1)) ∧ (decode cL_law 271 = .ok (.iaload, 1)) ∧ (decode cL_law 272 = .ok (.aload_n 0, 1)) := by decide +kernel
theorem dL_law_262 : decode cL_law 262 = .ok (.pop, 1) := dL_law_262_grp.1
theorem dL_law_263 : decode cL_law 263 = .ok (.goto 1100, 3) := dL_law_262_grp.2.1
theorem dL_law_266 : decode cL_law 266 = .ok (.aload_n 1, 1) := dL_law_262_grp.2.2.1
theorem dL_law_267 : decode cL_law 267 = .ok (.aload_n 0, 1) := dL_law_262_grp.2.2.2.1
theorem dL_law_268 : decode cL_law 268 = .ok (.iload_n 3, 1) := dL_law_262_grp.2.2.2.2.1
theorem dL_law_269 : decode cL_law 269 = .ok (.iconst 1, 1) := dL_law_262_grp.2.2.2.2.2.1
theorem dL_law_270 : decode cL_law 270 = .ok (.iadd, 1) := dL_law_262_grp.2.2.2.2.2.2.1
theorem dL_law_271 : decode cL_law 271 = .ok (.iaload, 1) := dL_law_262_grp.2.2.2.2.2.2.2.1
theorem dL_law_272 : decode cL_law 272 = .ok (.aload_n 0, 1) := dL_law_262_grp.2.2.2.2.2.2.2.2
theorem dL_law_273_grp : (decode cL_law 273 = .ok (.iload_n 3, 1)) ∧ (decode cL_law 274 = .ok (.iconst 2, 1)) ∧ (decode cL_law 275 = .ok (.iadd, 1)) ∧ (decode cL_law 276 = .ok (.iaload, 1)) ∧ (decode cL_law 277 = .ok (.aload_n 0, 1)) ∧ (decode cL_law 278 = .ok (.iload_n 3, 1)) ∧ (decode cL_law 279 = .ok (.iconst 3, 1)) ∧ (decode cL_law 280 = .ok (.iadd, 1)) ∧ (decode cL_law 281 = .ok (.iaload, 1)) := by decide +kernel
theorem dL_law_273 : decode cL_law 273 = .ok (.iload_n 3, 1) := dL_law_273_grp.1
theorem dL_law_274 : decode cL_law 274 = .ok (.iconst 2, 1) := dL_law_273_grp.2.1
theorem dL_law_275 : decode cL_law 275 = .ok (.iadd, 1) := dL_law_273_grp.2.2.1
theorem dL_law_276 : decode cL_law 276 = .ok (.iaload, 1) := dL_law_273_grp.2.2.2.1
theorem dL_law_277 : decode cL_law 277 = .ok (.aload_n 0, 1) := dL_law_273_grp.2.2.2.2.1
theorem dL_law_278 : decode cL_law 278 = .ok (.iload_n 3, 1) := dL_law_273_grp.2.2.2.2.2.1
theorem dL_law_279 : decode cL_law 279 = .ok (.iconst 3, 1) := dL_law_273_grp.2.2.2.2.2.2.1
theorem dL_law_280 : decode cL_law 280 = .ok (.iadd, 1) := dL_law_273_grp.2.2.2.2.2.2.2.1
theorem dL_law_281 : decode cL_law 281 = .ok (.iaload, 1) := dL_law_273_grp.2.2.2.2.2.2.2.2
theorem dL_law_282_grp : (decode cL_law 282 = .ok (.aload_n 0, 1)) ∧ (decode cL_law 283 = .ok (.iload_n 3, 1)) ∧ (decode cL_law 284 = .ok (.iconst 4, 1)) ∧ (decode cL_law 285 = .ok (.iadd, 1)) ∧ (decode cL_law 286 = .ok (.iaload, 1)) ∧ (decode cL_law 287 = .ok (.invokevirtual 23, 3)) ∧ (decode cL_law 290 = .ok (.pop, 1)) ∧ (decode cL_law 291 = .ok (.aload_n 2, 1)) ∧ (decode cL_law 292 = .ok (.aload_n 0, 1)) := by decide +kernel
theorem dL_law_282 : decode cL_law 282 = .ok (.aload_n 0, 1) := dL_law_282_grp.1
theorem dL_law_283 : decode cL_law 283 = .ok (.iload_n 3, 1) := dL_law_282_grp.2.1
theorem dL_law_284 : decode cL_law 284 = .ok (.iconst 4, 1) := dL_law_282_grp.2.2.1
theorem dL_law_285 : decode cL_law 285 = .ok (.iadd, 1) := dL_law_282_grp.2.2.2.1
theorem dL_law_286 : decode cL_law 286 = .ok (.iaload, 1) := dL_law_282_grp.2.2.2.2.1
theorem dL_law_287 : decode cL_law 287 = .ok (.invokevirtual 23, 3) := dL_law_282_grp.2.2.2.2.2.1
theorem dL_law_290 : decode cL_law 290 = .ok (.pop, 1) := dL_law_282_grp.2.2.2.2.2.2.1
theorem dL_law_291 : decode cL_law 291 = .ok (.aload_n 2, 1) := dL_law_282_grp.2.2.2.2.2.2.2.1
theorem dL_law_292 : decode cL_law 292 = .ok (.aload_n 0, 1) := dL_law_282_grp.2.2.2.2.2.2.2.2
theorem dL_law_293_grp : (decode cL_law 293 = .ok (.iload_n 3, 1)) ∧ (decode cL_law 294 = .ok (.iconst 1, 1)) ∧ (decode cL_law 295 = .ok (.iadd, 1)) ∧ (decode cL_law 296 = .ok (.iaload, 1)) ∧ (decode cL_law 297 = .ok (.aload_n 0, 1)) ∧ (decode cL_law 298 = .ok (.iload_n 3, 1)) ∧ (decode cL_law 299 = .ok (.iconst 2, 1)) ∧ (decode cL_law 300 = .ok (.iadd, 1)) ∧ (decode cL_law 301 = .ok (.iaload, 1)) := by decide +kernel
theorem dL_law_293 : decode cL_law 293 = .ok (.iload_n 3, 1) := dL_law_293_grp.1
theorem dL_law_294 : decode cL_law 294 = .ok (.iconst 1, 1) := dL_law_293_grp.2.1
theorem dL_law_295 : decode cL_law 295 = .ok (.iadd, 1) := dL_law_293_grp.2.2.1
theorem dL_law_296 : decode cL_law 296 = .ok (.iaload, 1) := dL_law_293_grp.2.2.2.1
theorem dL_law_297 : decode cL_law 297 = .ok (.aload_n 0, 1) := dL_law_293_grp.2.2.2.2.1
theorem dL_law_298 : decode cL_law 298 = .ok (.iload_n 3, 1) := dL_law_293_grp.2.2.2.2.2.1
theorem dL_law_299 : decode cL_law 299 = .ok (.iconst 2, 1) := dL_law_293_grp.2.2.2.2.2.2.1
theorem dL_law_300 : decode cL_law 300 = .ok (.iadd, 1) := dL_law_293_grp.2.2.2.2.2.2.2.1
theorem dL_law_301 : decode cL_law 301 = .ok (.iaload, 1) := dL_law_293_grp.2.2.2.2.2.2.2.2
theorem dL_law_302_grp : (decode cL_law 302 = .ok (.aload_n 0, 1)) ∧ (decode cL_law 303 = .ok (.iload_n 3, 1)) ∧ (decode cL_law 304 = .ok (.iconst 3, 1)) ∧ (decode cL_law 305 = .ok (.iadd, 1)) ∧ (decode cL_law 306 = .ok (.iaload, 1)) ∧ (decode cL_law 307 = .ok (.aload_n 0, 1)) ∧ (decode cL_law 308 = .ok (.iload_n 3, 1)) ∧ (decode cL_law 309 = .ok (.iconst 4, 1)) ∧ (decode cL_law 310 = .ok (.iadd, 1)) := by decide +kernel
theorem dL_law_302 : decode cL_law 302 = .ok (.aload_n 0, 1) := dL_law_302_grp.1
theorem dL_law_303 : decode cL_law 303 = .ok (.iload_n 3, 1) := dL_law_302_grp.2.1
theorem dL_law_304 : decode cL_law 304 = .ok (.iconst 3, 1) := dL_law_302_grp.2.2.1
theorem dL_law_305 : decode cL_law 305 = .ok (.iadd, 1) := dL_law_302_grp.2.2.2.1
theorem dL_law_306 : decode cL_law 306 = .ok (.iaload, 1) := dL_law_302_grp.2.2.2.2.1
theorem dL_law_307 : decode cL_law 307 = .ok (.aload_n 0, 1) := dL_law_302_grp.2.2.2.2.2.1
theorem dL_law_308 : decode cL_law 308 = .ok (.iload_n 3, 1) := dL_law_302_grp.2.2.2.2.2.2.1
theorem dL_law_309 : decode cL_law 309 = .ok (.iconst 4, 1) := dL_law_302_grp.2.2.2.2.2.2.2.1
theorem dL_law_310 : decode cL_law 310 = .ok (.iadd, 1) := dL_law_302_grp.2.2.2.2.2.2.2.2
theorem dL_law_311_grp : (decode cL_law 311 = .ok (.iaload, 1)) ∧ (decode cL_law 312 = .ok (.invokevirtual 27, 3)) ∧ (decode cL_law 315 = .ok (.pop, 1)) ∧ (decode cL_law 316 = .ok (.goto 1047, 3)) ∧ (decode cL_law 319 = .ok (.aload_n 1, 1)) ∧ (decode cL_law 320 = .ok (.aload_n 0, 1)) ∧ (decode cL_law 321 = .ok (.iload_n 3, 1)) ∧ (decode cL_law 322 = .ok (.iconst 1, 1)) ∧ (decode cL_law 323 = .ok (.iadd, 1)) := by decide +kernel
theorem dL_law_311 : decode cL_law 311 = .ok (.iaload, 1) := dL_law_311_grp.1
theorem dL_law_312 : decode cL_law 312 = .ok (.invokevirtual 27, 3) := dL_law_311_grp.2.1
theorem dL_law_315 : decode cL_law 315 = .ok (.pop, 1) := dL_law_311_grp.2.2.1
theorem dL_law_316 : decode cL_law 316 = .ok (.goto 1047, 3) := dL_law_311_grp.2.2.2.1
theorem dL_law_319 : decode cL_law 319 = .ok (.aload_n 1, 1) := dL_law_311_grp.2.2.2.2.1
theorem dL_law_320 : decode cL_law 320 = .ok (.aload_n 0, 1) := dL_law_311_grp.2.2.2.2.2.1
theorem dL_law_321 : decode cL_law 321 = .ok (.iload_n 3, 1) := dL_law_311_grp.2.2.2.2.2.2.1
theorem dL_law_322 : decode cL_law 322 = .ok (.iconst 1, 1) := dL_law_311_grp.2.2.2.2.2.2.2.1
theorem dL_law_323 : decode cL_law 323 = .ok (.iadd, 1) := dL_law_311_grp.2.2.2.2.2.2.2.2
theorem dL_law_324_grp : (decode cL_law 324 = .ok (.iaload, 1)) ∧ (decode cL_law 325 = .ok (.aload_n 0, 1)) ∧ (decode cL_law 326 = .ok (.iload_n 3, 1)) ∧ (decode cL_law 327 = .ok (.iconst 2, 1)) ∧ (decode cL_law 328 = .ok (.iadd, 1)) ∧ (decode cL_law 329 = .ok (.iaload, 1)) ∧ (decode cL_law 330 = .ok (.aload_n 0, 1)) ∧ (decode cL_law 331 = .ok (.iload_n 3, 1)) ∧ (decode cL_law 332 = .ok (.iconst 3, 1)) := by decide +kernel
theorem dL_law_324 : decode cL_law 324 = .ok (.iaload, 1) := dL_law_324_grp.1
theorem dL_law_325 : decode cL_law 325 = .ok (.aload_n 0, 1) := dL_law_324_grp.2.1
theorem dL_law_326 : decode cL_law 326 = .ok (.iload_n 3, 1) := dL_law_324_grp.2.2.1
theorem dL_law_327 : decode cL_law 327 = .ok (.iconst 2, 1) := dL_law_324_grp.2.2.2.1
theorem dL_law_328 : decode cL_law 328 = .ok (.iadd, 1) := dL_law_324_grp.2.2.2.2.1
theorem dL_law_329 : decode cL_law 329 = .ok (.iaload, 1) := dL_law_324_grp.2.2.2.2.2.1
theorem dL_law_330 : decode cL_law 330 = .ok (.aload_n 0, 1) := dL_law_324_grp.2.2.2.2.2.2.1
theorem dL_law_331 : decode cL_law 331 = .ok (.iload_n 3, 1) := dL_law_324_grp.2.2.2.2.2.2.2.1
theorem dL_law_332 : decode cL_law 332 = .ok (.iconst 3, 1) := dL_law_324_grp.2.2.2.2.2.2.2.2
theorem dL_law_333_grp : (decode cL_law 333 = .ok (.iadd, 1)) ∧ (decode cL_law 334 = .ok (.iaload, 1)) ∧ (decode cL_law 335 = .ok (.aload_n 0, 1)) ∧ (decode cL_law 336 = .ok (.iload_n 3, 1)) ∧ (decode cL_law 337 = .ok (.iconst 4, 1)) ∧ (decode cL_law 338 = .ok (.iadd, 1)) ∧ (decode cL_law 339 = .ok (.iaload, 1)) ∧ (decode cL_law 340 = .ok (.invokevirtual 28, 3)) ∧ (decode cL_law 343 = .ok (.pop, 1)) := by decide +kernel
theorem dL_law_333 : decode cL_law 333 = .ok (.iadd, 1) := dL_law_333_grp.1
theorem dL_law_334 : decode cL_law 334 = .ok (.iaload, 1) := dL_law_333_grp.2.1
theorem dL_law_335 : decode cL_law 335 = .ok (.aload_n 0, 1) := dL_law_333_grp.2.2.1
theorem dL_law_336 : decode cL_law 336 = .ok (.iload_n 3, 1) := dL_law_333_grp.2.2.2.1
theorem dL_law_337 : decode cL_law 337 = .ok (.iconst 4, 1) := dL_law_333_grp.2.2.2.2.1
theorem dL_law_338 : decode cL_law 338 = .ok (.iadd, 1) := dL_law_333_grp.2.2.2.2.2.1
theorem dL_law_339 : decode cL_law 339 = .ok (.iaload, 1) := dL_law_333_grp.2.2.2.2.2.2.1
theorem dL_law_340 : decode cL_law 340 = .ok (.invokevirtual 28, 3) := dL_law_333_grp.2.2.2.2.2.2.2.1
theorem dL_law_343 : decode cL_law 343 = .ok (.pop, 1) := dL_law_333_grp.2.2.2.2.2.2.2.2
theorem dL_law_344_grp : (decode cL_law 344 = .ok (.aload_n 2, 1)) ∧ (decode cL_law 345 = .ok (.aload_n 0, 1)) ∧ (decode cL_law 346 = .ok (.iload_n 3, 1)) ∧ (decode cL_law 347 = .ok (.iconst 1, 1)) ∧ (decode cL_law 348 = .ok (.iadd, 1)) ∧ (decode cL_law 349 = .ok (.iaload, 1)) ∧ (decode cL_law 350 = .ok (.aload_n 0, 1)) ∧ (decode cL_law 351 = .ok (.iload_n 3, 1)) ∧ (decode cL_law 352 = .ok (.iconst 2, 1)) := by decide +kernel
theorem dL_law_344 : decode cL_law 344 = .ok (.aload_n 2, 1) := dL_law_344_grp.1
theorem dL_law_345 : decode cL_law 345 = .ok (.aload_n 0, 1) := dL_law_344_grp.2.1
theorem dL_law_346 : decode cL_law 346 = .ok (.iload_n 3, 1) := dL_law_344_grp.2.2.1
theorem dL_law_347 : decode cL_law 347 = .ok (.iconst 1, 1) := dL_law_344_grp.2.2.2.1
theorem dL_law_348 : decode cL_law 348 = .ok (.iadd, 1) := dL_law_344_grp.2.2.2.2.1
theorem dL_law_349 : decode cL_law 349 = .ok (.iaload, 1) := dL_law_344_grp.2.2.2.2.2.1
theorem dL_law_350 : decode cL_law 350 = .ok (.aload_n 0, 1) := dL_law_344_grp.2.2.2.2.2.2.1
theorem dL_law_351 : decode cL_law 351 = .ok (.iload_n 3, 1) := dL_law_344_grp.2.2.2.2.2.2.2.1
theorem dL_law_352 : decode cL_law 352 = .ok (.iconst 2, 1) := dL_law_344_grp.2.2.2.2.2.2.2.2
theorem dL_law_353_grp : (decode cL_law 353 = .ok (.iadd, 1)) ∧ (decode cL_law 354 = .ok (.iaload, 1)) ∧ (decode cL_law 355 = .ok (.aload_n 0, 1)) ∧ (decode cL_law 356 = .ok (.iload_n 3, 1)) ∧ (decode cL_law 357 = .ok (.iconst 3, 1)) ∧ (decode cL_law 358 = .ok (.iadd, 1)) ∧ (decode cL_law 359 = .ok (.iaload, 1)) ∧ (decode cL_law 360 = .ok (.aload_n 0, 1)) ∧ (decode cL_law 361 = .ok (.iload_n 3, 1)) := by decide +kernel
theorem dL_law_353 : decode cL_law 353 = .ok (.iadd, 1) := dL_law_353_grp.1
theorem dL_law_354 : decode cL_law 354 = .ok (.iaload, 1) := dL_law_353_grp.2.1
theorem dL_law_355 : decode cL_law 355 = .ok (.aload_n 0, 1) := dL_law_353_grp.2.2.1
theorem dL_law_356 : decode cL_law 356 = .ok (.iload_n 3, 1) := dL_law_353_grp.2.2.2.1
theorem dL_law_357 : decode cL_law 357 = .ok (.iconst 3, 1) := dL_law_353_grp.2.2.2.2.1
theorem dL_law_358 : decode cL_law 358 = .ok (.iadd, 1) := dL_law_353_grp.2.2.2.2.2.1
theorem dL_law_359 : decode cL_law 359 = .ok (.iaload, 1) := dL_law_353_grp.2.2.2.2.2.2.1
theorem dL_law_360 : decode cL_law 360 = .ok (.aload_n 0, 1) := dL_law_353_grp.2.2.2.2.2.2.2.1
theorem dL_law_361 : decode cL_law 361 = .ok (.iload_n 3, 1) := dL_law_353_grp.2.2.2.2.2.2.2.2
theorem dL_law_362_grp : (decode cL_law 362 = .ok (.iconst 4, 1)) ∧ (decode cL_law 363 = .ok (.iadd, 1)) ∧ (decode cL_law 364 = .ok (.iaload, 1)) ∧ (decode cL_law 365 = .ok (.invokevirtual 31, 3)) ∧ (decode cL_law 368 = .ok (.pop, 1)) ∧ (decode cL_law 369 = .ok (.goto 994, 3)) ∧ (decode cL_law 372 = .ok (.aload_n 1, 1)) ∧ (decode cL_law 373 = .ok (.aload_n 0, 1)) ∧ (decode cL_law 374 = .ok (.iload_n 3, 1)) := by decide +kernel
theorem dL_law_362 : decode cL_law 362 = .ok (.iconst 4, 1) := dL_law_362_grp.1
theorem dL_law_363 : decode cL_law 363 = .ok (.iadd, 1) := dL_law_362_grp.2.1
theorem dL_law_364 : decode cL_law 364 = .ok (.iaload, 1) := dL_law_362_grp.2.2.1
theorem dL_law_365 : decode cL_law 365 = .ok (.invokevirtual 31, 3) := dL_law_362_grp.2.2.2.1
theorem dL_law_368 : decode cL_law 368 = .ok (.pop, 1) := dL_law_362_grp.2.2.2.2.1
theorem dL_law_369 : decode cL_law 369 = .ok (.goto 994, 3) := dL_law_362_grp.2.2.2.2.2.1
theorem dL_law_372 : decode cL_law 372 = .ok (.aload_n 1, 1) := dL_law_362_grp.2.2.2.2.2.2.1
theorem dL_law_373 : decode cL_law 373 = .ok (.aload_n 0, 1) := dL_law_362_grp.2.2.2.2.2.2.2.1
theorem dL_law_374 : decode cL_law 374 = .ok (.iload_n 3, 1) := dL_law_362_grp.2.2.2.2.2.2.2.2
theorem dL_law_375_grp : (decode cL_law 375 = .ok (.iconst 1, 1)) ∧ (decode cL_law 376 = .ok (.iadd, 1)) ∧ (decode cL_law 377 = .ok (.iaload, 1)) ∧ (decode cL_law 378 = .ok (.aload_n 0, 1)) ∧ (decode cL_law 379 = .ok (.iload_n 3, 1)) ∧ (decode cL_law 380 = .ok (.iconst 2, 1)) ∧ (decode cL_law 381 = .ok (.iadd, 1)) ∧ (decode cL_law 382 = .ok (.iaload, 1)) ∧ (decode cL_law 383 = .ok (.aload_n 0, 1)) := by decide +kernel
theorem dL_law_375 : decode cL_law 375 = .ok (.iconst 1, 1) := dL_law_375_grp.1
theorem dL_law_376 : decode cL_law 376 = .ok (.iadd, 1) := dL_law_375_grp.2.1
theorem dL_law_377 : decode cL_law 377 = .ok (.iaload, 1) := dL_law_375_grp.2.2.1
theorem dL_law_378 : decode cL_law 378 = .ok (.aload_n 0, 1) := dL_law_375_grp.2.2.2.1
theorem dL_law_379 : decode cL_law 379 = .ok (.iload_n 3, 1) := dL_law_375_grp.2.2.2.2.1
theorem dL_law_380 : decode cL_law 380 = .ok (.iconst 2, 1) := dL_law_375_grp.2.2.2.2.2.1
theorem dL_law_381 : decode cL_law 381 = .ok (.iadd, 1) := dL_law_375_grp.2.2.2.2.2.2.1
theorem dL_law_382 : decode cL_law 382 = .ok (.iaload, 1) := dL_law_375_grp.2.2.2.2.2.2.2.1
theorem dL_law_383 : decode cL_law 383 = .ok (.aload_n 0, 1) := dL_law_375_grp.2.2.2.2.2.2.2.2
theorem dL_law_384_grp : (decode cL_law 384 = .ok (.iload_n 3, 1)) ∧ (decode cL_law 385 = .ok (.iconst 3, 1)) ∧ (decode cL_law 386 = .ok (.iadd, 1)) ∧ (decode cL_law 387 = .ok (.iaload, 1)) ∧ (decode cL_law 388 = .ok (.invokevirtual 32, 3)) ∧ (decode cL_law 391 = .ok (.pop, 1)) ∧ (decode cL_law 392 = .ok (.aload_n 2, 1)) ∧ (decode cL_law 393 = .ok (.aload_n 0, 1)) ∧ (decode cL_law 394 = .ok (.iload_n 3, 1)) := by decide +kernel
theorem dL_law_384 : decode cL_law 384 = .ok (.iload_n 3, 1) := dL_law_384_grp.1
theorem dL_law_385 : decode cL_law 385 = .ok (.iconst 3, 1) := dL_law_384_grp.2.1
theorem dL_law_386 : decode cL_law 386 = .ok (.iadd, 1) := dL_law_384_grp.2.2.1
theorem dL_law_387 : decode cL_law 387 = .ok (.iaload, 1) := dL_law_384_grp.2.2.2.1
theorem dL_law_388 : decode cL_law 388 = .ok (.invokevirtual 32, 3) := dL_law_384_grp.2.2.2.2.1
theorem dL_law_391 : decode cL_law 391 = .ok (.pop, 1) := dL_law_384_grp.2.2.2.2.2.1
theorem dL_law_392 : decode cL_law 392 = .ok (.aload_n 2, 1) := dL_law_384_grp.2.2.2.2.2.2.1
theorem dL_law_393 : decode cL_law 393 = .ok (.aload_n 0, 1) := dL_law_384_grp.2.2.2.2.2.2.2.1
theorem dL_law_394 : decode cL_law 394 = .ok (.iload_n 3, 1) := dL_law_384_grp.2.2.2.2.2.2.2.2
theorem dL_law_395_grp : (decode cL_law 395 = .ok (.iconst 1, 1)) ∧ (decode cL_law 396 = .ok (.iadd, 1)) ∧ (decode cL_law 397 = .ok (.iaload, 1)) ∧ (decode cL_law 398 = .ok (.aload_n 0, 1)) ∧ (decode cL_law 399 = .ok (.iload_n 3, 1)) ∧ (decode cL_law 400 = .ok (.iconst 2, 1)) ∧ (decode cL_law 401 = .ok (.iadd, 1)) ∧ (decode cL_law 402 = .ok (.iaload, 1)) ∧ (decode cL_law 403 = .ok (.aload_n 0, 1)) := by decide +kernel
theorem dL_law_395 : decode cL_law 395 = .ok (.iconst 1, 1) := dL_law_395_grp.1
theorem dL_law_396 : decode cL_law 396 = .ok (.iadd, 1) := dL_law_395_grp.2.1
theorem dL_law_397 : decode cL_law 397 = .ok (.iaload, 1) := dL_law_395_grp.2.2.1
theorem dL_law_398 : decode cL_law 398 = .ok (.aload_n 0, 1) := dL_law_395_grp.2.2.2.1
theorem dL_law_399 : decode cL_law 399 = .ok (.iload_n 3, 1) := dL_law_395_grp.2.2.2.2.1
theorem dL_law_400 : decode cL_law 400 = .ok (.iconst 2, 1) := dL_law_395_grp.2.2.2.2.2.1
theorem dL_law_401 : decode cL_law 401 = .ok (.iadd, 1) := dL_law_395_grp.2.2.2.2.2.2.1
theorem dL_law_402 : decode cL_law 402 = .ok (.iaload, 1) := dL_law_395_grp.2.2.2.2.2.2.2.1
theorem dL_law_403 : decode cL_law 403 = .ok (.aload_n 0, 1) := dL_law_395_grp.2.2.2.2.2.2.2.2
theorem dL_law_404_grp : (decode cL_law 404 = .ok (.iload_n 3, 1)) ∧ (decode cL_law 405 = .ok (.iconst 3, 1)) ∧ (decode cL_law 406 = .ok (.iadd, 1)) ∧ (decode cL_law 407 = .ok (.iaload, 1)) ∧ (decode cL_law 408 = .ok (.invokevirtual 36, 3)) ∧ (decode cL_law 411 = .ok (.pop, 1)) ∧ (decode cL_law 412 = .ok (.goto 951, 3)) ∧ (decode cL_law 415 = .ok (.aload_n 1, 1)) ∧ (decode cL_law 416 = .ok (.aload_n 0, 1)) := by decide +kernel
theorem dL_law_404 : decode cL_law 404 = .ok (.iload_n 3, 1) := dL_law_404_grp.1
theorem dL_law_405 : decode cL_law 405 = .ok (.iconst 3, 1) := dL_law_404_grp.2.1
theorem dL_law_406 : decode cL_law 406 = .ok (.iadd, 1) := dL_law_404_grp.2.2.1
theorem dL_law_407 : decode cL_law 407 = .ok (.iaload, 1) := dL_law_404_grp.2.2.2.1
theorem dL_law_408 : decode cL_law 408 = .ok (.invokevirtual 36, 3) := dL_law_404_grp.2.2.2.2.1
theorem dL_law_411 : decode cL_law 411 = .ok (.pop, 1) := dL_law_404_grp.2.2.2.2.2.1
theorem dL_law_412 : decode cL_law 412 = .ok (.goto 951, 3) := dL_law_404_grp.2.2.2.2.2.2.1
theorem dL_law_415 : decode cL_law 415 = .ok (.aload_n 1, 1) := dL_law_404_grp.2.2.2.2.2.2.2.1
theorem dL_law_416 : decode cL_law 416 = .ok (.aload_n 0, 1) := dL_law_404_grp.2.2.2.2.2.2.2.2
theorem dL_law_417_grp : (decode cL_law 417 = .ok (.iload_n 3, 1)) ∧ (decode cL_law 418 = .ok (.iconst 1, 1)) ∧ (decode cL_law 419 = .ok (.iadd, 1)) ∧ (decode cL_law 420 = .ok (.iaload, 1)) ∧ (decode cL_law 421 = .ok (.aload_n 0, 1)) ∧ (decode cL_law 422 = .ok (.iload_n 3, 1)) ∧ (decode cL_law 423 = .ok (.iconst 2, 1)) ∧ (decode cL_law 424 = .ok (.iadd, 1)) ∧ (decode cL_law 425 = .ok (.iaload, 1)) := by decide +kernel
theorem dL_law_417 : decode cL_law 417 = .ok (.iload_n 3, 1) := dL_law_417_grp.1
theorem dL_law_418 : decode cL_law 418 = .ok (.iconst 1, 1) := dL_law_417_grp.2.1
theorem dL_law_419 : decode cL_law 419 = .ok (.iadd, 1) := dL_law_417_grp.2.2.1
theorem dL_law_420 : decode cL_law 420 = .ok (.iaload, 1) := dL_law_417_grp.2.2.2.1
theorem dL_law_421 : decode cL_law 421 = .ok (.aload_n 0, 1) := dL_law_417_grp.2.2.2.2.1
theorem dL_law_422 : decode cL_law 422 = .ok (.iload_n 3, 1) := dL_law_417_grp.2.2.2.2.2.1
theorem dL_law_423 : decode cL_law 423 = .ok (.iconst 2, 1) := dL_law_417_grp.2.2.2.2.2.2.1
theorem dL_law_424 : decode cL_law 424 = .ok (.iadd, 1) := dL_law_417_grp.2.2.2.2.2.2.2.1
theorem dL_law_425 : decode cL_law 425 = .ok (.iaload, 1) := dL_law_417_grp.2.2.2.2.2.2.2.2
theorem dL_law_426_grp : (decode cL_law 426 = .ok (.aload_n 0, 1)) ∧ (decode cL_law 427 = .ok (.iload_n 3, 1)) ∧ (decode cL_law 428 = .ok (.iconst 3, 1)) ∧ (decode cL_law 429 = .ok (.iadd, 1)) ∧ (decode cL_law 430 = .ok (.iaload, 1)) ∧ (decode cL_law 431 = .ok (.invokevirtual 37, 3)) ∧ (decode cL_law 434 = .ok (.pop, 1)) ∧ (decode cL_law 435 = .ok (.aload_n 2, 1)) ∧ (decode cL_law 436 = .ok (.aload_n 0, 1)) := by decide +kernel
theorem dL_law_426 : decode cL_law 426 = .ok (.aload_n 0, 1) := dL_law_426_grp.1
theorem dL_law_427 : decode cL_law 427 = .ok (.iload_n 3, 1) := dL_law_426_grp.2.1
theorem dL_law_428 : decode cL_law 428 = .ok (.iconst 3, 1) := dL_law_426_grp.2.2.1
theorem dL_law_429 : decode cL_law 429 = .ok (.iadd, 1) := dL_law_426_grp.2.2.2.1
theorem dL_law_430 : decode cL_law 430 = .ok (.iaload, 1) := dL_law_426_grp.2.2.2.2.1
theorem dL_law_431 : decode cL_law 431 = .ok (.invokevirtual 37, 3) := dL_law_426_grp.2.2.2.2.2.1
theorem dL_law_434 : decode cL_law 434 = .ok (.pop, 1) := dL_law_426_grp.2.2.2.2.2.2.1
theorem dL_law_435 : decode cL_law 435 = .ok (.aload_n 2, 1) := dL_law_426_grp.2.2.2.2.2.2.2.1
theorem dL_law_436 : decode cL_law 436 = .ok (.aload_n 0, 1) := dL_law_426_grp.2.2.2.2.2.2.2.2
theorem dL_law_437_grp : (decode cL_law 437 = .ok (.iload_n 3, 1)) ∧ (decode cL_law 438 = .ok (.iconst 1, 1)) ∧ (decode cL_law 439 = .ok (.iadd, 1)) ∧ (decode cL_law 440 = .ok (.iaload, 1)) ∧ (decode cL_law 441 = .ok (.aload_n 0, 1)) ∧ (decode cL_law 442 = .ok (.iload_n 3, 1)) ∧ (decode cL_law 443 = .ok (.iconst 2, 1)) ∧ (decode cL_law 444 = .ok (.iadd, 1)) ∧ (decode cL_law 445 = .ok (.iaload, 1)) := by decide +kernel
theorem dL_law_437 : decode cL_law 437 = .ok (.iload_n 3, 1) := dL_law_437_grp.1
theorem dL_law_438 : decode cL_law 438 = .ok (.iconst 1, 1) := dL_law_437_grp.2.1
theorem dL_law_439 : decode cL_law 439 = .ok (.iadd, 1) := dL_law_437_grp.2.2.1
theorem dL_law_440 : decode cL_law 440 = .ok (.iaload, 1) := dL_law_437_grp.2.2.2.1
theorem dL_law_441 : decode cL_law 441 = .ok (.aload_n 0, 1) := dL_law_437_grp.2.2.2.2.1
theorem dL_law_442 : decode cL_law 442 = .ok (.iload_n 3, 1) := dL_law_437_grp.2.2.2.2.2.1
theorem dL_law_443 : decode cL_law 443 = .ok (.iconst 2, 1) := dL_law_437_grp.2.2.2.2.2.2.1
theorem dL_law_444 : decode cL_law 444 = .ok (.iadd, 1) := dL_law_437_grp.2.2.2.2.2.2.2.1
theorem dL_law_445 : decode cL_law 445 = .ok (.iaload, 1) := dL_law_437_grp.2.2.2.2.2.2.2.2
theorem dL_law_446_grp : (decode cL_law 446 = .ok (.aload_n 0, 1)) ∧ (decode cL_law 447 = .ok (.iload_n 3, 1)) ∧ (decode cL_law 448 = .ok (.iconst 3, 1)) ∧ (decode cL_law 449 = .ok (.iadd, 1)) ∧ (decode cL_law 450 = .ok (.iaload, 1)) ∧ (decode cL_law 451 = .ok (.invokevirtual 40, 3)) ∧ (decode cL_law 454 = .ok (.pop, 1)) ∧ (decode cL_law 455 = .ok (.goto 908, 3)) ∧ (decode cL_law 458 = .ok (.aload_n 1, 1)) := by decide +kernel
theorem dL_law_446 : decode cL_law 446 = .ok (.aload_n 0, 1) := dL_law_446_grp.1
theorem dL_law_447 : decode cL_law 447 = .ok (.iload_n 3, 1) := dL_law_446_grp.2.1
theorem dL_law_448 : decode cL_law 448 = .ok (.iconst 3, 1) := dL_law_446_grp.2.2.1
theorem dL_law_449 : decode cL_law 449 = .ok (.iadd, 1) := dL_law_446_grp.2.2.2.1
theorem dL_law_450 : decode cL_law 450 = .ok (.iaload, 1) := dL_law_446_grp.2.2.2.2.1
theorem dL_law_451 : decode cL_law 451 = .ok (.invokevirtual 40, 3) := dL_law_446_grp.2.2.2.2.2.1
theorem dL_law_454 : decode cL_law 454 = .ok (.pop, 1) := dL_law_446_grp.2.2.2.2.2.2.1
theorem dL_law_455 : decode cL_law 455 = .ok (.goto 908, 3) := dL_law_446_grp.2.2.2.2.2.2.2.1
theorem dL_law_458 : decode cL_law 458 = .ok (.aload_n 1, 1) := dL_law_446_grp.2.2.2.2.2.2.2.2
theorem dL_law_459_grp : (decode cL_law 459 = .ok (.aload_n 0, 1)) ∧ (decode cL_law 460 = .ok (.iload_n 3, 1)) ∧ (decode cL_law 461 = .ok (.iconst 1, 1)) ∧ (decode cL_law 462 = .ok (.iadd, 1)) ∧ (decode cL_law 463 = .ok (.iaload, 1)) ∧ (decode cL_law 464 = .ok (.aload_n 0, 1)) ∧ (decode cL_law 465 = .ok (.iload_n 3, 1)) ∧ (decode cL_law 466 = .ok (.iconst 2, 1)) ∧ (decode cL_law 467 = .ok (.iadd, 1)) := by decide +kernel
theorem dL_law_459 : decode cL_law 459 = .ok (.aload_n 0, 1) := dL_law_459_grp.1
theorem dL_law_460 : decode cL_law 460 = .ok (.iload_n 3, 1) := dL_law_459_grp.2.1
theorem dL_law_461 : decode cL_law 461 = .ok (.iconst 1, 1) := dL_law_459_grp.2.2.1
theorem dL_law_462 : decode cL_law 462 = .ok (.iadd, 1) := dL_law_459_grp.2.2.2.1
theorem dL_law_463 : decode cL_law 463 = .ok (.iaload, 1) := dL_law_459_grp.2.2.2.2.1
theorem dL_law_464 : decode cL_law 464 = .ok (.aload_n 0, 1) := dL_law_459_grp.2.2.2.2.2.1
theorem dL_law_465 : decode cL_law 465 = .ok (.iload_n 3, 1) := dL_law_459_grp.2.2.2.2.2.2.1
theorem dL_law_466 : decode cL_law 466 = .ok (.iconst 2, 1) := dL_law_459_grp.2.2.2.2.2.2.2.1
theorem dL_law_467 : decode cL_law 467 = .ok (.iadd, 1) := dL_law_459_grp.2.2.2.2.2.2.2.2
theorem dL_law_468_grp : (decode cL_law 468 = .ok (.iaload, 1)) ∧ (decode cL_law 469 = .ok (.aload_n 0, 1)) ∧ (decode cL_law 470 = .ok (.iload_n 3, 1)) ∧ (decode cL_law 471 = .ok (.iconst 3, 1)) ∧ (decode cL_law 472 = .ok (.iadd, 1)) ∧ (decode cL_law 473 = .ok (.iaload, 1)) ∧ (decode cL_law 474 = .ok (.aload_n 0, 1)) ∧ (decode cL_law 475 = .ok (.iload_n 3, 1)) ∧ (decode cL_law 476 = .ok (.iconst 4, 1)) := by decide +kernel
theorem dL_law_468 : decode cL_law 468 = .ok (.iaload, 1) := dL_law_468_grp.1
theorem dL_law_469 : decode cL_law 469 = .ok (.aload_n 0, 1) := dL_law_468_grp.2.1
theorem dL_law_470 : decode cL_law 470 = .ok (.iload_n 3, 1) := dL_law_468_grp.2.2.1
theorem dL_law_471 : decode cL_law 471 = .ok (.iconst 3, 1) := dL_law_468_grp.2.2.2.1
theorem dL_law_472 : decode cL_law 472 = .ok (.iadd, 1) := dL_law_468_grp.2.2.2.2.1
theorem dL_law_473 : decode cL_law 473 = .ok (.iaload, 1) := dL_law_468_grp.2.2.2.2.2.1
theorem dL_law_474 : decode cL_law 474 = .ok (.aload_n 0, 1) := dL_law_468_grp.2.2.2.2.2.2.1
theorem dL_law_475 : decode cL_law 475 = .ok (.iload_n 3, 1) := dL_law_468_grp.2.2.2.2.2.2.2.1
theorem dL_law_476 : decode cL_law 476 = .ok (.iconst 4, 1) := dL_law_468_grp.2.2.2.2.2.2.2.2
theorem dL_law_477_grp : (decode cL_law 477 = .ok (.iadd, 1)) ∧ (decode cL_law 478 = .ok (.iaload, 1)) ∧ (decode cL_law 479 = .ok (.aload_n 0, 1)) ∧ (decode cL_law 480 = .ok (.iload_n 3, 1)) ∧ (decode cL_law 481 = .ok (.iconst 5, 1)) ∧ (decode cL_law 482 = .ok (.iadd, 1)) ∧ (decode cL_law 483 = .ok (.iaload, 1)) ∧ (decode cL_law 484 = .ok (.aload_n 0, 1)) ∧ (decode cL_law 485 = .ok (.iload_n 3, 1)) := by decide +kernel
theorem dL_law_477 : decode cL_law 477 = .ok (.iadd, 1) := dL_law_477_grp.1
theorem dL_law_478 : decode cL_law 478 = .ok (.iaload, 1) := dL_law_477_grp.2.1
theorem dL_law_479 : decode cL_law 479 = .ok (.aload_n 0, 1) := dL_law_477_grp.2.2.1
theorem dL_law_480 : decode cL_law 480 = .ok (.iload_n 3, 1) := dL_law_477_grp.2.2.2.1
theorem dL_law_481 : decode cL_law 481 = .ok (.iconst 5, 1) := dL_law_477_grp.2.2.2.2.1
theorem dL_law_482 : decode cL_law 482 = .ok (.iadd, 1) := dL_law_477_grp.2.2.2.2.2.1
theorem dL_law_483 : decode cL_law 483 = .ok (.iaload, 1) := dL_law_477_grp.2.2.2.2.2.2.1
theorem dL_law_484 : decode cL_law 484 = .ok (.aload_n 0, 1) := dL_law_477_grp.2.2.2.2.2.2.2.1
theorem dL_law_485 : decode cL_law 485 = .ok (.iload_n 3, 1) := dL_law_477_grp.2.2.2.2.2.2.2.2
theorem dL_law_486_grp : (decode cL_law 486 = .ok (.bipush 6, 2)) ∧ (decode cL_law 488 = .ok (.iadd, 1)) ∧ (decode cL_law 489 = .ok (.iaload, 1)) ∧ (decode cL_law 490 = .ok (.ifCond .eq 7, 3)) ∧ (decode cL_law 493 = .ok (.iconst 1, 1)) ∧ (decode cL_law 494 = .ok (.goto 4, 3)) ∧ (decode cL_law 497 = .ok (.iconst 0, 1)) ∧ (decode cL_law 498 = .ok (.invokevirtual 41, 3)) ∧ (decode cL_law 501 = .ok (.pop, 1)) := by decide +kernel
theorem dL_law_486 : decode cL_law 486 = .ok (.bipush 6, 2) := dL_law_486_grp.1
theorem dL_law_488 : decode cL_law 488 = .ok (.iadd, 1) := dL_law_486_grp.2.1
theorem dL_law_489 : decode cL_law 489 = .ok (.iaload, 1) := dL_law_486_grp.2.2.1
theorem dL_law_490 : decode cL_law 490 = .ok (.ifCond .eq 7, 3) := dL_law_486_grp.2.2.2.1
theorem dL_law_493 : decode cL_law 493 = .ok (.iconst 1, 1) := dL_law_486_grp.2.2.2.2.1
theorem dL_law_494 : decode cL_law 494 = .ok (.goto 4, 3) := dL_law_486_grp.2.2.2.2.2.1
theorem dL_law_497 : decode cL_law 497 = .ok (.iconst 0, 1) := dL_law_486_grp.2.2.2.2.2.2.1
theorem dL_law_498 : decode cL_law 498 = .ok (.invokevirtual 41, 3) := dL_law_486_grp.2.2.2.2.2.2.2.1
theorem dL_law_501 : decode cL_law 501 = .ok (.pop, 1) := dL_law_486_grp.2.2.2.2.2.2.2.2
theorem dL_law_502_grp : (decode cL_law 502 = .ok (.aload_n 2, 1)) ∧ (decode cL_law 503 = .ok (.aload_n 0, 1)) ∧ (decode cL_law 504 = .ok (.iload_n 3, 1)) ∧ (decode cL_law 505 = .ok (.iconst 1, 1)) ∧ (decode cL_law 506 = .ok (.iadd, 1)) ∧ (decode cL_law 507 = .ok (.iaload, 1)) ∧ (decode cL_law 508 = .ok (.aload_n 0, 1)) ∧ (decode cL_law 509 = .ok (.iload_n 3, 1)) ∧ (decode cL_law 510 = .ok (.iconst 2, 1)) := by decide +kernel
theorem dL_law_502 : decode cL_law 502 = .ok (.aload_n 2, 1) := dL_law_502_grp.1
theorem dL_law_503 : decode cL_law 503 = .ok (.aload_n 0, 1) := dL_law_502_grp.2.1
theorem dL_law_504 : decode cL_law 504 = .ok (.iload_n 3, 1) := dL_law_502_grp.2.2.1
theorem dL_law_505 : decode cL_law 505 = .ok (.iconst 1, 1) := dL_law_502_grp.2.2.2.1
theorem dL_law_506 : decode cL_law 506 = .ok (.iadd, 1) := dL_law_502_grp.2.2.2.2.1
theorem dL_law_507 : decode cL_law 507 = .ok (.iaload, 1) := dL_law_502_grp.2.2.2.2.2.1
theorem dL_law_508 : decode cL_law 508 = .ok (.aload_n 0, 1) := dL_law_502_grp.2.2.2.2.2.2.1
theorem dL_law_509 : decode cL_law 509 = .ok (.iload_n 3, 1) := dL_law_502_grp.2.2.2.2.2.2.2.1
theorem dL_law_510 : decode cL_law 510 = .ok (.iconst 2, 1) := dL_law_502_grp.2.2.2.2.2.2.2.2
theorem dL_law_511_grp : (decode cL_law 511 = .ok (.iadd, 1)) ∧ (decode cL_law 512 = .ok (.iaload, 1)) ∧ (decode cL_law 513 = .ok (.aload_n 0, 1)) ∧ (decode cL_law 514 = .ok (.iload_n 3, 1)) ∧ (decode cL_law 515 = .ok (.iconst 3, 1)) ∧ (decode cL_law 516 = .ok (.iadd, 1)) ∧ (decode cL_law 517 = .ok (.iaload, 1)) ∧ (decode cL_law 518 = .ok (.aload_n 0, 1)) ∧ (decode cL_law 519 = .ok (.iload_n 3, 1)) := by decide +kernel
theorem dL_law_511 : decode cL_law 511 = .ok (.iadd, 1) := dL_law_511_grp.1
theorem dL_law_512 : decode cL_law 512 = .ok (.iaload, 1) := dL_law_511_grp.2.1
theorem dL_law_513 : decode cL_law 513 = .ok (.aload_n 0, 1) := dL_law_511_grp.2.2.1
theorem dL_law_514 : decode cL_law 514 = .ok (.iload_n 3, 1) := dL_law_511_grp.2.2.2.1
theorem dL_law_515 : decode cL_law 515 = .ok (.iconst 3, 1) := dL_law_511_grp.2.2.2.2.1
theorem dL_law_516 : decode cL_law 516 = .ok (.iadd, 1) := dL_law_511_grp.2.2.2.2.2.1
theorem dL_law_517 : decode cL_law 517 = .ok (.iaload, 1) := dL_law_511_grp.2.2.2.2.2.2.1
theorem dL_law_518 : decode cL_law 518 = .ok (.aload_n 0, 1) := dL_law_511_grp.2.2.2.2.2.2.2.1
theorem dL_law_519 : decode cL_law 519 = .ok (.iload_n 3, 1) := dL_law_511_grp.2.2.2.2.2.2.2.2
theorem dL_law_520_grp : (decode cL_law 520 = .ok (.iconst 4, 1)) ∧ (decode cL_law 521 = .ok (.iadd, 1)) ∧ (decode cL_law 522 = .ok (.iaload, 1)) ∧ (decode cL_law 523 = .ok (.aload_n 0, 1)) ∧ (decode cL_law 524 = .ok (.iload_n 3, 1)) ∧ (decode cL_law 525 = .ok (.iconst 5, 1)) ∧ (decode cL_law 526 = .ok (.iadd, 1)) ∧ (decode cL_law 527 = .ok (.iaload, 1)) ∧ (decode cL_law 528 = .ok (.aload_n 0, 1)) := by decide +kernel
theorem dL_law_520 : decode cL_law 520 = .ok (.iconst 4, 1) := dL_law_520_grp.1
theorem dL_law_521 : decode cL_law 521 = .ok (.iadd, 1) := dL_law_520_grp.2.1
theorem dL_law_522 : decode cL_law 522 = .ok (.iaload, 1) := dL_law_520_grp.2.2.1
theorem dL_law_523 : decode cL_law 523 = .ok (.aload_n 0, 1) := dL_law_520_grp.2.2.2.1
theorem dL_law_524 : decode cL_law 524 = .ok (.iload_n 3, 1) := dL_law_520_grp.2.2.2.2.1
theorem dL_law_525 : decode cL_law 525 = .ok (.iconst 5, 1) := dL_law_520_grp.2.2.2.2.2.1
theorem dL_law_526 : decode cL_law 526 = .ok (.iadd, 1) := dL_law_520_grp.2.2.2.2.2.2.1
theorem dL_law_527 : decode cL_law 527 = .ok (.iaload, 1) := dL_law_520_grp.2.2.2.2.2.2.2.1
theorem dL_law_528 : decode cL_law 528 = .ok (.aload_n 0, 1) := dL_law_520_grp.2.2.2.2.2.2.2.2
theorem dL_law_529_grp : (decode cL_law 529 = .ok (.iload_n 3, 1)) ∧ (decode cL_law 530 = .ok (.bipush 6, 2)) ∧ (decode cL_law 532 = .ok (.iadd, 1)) ∧ (decode cL_law 533 = .ok (.iaload, 1)) ∧ (decode cL_law 534 = .ok (.ifCond .eq 7, 3)) ∧ (decode cL_law 537 = .ok (.iconst 1, 1)) ∧ (decode cL_law 538 = .ok (.goto 4, 3)) ∧ (decode cL_law 541 = .ok (.iconst 0, 1)) ∧ (decode cL_law 542 = .ok (.invokevirtual 45, 3)) := by decide +kernel
theorem dL_law_529 : decode cL_law 529 = .ok (.iload_n 3, 1) := dL_law_529_grp.1
theorem dL_law_530 : decode cL_law 530 = .ok (.bipush 6, 2) := dL_law_529_grp.2.1
theorem dL_law_532 : decode cL_law 532 = .ok (.iadd, 1) := dL_law_529_grp.2.2.1
theorem dL_law_533 : decode cL_law 533 = .ok (.iaload, 1) := dL_law_529_grp.2.2.2.1
theorem dL_law_534 : decode cL_law 534 = .ok (.ifCond .eq 7, 3) := dL_law_529_grp.2.2.2.2.1
theorem dL_law_537 : decode cL_law 537 = .ok (.iconst 1, 1) := dL_law_529_grp.2.2.2.2.2.1
theorem dL_law_538 : decode cL_law 538 = .ok (.goto 4, 3) := dL_law_529_grp.2.2.2.2.2.2.1
theorem dL_law_541 : decode cL_law 541 = .ok (.iconst 0, 1) := dL_law_529_grp.2.2.2.2.2.2.2.1
theorem dL_law_542 : decode cL_law 542 = .ok (.invokevirtual 45, 3) := dL_law_529_grp.2.2.2.2.2.2.2.2
theorem dL_law_545_grp : (decode cL_law 545 = .ok (.pop, 1)) ∧ (decode cL_law 546 = .ok (.goto 817, 3)) ∧ (decode cL_law 549 = .ok (.aload_n 1, 1)) ∧ (decode cL_law 550 = .ok (.aload_n 0, 1)) ∧ (decode cL_law 551 = .ok (.iload_n 3, 1)) ∧ (decode cL_law 552 = .ok (.iconst 1, 1)) ∧ (decode cL_law 553 = .ok (.iadd, 1)) ∧ (decode cL_law 554 = .ok (.iaload, 1)) ∧ (decode cL_law 555 = .ok (.aload_n 0, 1)) := by decide +kernel
theorem dL_law_545 : decode cL_law 545 = .ok (.pop, 1) := dL_law_545_grp.1
theorem dL_law_546 : decode cL_law 546 = .ok (.goto 817, 3) := dL_law_545_grp.2.1
theorem dL_law_549 : decode cL_law 549 = .ok (.aload_n 1, 1) := dL_law_545_grp.2.2.1
theorem dL_law_550 : decode cL_law 550 = .ok (.aload_n 0, 1) := dL_law_545_grp.2.2.2.1
theorem dL_law_551 : decode cL_law 551 = .ok (.iload_n 3, 1) := dL_law_545_grp.2.2.2.2.1
theorem dL_law_552 : decode cL_law 552 = .ok (.iconst 1, 1) := dL_law_545_grp.2.2.2.2.2.1
theorem dL_law_553 : decode cL_law 553 = .ok (.iadd, 1) := dL_law_545_grp.2.2.2.2.2.2.1
theorem dL_law_554 : decode cL_law 554 = .ok (.iaload, 1) := dL_law_545_grp.2.2.2.2.2.2.2.1
theorem dL_law_555 : decode cL_law 555 = .ok (.aload_n 0, 1) := dL_law_545_grp.2.2.2.2.2.2.2.2
theorem dL_law_556_grp : (decode cL_law 556 = .ok (.iload_n 3, 1)) ∧ (decode cL_law 557 = .ok (.iconst 2, 1)) ∧ (decode cL_law 558 = .ok (.iadd, 1)) ∧ (decode cL_law 559 = .ok (.iaload, 1)) ∧ (decode cL_law 560 = .ok (.aload_n 0, 1)) ∧ (decode cL_law 561 = .ok (.iload_n 3, 1)) ∧ (decode cL_law 562 = .ok (.iconst 3, 1)) ∧ (decode cL_law 563 = .ok (.iadd, 1)) ∧ (decode cL_law 564 = .ok (.iaload, 1)) := by decide +kernel
theorem dL_law_556 : decode cL_law 556 = .ok (.iload_n 3, 1) := dL_law_556_grp.1
theorem dL_law_557 : decode cL_law 557 = .ok (.iconst 2, 1) := dL_law_556_grp.2.1
theorem dL_law_558 : decode cL_law 558 = .ok (.iadd, 1) := dL_law_556_grp.2.2.1
theorem dL_law_559 : decode cL_law 559 = .ok (.iaload, 1) := dL_law_556_grp.2.2.2.1
theorem dL_law_560 : decode cL_law 560 = .ok (.aload_n 0, 1) := dL_law_556_grp.2.2.2.2.1
theorem dL_law_561 : decode cL_law 561 = .ok (.iload_n 3, 1) := dL_law_556_grp.2.2.2.2.2.1
theorem dL_law_562 : decode cL_law 562 = .ok (.iconst 3, 1) := dL_law_556_grp.2.2.2.2.2.2.1
theorem dL_law_563 : decode cL_law 563 = .ok (.iadd, 1) := dL_law_556_grp.2.2.2.2.2.2.2.1
theorem dL_law_564 : decode cL_law 564 = .ok (.iaload, 1) := dL_law_556_grp.2.2.2.2.2.2.2.2
theorem dL_law_565_grp : (decode cL_law 565 = .ok (.aload_n 0, 1)) ∧ (decode cL_law 566 = .ok (.iload_n 3, 1)) ∧ (decode cL_law 567 = .ok (.iconst 4, 1)) ∧ (decode cL_law 568 = .ok (.iadd, 1)) ∧ (decode cL_law 569 = .ok (.iaload, 1)) ∧ (decode cL_law 570 = .ok (.aload_n 0, 1)) ∧ (decode cL_law 571 = .ok (.iload_n 3, 1)) ∧ (decode cL_law 572 = .ok (.iconst 5, 1)) ∧ (decode cL_law 573 = .ok (.iadd, 1)) := by decide +kernel
theorem dL_law_565 : decode cL_law 565 = .ok (.aload_n 0, 1) := dL_law_565_grp.1
theorem dL_law_566 : decode cL_law 566 = .ok (.iload_n 3, 1) := dL_law_565_grp.2.1
theorem dL_law_567 : decode cL_law 567 = .ok (.iconst 4, 1) := dL_law_565_grp.2.2.1
theorem dL_law_568 : decode cL_law 568 = .ok (.iadd, 1) := dL_law_565_grp.2.2.2.1
theorem dL_law_569 : decode cL_law 569 = .ok (.iaload, 1) := dL_law_565_grp.2.2.2.2.1
theorem dL_law_570 : decode cL_law 570 = .ok (.aload_n 0, 1) := dL_law_565_grp.2.2.2.2.2.1
theorem dL_law_571 : decode cL_law 571 = .ok (.iload_n 3, 1) := dL_law_565_grp.2.2.2.2.2.2.1
theorem dL_law_572 : decode cL_law 572 = .ok (.iconst 5, 1) := dL_law_565_grp.2.2.2.2.2.2.2.1
theorem dL_law_573 : decode cL_law 573 = .ok (.iadd, 1) := dL_law_565_grp.2.2.2.2.2.2.2.2
theorem dL_law_574_grp : (decode cL_law 574 = .ok (.iaload, 1)) ∧ (decode cL_law 575 = .ok (.invokevirtual 46, 3)) ∧ (decode cL_law 578 = .ok (.pop, 1)) ∧ (decode cL_law 579 = .ok (.aload_n 2, 1)) ∧ (decode cL_law 580 = .ok (.aload_n 0, 1)) ∧ (decode cL_law 581 = .ok (.iload_n 3, 1)) ∧ (decode cL_law 582 = .ok (.iconst 1, 1)) ∧ (decode cL_law 583 = .ok (.iadd, 1)) ∧ (decode cL_law 584 = .ok (.iaload, 1)) := by decide +kernel
theorem dL_law_574 : decode cL_law 574 = .ok (.iaload, 1) := dL_law_574_grp.1
theorem dL_law_575 : decode cL_law 575 = .ok (.invokevirtual 46, 3) := dL_law_574_grp.2.1
theorem dL_law_578 : decode cL_law 578 = .ok (.pop, 1) := dL_law_574_grp.2.2.1
theorem dL_law_579 : decode cL_law 579 = .ok (.aload_n 2, 1) := dL_law_574_grp.2.2.2.1
theorem dL_law_580 : decode cL_law 580 = .ok (.aload_n 0, 1) := dL_law_574_grp.2.2.2.2.1
theorem dL_law_581 : decode cL_law 581 = .ok (.iload_n 3, 1) := dL_law_574_grp.2.2.2.2.2.1
theorem dL_law_582 : decode cL_law 582 = .ok (.iconst 1, 1) := dL_law_574_grp.2.2.2.2.2.2.1
theorem dL_law_583 : decode cL_law 583 = .ok (.iadd, 1) := dL_law_574_grp.2.2.2.2.2.2.2.1
theorem dL_law_584 : decode cL_law 584 = .ok (.iaload, 1) := dL_law_574_grp.2.2.2.2.2.2.2.2
theorem dL_law_585_grp : (decode cL_law 585 = .ok (.aload_n 0, 1)) ∧ (decode cL_law 586 = .ok (.iload_n 3, 1)) ∧ (decode cL_law 587 = .ok (.iconst 2, 1)) ∧ (decode cL_law 588 = .ok (.iadd, 1)) ∧ (decode cL_law 589 = .ok (.iaload, 1)) ∧ (decode cL_law 590 = .ok (.aload_n 0, 1)) ∧ (decode cL_law 591 = .ok (.iload_n 3, 1)) ∧ (decode cL_law 592 = .ok (.iconst 3, 1)) ∧ (decode cL_law 593 = .ok (.iadd, 1)) := by decide +kernel
theorem dL_law_585 : decode cL_law 585 = .ok (.aload_n 0, 1) := dL_law_585_grp.1
theorem dL_law_586 : decode cL_law 586 = .ok (.iload_n 3, 1) := dL_law_585_grp.2.1
theorem dL_law_587 : decode cL_law 587 = .ok (.iconst 2, 1) := dL_law_585_grp.2.2.1
theorem dL_law_588 : decode cL_law 588 = .ok (.iadd, 1) := dL_law_585_grp.2.2.2.1
theorem dL_law_589 : decode cL_law 589 = .ok (.iaload, 1) := dL_law_585_grp.2.2.2.2.1
theorem dL_law_590 : decode cL_law 590 = .ok (.aload_n 0, 1) := dL_law_585_grp.2.2.2.2.2.1
theorem dL_law_591 : decode cL_law 591 = .ok (.iload_n 3, 1) := dL_law_585_grp.2.2.2.2.2.2.1
theorem dL_law_592 : decode cL_law 592 = .ok (.iconst 3, 1) := dL_law_585_grp.2.2.2.2.2.2.2.1
theorem dL_law_593 : decode cL_law 593 = .ok (.iadd, 1) := dL_law_585_grp.2.2.2.2.2.2.2.2
theorem dL_law_594_grp : (decode cL_law 594 = .ok (.iaload, 1)) ∧ (decode cL_law 595 = .ok (.aload_n 0, 1)) ∧ (decode cL_law 596 = .ok (.iload_n 3, 1)) ∧ (decode cL_law 597 = .ok (.iconst 4, 1)) ∧ (decode cL_law 598 = .ok (.iadd, 1)) ∧ (decode cL_law 599 = .ok (.iaload, 1)) ∧ (decode cL_law 600 = .ok (.aload_n 0, 1)) ∧ (decode cL_law 601 = .ok (.iload_n 3, 1)) ∧ (decode cL_law 602 = .ok (.iconst 5, 1)) := by decide +kernel
theorem dL_law_594 : decode cL_law 594 = .ok (.iaload, 1) := dL_law_594_grp.1
theorem dL_law_595 : decode cL_law 595 = .ok (.aload_n 0, 1) := dL_law_594_grp.2.1
theorem dL_law_596 : decode cL_law 596 = .ok (.iload_n 3, 1) := dL_law_594_grp.2.2.1
theorem dL_law_597 : decode cL_law 597 = .ok (.iconst 4, 1) := dL_law_594_grp.2.2.2.1
theorem dL_law_598 : decode cL_law 598 = .ok (.iadd, 1) := dL_law_594_grp.2.2.2.2.1
theorem dL_law_599 : decode cL_law 599 = .ok (.iaload, 1) := dL_law_594_grp.2.2.2.2.2.1
theorem dL_law_600 : decode cL_law 600 = .ok (.aload_n 0, 1) := dL_law_594_grp.2.2.2.2.2.2.1
theorem dL_law_601 : decode cL_law 601 = .ok (.iload_n 3, 1) := dL_law_594_grp.2.2.2.2.2.2.2.1
theorem dL_law_602 : decode cL_law 602 = .ok (.iconst 5, 1) := dL_law_594_grp.2.2.2.2.2.2.2.2
theorem dL_law_603_grp : (decode cL_law 603 = .ok (.iadd, 1)) ∧ (decode cL_law 604 = .ok (.iaload, 1)) ∧ (decode cL_law 605 = .ok (.invokevirtual 50, 3)) ∧ (decode cL_law 608 = .ok (.pop, 1)) ∧ (decode cL_law 609 = .ok (.goto 754, 3)) ∧ (decode cL_law 612 = .ok (.aload_n 1, 1)) ∧ (decode cL_law 613 = .ok (.aload_n 0, 1)) ∧ (decode cL_law 614 = .ok (.iload_n 3, 1)) ∧ (decode cL_law 615 = .ok (.iconst 1, 1)) := by decide +kernel
theorem dL_law_603 : decode cL_law 603 = .ok (.iadd, 1) := dL_law_603_grp.1
theorem dL_law_604 : decode cL_law 604 = .ok (.iaload, 1) := dL_law_603_grp.2.1
theorem dL_law_605 : decode cL_law 605 = .ok (.invokevirtual 50, 3) := dL_law_603_grp.2.2.1
theorem dL_law_608 : decode cL_law 608 = .ok (.pop, 1) := dL_law_603_grp.2.2.2.1
theorem dL_law_609 : decode cL_law 609 = .ok (.goto 754, 3) := dL_law_603_grp.2.2.2.2.1
theorem dL_law_612 : decode cL_law 612 = .ok (.aload_n 1, 1) := dL_law_603_grp.2.2.2.2.2.1
theorem dL_law_613 : decode cL_law 613 = .ok (.aload_n 0, 1) := dL_law_603_grp.2.2.2.2.2.2.1
theorem dL_law_614 : decode cL_law 614 = .ok (.iload_n 3, 1) := dL_law_603_grp.2.2.2.2.2.2.2.1
theorem dL_law_615 : decode cL_law 615 = .ok (.iconst 1, 1) := dL_law_603_grp.2.2.2.2.2.2.2.2
theorem dL_law_616_grp : (decode cL_law 616 = .ok (.iadd, 1)) ∧ (decode cL_law 617 = .ok (.iaload, 1)) ∧ (decode cL_law 618 = .ok (.aload_n 0, 1)) ∧ (decode cL_law 619 = .ok (.iload_n 3, 1)) ∧ (decode cL_law 620 = .ok (.iconst 2, 1)) ∧ (decode cL_law 621 = .ok (.iadd, 1)) ∧ (decode cL_law 622 = .ok (.iaload, 1)) ∧ (decode cL_law 623 = .ok (.invokevirtual 51, 3)) ∧ (decode cL_law 626 = .ok (.pop, 1)) := by decide +kernel
theorem dL_law_616 : decode cL_law 616 = .ok (.iadd, 1) := dL_law_616_grp.1
theorem dL_law_617 : decode cL_law 617 = .ok (.iaload, 1) := dL_law_616_grp.2.1
theorem dL_law_618 : decode cL_law 618 = .ok (.aload_n 0, 1) := dL_law_616_grp.2.2.1
theorem dL_law_619 : decode cL_law 619 = .ok (.iload_n 3, 1) := dL_law_616_grp.2.2.2.1
theorem dL_law_620 : decode cL_law 620 = .ok (.iconst 2, 1) := dL_law_616_grp.2.2.2.2.1
theorem dL_law_621 : decode cL_law 621 = .ok (.iadd, 1) := dL_law_616_grp.2.2.2.2.2.1
theorem dL_law_622 : decode cL_law 622 = .ok (.iaload, 1) := dL_law_616_grp.2.2.2.2.2.2.1
theorem dL_law_623 : decode cL_law 623 = .ok (.invokevirtual 51, 3) := dL_law_616_grp.2.2.2.2.2.2.2.1
theorem dL_law_626 : decode cL_law 626 = .ok (.pop, 1) := dL_law_616_grp.2.2.2.2.2.2.2.2
theorem dL_law_627_grp : (decode cL_law 627 = .ok (.aload_n 2, 1)) ∧ (decode cL_law 628 = .ok (.aload_n 0, 1)) ∧ (decode cL_law 629 = .ok (.iload_n 3, 1)) ∧ (decode cL_law 630 = .ok (.iconst 1, 1)) ∧ (decode cL_law 631 = .ok (.iadd, 1)) ∧ (decode cL_law 632 = .ok (.iaload, 1)) ∧ (decode cL_law 633 = .ok (.aload_n 0, 1)) ∧ (decode cL_law 634 = .ok (.iload_n 3, 1)) ∧ (decode cL_law 635 = .ok (.iconst 2, 1)) := by decide +kernel
theorem dL_law_627 : decode cL_law 627 = .ok (.aload_n 2, 1) := dL_law_627_grp.1
theorem dL_law_628 : decode cL_law 628 = .ok (.aload_n 0, 1) := dL_law_627_grp.2.1
theorem dL_law_629 : decode cL_law 629 = .ok (.iload_n 3, 1) := dL_law_627_grp.2.2.1
theorem dL_law_630 : decode cL_law 630 = .ok (.iconst 1, 1) := dL_law_627_grp.2.2.2.1
theorem dL_law_631 : decode cL_law 631 = .ok (.iadd, 1) := dL_law_627_grp.2.2.2.2.1
theorem dL_law_632 : decode cL_law 632 = .ok (.iaload, 1) := dL_law_627_grp.2.2.2.2.2.1
theorem dL_law_633 : decode cL_law 633 = .ok (.aload_n 0, 1) := dL_law_627_grp.2.2.2.2.2.2.1
theorem dL_law_634 : decode cL_law 634 = .ok (.iload_n 3, 1) := dL_law_627_grp.2.2.2.2.2.2.2.1
theorem dL_law_635 : decode cL_law 635 = .ok (.iconst 2, 1) := dL_law_627_grp.2.2.2.2.2.2.2.2
theorem dL_law_636_grp : (decode cL_law 636 = .ok (.iadd, 1)) ∧ (decode cL_law 637 = .ok (.iaload, 1)) ∧ (decode cL_law 638 = .ok (.invokevirtual 55, 3)) ∧ (decode cL_law 641 = .ok (.pop, 1)) ∧ (decode cL_law 642 = .ok (.goto 721, 3)) ∧ (decode cL_law 645 = .ok (.aload_n 1, 1)) ∧ (decode cL_law 646 = .ok (.aload_n 0, 1)) ∧ (decode cL_law 647 = .ok (.iload_n 3, 1)) ∧ (decode cL_law 648 = .ok (.iconst 1, 1)) := by decide +kernel
theorem dL_law_636 : decode cL_law 636 = .ok (.iadd, 1) := dL_law_636_grp.1
theorem dL_law_637 : decode cL_law 637 = .ok (.iaload, 1) := dL_law_636_grp.2.1
theorem dL_law_638 : decode cL_law 638 = .ok (.invokevirtual 55, 3) := dL_law_636_grp.2.2.1
theorem dL_law_641 : decode cL_law 641 = .ok (.pop, 1) := dL_law_636_grp.2.2.2.1
theorem dL_law_642 : decode cL_law 642 = .ok (.goto 721, 3) := dL_law_636_grp.2.2.2.2.1
theorem dL_law_645 : decode cL_law 645 = .ok (.aload_n 1, 1) := dL_law_636_grp.2.2.2.2.2.1
theorem dL_law_646 : decode cL_law 646 = .ok (.aload_n 0, 1) := dL_law_636_grp.2.2.2.2.2.2.1
theorem dL_law_647 : decode cL_law 647 = .ok (.iload_n 3, 1) := dL_law_636_grp.2.2.2.2.2.2.2.1
theorem dL_law_648 : decode cL_law 648 = .ok (.iconst 1, 1) := dL_law_636_grp.2.2.2.2.2.2.2.2
theorem dL_law_649_grp : (decode cL_law 649 = .ok (.iadd, 1)) ∧ (decode cL_law 650 = .ok (.iaload, 1)) ∧ (decode cL_law 651 = .ok (.aload_n 0, 1)) ∧ (decode cL_law 652 = .ok (.iload_n 3, 1)) ∧ (decode cL_law 653 = .ok (.iconst 2, 1)) ∧ (decode cL_law 654 = .ok (.iadd, 1)) ∧ (decode cL_law 655 = .ok (.iaload, 1)) ∧ (decode cL_law 656 = .ok (.aload_n 0, 1)) ∧ (decode cL_law 657 = .ok (.iload_n 3, 1)) := by decide +kernel
theorem dL_law_649 : decode cL_law 649 = .ok (.iadd, 1) := dL_law_649_grp.1
theorem dL_law_650 : decode cL_law 650 = .ok (.iaload, 1) := dL_law_649_grp.2.1
theorem dL_law_651 : decode cL_law 651 = .ok (.aload_n 0, 1) := dL_law_649_grp.2.2.1
theorem dL_law_652 : decode cL_law 652 = .ok (.iload_n 3, 1) := dL_law_649_grp.2.2.2.1
theorem dL_law_653 : decode cL_law 653 = .ok (.iconst 2, 1) := dL_law_649_grp.2.2.2.2.1
theorem dL_law_654 : decode cL_law 654 = .ok (.iadd, 1) := dL_law_649_grp.2.2.2.2.2.1
theorem dL_law_655 : decode cL_law 655 = .ok (.iaload, 1) := dL_law_649_grp.2.2.2.2.2.2.1
theorem dL_law_656 : decode cL_law 656 = .ok (.aload_n 0, 1) := dL_law_649_grp.2.2.2.2.2.2.2.1
theorem dL_law_657 : decode cL_law 657 = .ok (.iload_n 3, 1) := dL_law_649_grp.2.2.2.2.2.2.2.2
theorem dL_law_658_grp : (decode cL_law 658 = .ok (.iconst 3, 1)) ∧ (decode cL_law 659 = .ok (.iadd, 1)) ∧ (decode cL_law 660 = .ok (.iaload, 1)) ∧ (decode cL_law 661 = .ok (.invokevirtual 56, 3)) ∧ (decode cL_law 664 = .ok (.pop2, 1)) ∧ (decode cL_law 665 = .ok (.aload_n 2, 1)) ∧ (decode cL_law 666 = .ok (.aload_n 0, 1)) ∧ (decode cL_law 667 = .ok (.iload_n 3, 1)) ∧ (decode cL_law 668 = .ok (.iconst 1, 1)) := by decide +kernel
theorem dL_law_658 : decode cL_law 658 = .ok (.iconst 3, 1) := dL_law_658_grp.1
theorem dL_law_659 : decode cL_law 659 = .ok (.iadd, 1) := dL_law_658_grp.2.1
theorem dL_law_660 : decode cL_law 660 = .ok (.iaload, 1) := dL_law_658_grp.2.2.1
theorem dL_law_661 : decode cL_law 661 = .ok (.invokevirtual 56, 3) := dL_law_658_grp.2.2.2.1
theorem dL_law_664 : decode cL_law 664 = .ok (.pop2, 1) := dL_law_658_grp.2.2.2.2.1
theorem dL_law_665 : decode cL_law 665 = .ok (.aload_n 2, 1) := dL_law_658_grp.2.2.2.2.2.1
theorem dL_law_666 : decode cL_law 666 = .ok (.aload_n 0, 1) := dL_law_658_grp.2.2.2.2.2.2.1
theorem dL_law_667 : decode cL_law 667 = .ok (.iload_n 3, 1) := dL_law_658_grp.2.2.2.2.2.2.2.1
theorem dL_law_668 : decode cL_law 668 = .ok (.iconst 1, 1) := dL_law_658_grp.2.2.2.2.2.2.2.2
theorem dL_law_669_grp : (decode cL_law 669 = .ok (.iadd, 1)) ∧ (decode cL_law 670 = .ok (.iaload, 1)) ∧ (decode cL_law 671 = .ok (.aload_n 0, 1)) ∧ (decode cL_law 672 = .ok (.iload_n 3, 1)) ∧ (decode cL_law 673 = .ok (.iconst 2, 1)) ∧ (decode cL_law 674 = .ok (.iadd, 1)) ∧ (decode cL_law 675 = .ok (.iaload, 1)) ∧ (decode cL_law 676 = .ok (.aload_n 0, 1)) ∧ (decode cL_law 677 = .ok (.iload_n 3, 1)) := by decide +kernel
theorem dL_law_669 : decode cL_law 669 = .ok (.iadd, 1) := dL_law_669_grp.1
theorem dL_law_670 : decode cL_law 670 = .ok (.iaload, 1) := dL_law_669_grp.2.1
theorem dL_law_671 : decode cL_law 671 = .ok (.aload_n 0, 1) := dL_law_669_grp.2.2.1
theorem dL_law_672 : decode cL_law 672 = .ok (.iload_n 3, 1) := dL_law_669_grp.2.2.2.1
theorem dL_law_673 : decode cL_law 673 = .ok (.iconst 2, 1) := dL_law_669_grp.2.2.2.2.1
theorem dL_law_674 : decode cL_law 674 = .ok (.iadd, 1) := dL_law_669_grp.2.2.2.2.2.1
theorem dL_law_675 : decode cL_law 675 = .ok (.iaload, 1) := dL_law_669_grp.2.2.2.2.2.2.1
theorem dL_law_676 : decode cL_law 676 = .ok (.aload_n 0, 1) := dL_law_669_grp.2.2.2.2.2.2.2.1
theorem dL_law_677 : decode cL_law 677 = .ok (.iload_n 3, 1) := dL_law_669_grp.2.2.2.2.2.2.2.2
theorem dL_law_678_grp : (decode cL_law 678 = .ok (.iconst 3, 1)) ∧ (decode cL_law 679 = .ok (.iadd, 1)) ∧ (decode cL_law 680 = .ok (.iaload, 1)) ∧ (decode cL_law 681 = .ok (.invokevirtual 60, 3)) ∧ (decode cL_law 684 = .ok (.pop2, 1)) ∧ (decode cL_law 685 = .ok (.goto 678, 3)) ∧ (decode cL_law 688 = .ok (.aload_n 1, 1)) ∧ (decode cL_law 689 = .ok (.aload_n 0, 1)) ∧ (decode cL_law 690 = .ok (.iload_n 3, 1)) := by decide +kernel
theorem dL_law_678 : decode cL_law 678 = .ok (.iconst 3, 1) := dL_law_678_grp.1
theorem dL_law_679 : decode cL_law 679 = .ok (.iadd, 1) := dL_law_678_grp.2.1
theorem dL_law_680 : decode cL_law 680 = .ok (.iaload, 1) := dL_law_678_grp.2.2.1
theorem dL_law_681 : decode cL_law 681 = .ok (.invokevirtual 60, 3) := dL_law_678_grp.2.2.2.1
theorem dL_law_684 : decode cL_law 684 = .ok (.pop2, 1) := dL_law_678_grp.2.2.2.2.1
theorem dL_law_685 : decode cL_law 685 = .ok (.goto 678, 3) := dL_law_678_grp.2.2.2.2.2.1
theorem dL_law_688 : decode cL_law 688 = .ok (.aload_n 1, 1) := dL_law_678_grp.2.2.2.2.2.2.1
theorem dL_law_689 : decode cL_law 689 = .ok (.aload_n 0, 1) := dL_law_678_grp.2.2.2.2.2.2.2.1
theorem dL_law_690 : decode cL_law 690 = .ok (.iload_n 3, 1) := dL_law_678_grp.2.2.2.2.2.2.2.2
theorem dL_law_691_grp : (decode cL_law 691 = .ok (.iconst 1, 1)) ∧ (decode cL_law 692 = .ok (.iadd, 1)) ∧ (decode cL_law 693 = .ok (.iaload, 1)) ∧ (decode cL_law 694 = .ok (.aload_n 0, 1)) ∧ (decode cL_law 695 = .ok (.iload_n 3, 1)) ∧ (decode cL_law 696 = .ok (.iconst 2, 1)) ∧ (decode cL_law 697 = .ok (.iadd, 1)) ∧ (decode cL_law 698 = .ok (.iaload, 1)) ∧ (decode cL_law 699 = .ok (.aload_n 0, 1)) := by decide +kernel
theorem dL_law_691 : decode cL_law 691 = .ok (.iconst 1, 1) := dL_law_691_grp.1
theorem dL_law_692 : decode cL_law 692 = .ok (.iadd, 1) := dL_law_691_grp.2.1
theorem dL_law_693 : decode cL_law 693 = .ok (.iaload, 1) := dL_law_691_grp.2.2.1
theorem dL_law_694 : decode cL_law 694 = .ok (.aload_n 0, 1) := dL_law_691_grp.2.2.2.1
theorem dL_law_695 : decode cL_law 695 = .ok (.iload_n 3, 1) := dL_law_691_grp.2.2.2.2.1
theorem dL_law_696 : decode cL_law 696 = .ok (.iconst 2, 1) := dL_law_691_grp.2.2.2.2.2.1
theorem dL_law_697 : decode cL_law 697 = .ok (.iadd, 1) := dL_law_691_grp.2.2.2.2.2.2.1
theorem dL_law_698 : decode cL_law 698 = .ok (.iaload, 1) := dL_law_691_grp.2.2.2.2.2.2.2.1
theorem dL_law_699 : decode cL_law 699 = .ok (.aload_n 0, 1) := dL_law_691_grp.2.2.2.2.2.2.2.2
theorem dL_law_700_grp : (decode cL_law 700 = .ok (.iload_n 3, 1)) ∧ (decode cL_law 701 = .ok (.iconst 3, 1)) ∧ (decode cL_law 702 = .ok (.iadd, 1)) ∧ (decode cL_law 703 = .ok (.iaload, 1)) ∧ (decode cL_law 704 = .ok (.invokevirtual 61, 3)) ∧ (decode cL_law 707 = .ok (.pop, 1)) ∧ (decode cL_law 708 = .ok (.aload_n 2, 1)) ∧ (decode cL_law 709 = .ok (.aload_n 0, 1)) ∧ (decode cL_law 710 = .ok (.iload_n 3, 1)) := by decide +kernel
theorem dL_law_700 : decode cL_law 700 = .ok (.iload_n 3, 1) := dL_law_700_grp.1
theorem dL_law_701 : decode cL_law 701 = .ok (.iconst 3, 1) := dL_law_700_grp.2.1
theorem dL_law_702 : decode cL_law 702 = .ok (.iadd, 1) := dL_law_700_grp.2.2.1
theorem dL_law_703 : decode cL_law 703 = .ok (.iaload, 1) := dL_law_700_grp.2.2.2.1
theorem dL_law_704 : decode cL_law 704 = .ok (.invokevirtual 61, 3) := dL_law_700_grp.2.2.2.2.1
theorem dL_law_707 : decode cL_law 707 = .ok (.pop, 1) := dL_law_700_grp.2.2.2.2.2.1
theorem dL_law_708 : decode cL_law 708 = .ok (.aload_n 2, 1) := dL_law_700_grp.2.2.2.2.2.2.1
theorem dL_law_709 : decode cL_law 709 = .ok (.aload_n 0, 1) := dL_law_700_grp.2.2.2.2.2.2.2.1
theorem dL_law_710 : decode cL_law 710 = .ok (.iload_n 3, 1) := dL_law_700_grp.2.2.2.2.2.2.2.2
theorem dL_law_711_grp : (decode cL_law 711 = .ok (.iconst 1, 1)) ∧ (decode cL_law 712 = .ok (.iadd, 1)) ∧ (decode cL_law 713 = .ok (.iaload, 1)) ∧ (decode cL_law 714 = .ok (.aload_n 0, 1)) ∧ (decode cL_law 715 = .ok (.iload_n 3, 1)) ∧ (decode cL_law 716 = .ok (.iconst 2, 1)) ∧ (decode cL_law 717 = .ok (.iadd, 1)) ∧ (decode cL_law 718 = .ok (.iaload, 1)) ∧ (decode cL_law 719 = .ok (.aload_n 0, 1)) := by decide +kernel
theorem dL_law_711 : decode cL_law 711 = .ok (.iconst 1, 1) := dL_law_711_grp.1
theorem dL_law_712 : decode cL_law 712 = .ok (.iadd, 1) := dL_law_711_grp.2.1
theorem dL_law_713 : decode cL_law 713 = .ok (.iaload, 1) := dL_law_711_grp.2.2.1
theorem dL_law_714 : decode cL_law 714 = .ok (.aload_n 0, 1) := dL_law_711_grp.2.2.2.1
theorem dL_law_715 : decode cL_law 715 = .ok (.iload_n 3, 1) := dL_law_711_grp.2.2.2.2.1
theorem dL_law_716 : decode cL_law 716 = .ok (.iconst 2, 1) := dL_law_711_grp.2.2.2.2.2.1
theorem dL_law_717 : decode cL_law 717 = .ok (.iadd, 1) := dL_law_711_grp.2.2.2.2.2.2.1
theorem dL_law_718 : decode cL_law 718 = .ok (.iaload, 1) := dL_law_711_grp.2.2.2.2.2.2.2.1
theorem dL_law_719 : decode cL_law 719 = .ok (.aload_n 0, 1) := dL_law_711_grp.2.2.2.2.2.2.2.2
theorem dL_law_720_grp : (decode cL_law 720 = .ok (.iload_n 3, 1)) ∧ (decode cL_law 721 = .ok (.iconst 3, 1)) ∧ (decode cL_law 722 = .ok (.iadd, 1)) ∧ (decode cL_law 723 = .ok (.iaload, 1)) ∧ (decode cL_law 724 = .ok (.invokevirtual 65, 3)) ∧ (decode cL_law 727 = .ok (.pop, 1)) ∧ (decode cL_law 728 = .ok (.goto 635, 3)) ∧ (decode cL_law 731 = .ok (.aload_n 1, 1)) ∧ (decode cL_law 732 = .ok (.aload_n 0, 1)) := by decide +kernel
theorem dL_law_720 : decode cL_law 720 = .ok (.iload_n 3, 1) := dL_law_720_grp.1
theorem dL_law_721 : decode cL_law 721 = .ok (.iconst 3, 1) := dL_law_720_grp.2.1
theorem dL_law_722 : decode cL_law 722 = .ok (.iadd, 1) := dL_law_720_grp.2.2.1
theorem dL_law_723 : decode cL_law 723 = .ok (.iaload, 1) := dL_law_720_grp.2.2.2.1
theorem dL_law_724 : decode cL_law 724 = .ok (.invokevirtual 65, 3) := dL_law_720_grp.2.2.2.2.1
theorem dL_law_727 : decode cL_law 727 = .ok (.pop, 1) := dL_law_720_grp.2.2.2.2.2.1
theorem dL_law_728 : decode cL_law 728 = .ok (.goto 635, 3) := dL_law_720_grp.2.2.2.2.2.2.1
theorem dL_law_731 : decode cL_law 731 = .ok (.aload_n 1, 1) := dL_law_720_grp.2.2.2.2.2.2.2.1
theorem dL_law_732 : decode cL_law 732 = .ok (.aload_n 0, 1) := dL_law_720_grp.2.2.2.2.2.2.2.2
theorem dL_law_733_grp : (decode cL_law 733 = .ok (.iload_n 3, 1)) ∧ (decode cL_law 734 = .ok (.iconst 1, 1)) ∧ (decode cL_law 735 = .ok (.iadd, 1)) ∧ (decode cL_law 736 = .ok (.iaload, 1)) ∧ (decode cL_law 737 = .ok (.aload_n 0, 1)) ∧ (decode cL_law 738 = .ok (.iload_n 3, 1)) ∧ (decode cL_law 739 = .ok (.iconst 2, 1)) ∧ (decode cL_law 740 = .ok (.iadd, 1)) ∧ (decode cL_law 741 = .ok (.iaload, 1)) := by decide +kernel
theorem dL_law_733 : decode cL_law 733 = .ok (.iload_n 3, 1) := dL_law_733_grp.1
theorem dL_law_734 : decode cL_law 734 = .ok (.iconst 1, 1) := dL_law_733_grp.2.1
theorem dL_law_735 : decode cL_law 735 = .ok (.iadd, 1) := dL_law_733_grp.2.2.1
theorem dL_law_736 : decode cL_law 736 = .ok (.iaload, 1) := dL_law_733_grp.2.2.2.1
theorem dL_law_737 : decode cL_law 737 = .ok (.aload_n 0, 1) := dL_law_733_grp.2.2.2.2.1
theorem dL_law_738 : decode cL_law 738 = .ok (.iload_n 3, 1) := dL_law_733_grp.2.2.2.2.2.1
theorem dL_law_739 : decode cL_law 739 = .ok (.iconst 2, 1) := dL_law_733_grp.2.2.2.2.2.2.1
theorem dL_law_740 : decode cL_law 740 = .ok (.iadd, 1) := dL_law_733_grp.2.2.2.2.2.2.2.1
theorem dL_law_741 : decode cL_law 741 = .ok (.iaload, 1) := dL_law_733_grp.2.2.2.2.2.2.2.2
theorem dL_law_742_grp : (decode cL_law 742 = .ok (.aload_n 0, 1)) ∧ (decode cL_law 743 = .ok (.iload_n 3, 1)) ∧ (decode cL_law 744 = .ok (.iconst 3, 1)) ∧ (decode cL_law 745 = .ok (.iadd, 1)) ∧ (decode cL_law 746 = .ok (.iaload, 1)) ∧ (decode cL_law 747 = .ok (.invokevirtual 66, 3)) ∧ (decode cL_law 750 = .ok (.pop, 1)) ∧ (decode cL_law 751 = .ok (.aload_n 2, 1)) ∧ (decode cL_law 752 = .ok (.aload_n 0, 1)) := by decide +kernel
theorem dL_law_742 : decode cL_law 742 = .ok (.aload_n 0, 1) := dL_law_742_grp.1
theorem dL_law_743 : decode cL_law 743 = .ok (.iload_n 3, 1) := dL_law_742_grp.2.1
theorem dL_law_744 : decode cL_law 744 = .ok (.iconst 3, 1) := dL_law_742_grp.2.2.1
theorem dL_law_745 : decode cL_law 745 = .ok (.iadd, 1) := dL_law_742_grp.2.2.2.1
theorem dL_law_746 : decode cL_law 746 = .ok (.iaload, 1) := dL_law_742_grp.2.2.2.2.1
theorem dL_law_747 : decode cL_law 747 = .ok (.invokevirtual 66, 3) := dL_law_742_grp.2.2.2.2.2.1
theorem dL_law_750 : decode cL_law 750 = .ok (.pop, 1) := dL_law_742_grp.2.2.2.2.2.2.1
theorem dL_law_751 : decode cL_law 751 = .ok (.aload_n 2, 1) := dL_law_742_grp.2.2.2.2.2.2.2.1
theorem dL_law_752 : decode cL_law 752 = .ok (.aload_n 0, 1) := dL_law_742_grp.2.2.2.2.2.2.2.2
theorem dL_law_753_grp : (decode cL_law 753 = .ok (.iload_n 3, 1)) ∧ (decode cL_law 754 = .ok (.iconst 1, 1)) ∧ (decode cL_law 755 = .ok (.iadd, 1)) ∧ (decode cL_law 756 = .ok (.iaload, 1)) ∧ (decode cL_law 757 = .ok (.aload_n 0, 1)) ∧ (decode cL_law 758 = .ok (.iload_n 3, 1)) ∧ (decode cL_law 759 = .ok (.iconst 2, 1)) ∧ (decode cL_law 760 = .ok (.iadd, 1)) ∧ (decode cL_law 761 = .ok (.iaload, 1)) := by decide +kernel
theorem dL_law_753 : decode cL_law 753 = .ok (.iload_n 3, 1) := dL_law_753_grp.1
theorem dL_law_754 : decode cL_law 754 = .ok (.iconst 1, 1) := dL_law_753_grp.2.1
theorem dL_law_755 : decode cL_law 755 = .ok (.iadd, 1) := dL_law_753_grp.2.2.1
theorem dL_law_756 : decode cL_law 756 = .ok (.iaload, 1) := dL_law_753_grp.2.2.2.1
theorem dL_law_757 : decode cL_law 757 = .ok (.aload_n 0, 1) := dL_law_753_grp.2.2.2.2.1
theorem dL_law_758 : decode cL_law 758 = .ok (.iload_n 3, 1) := dL_law_753_grp.2.2.2.2.2.1
theorem dL_law_759 : decode cL_law 759 = .ok (.iconst 2, 1) := dL_law_753_grp.2.2.2.2.2.2.1
theorem dL_law_760 : decode cL_law 760 = .ok (.iadd, 1) := dL_law_753_grp.2.2.2.2.2.2.2.1
theorem dL_law_761 : decode cL_law 761 = .ok (.iaload, 1) := dL_law_753_grp.2.2.2.2.2.2.2.2
theorem dL_law_762_grp : (decode cL_law 762 = .ok (.aload_n 0, 1)) ∧ (decode cL_law 763 = .ok (.iload_n 3, 1)) ∧ (decode cL_law 764 = .ok (.iconst 3, 1)) ∧ (decode cL_law 765 = .ok (.iadd, 1)) ∧ (decode cL_law 766 = .ok (.iaload, 1)) ∧ (decode cL_law 767 = .ok (.invokevirtual 69, 3)) ∧ (decode cL_law 770 = .ok (.pop, 1)) ∧ (decode cL_law 771 = .ok (.goto 592, 3)) ∧ (decode cL_law 774 = .ok (.aload_n 1, 1)) := by decide +kernel
theorem dL_law_762 : decode cL_law 762 = .ok (.aload_n 0, 1) := dL_law_762_grp.1
theorem dL_law_763 : decode cL_law 763 = .ok (.iload_n 3, 1) := dL_law_762_grp.2.1
theorem dL_law_764 : decode cL_law 764 = .ok (.iconst 3, 1) := dL_law_762_grp.2.2.1
theorem dL_law_765 : decode cL_law 765 = .ok (.iadd, 1) := dL_law_762_grp.2.2.2.1
theorem dL_law_766 : decode cL_law 766 = .ok (.iaload, 1) := dL_law_762_grp.2.2.2.2.1
theorem dL_law_767 : decode cL_law 767 = .ok (.invokevirtual 69, 3) := dL_law_762_grp.2.2.2.2.2.1
theorem dL_law_770 : decode cL_law 770 = .ok (.pop, 1) := dL_law_762_grp.2.2.2.2.2.2.1
theorem dL_law_771 : decode cL_law 771 = .ok (.goto 592, 3) := dL_law_762_grp.2.2.2.2.2.2.2.1
theorem dL_law_774 : decode cL_law 774 = .ok (.aload_n 1, 1) := dL_law_762_grp.2.2.2.2.2.2.2.2
theorem dL_law_775_grp : (decode cL_law 775 = .ok (.aload_n 0, 1)) ∧ (decode cL_law 776 = .ok (.iload_n 3, 1)) ∧ (decode cL_law 777 = .ok (.iconst 1, 1)) ∧ (decode cL_law 778 = .ok (.iadd, 1)) ∧ (decode cL_law 779 = .ok (.iaload, 1)) ∧ (decode cL_law 780 = .ok (.aload_n 0, 1)) ∧ (decode cL_law 781 = .ok (.iload_n 3, 1)) ∧ (decode cL_law 782 = .ok (.iconst 2, 1)) ∧ (decode cL_law 783 = .ok (.iadd, 1)) := by decide +kernel
theorem dL_law_775 : decode cL_law 775 = .ok (.aload_n 0, 1) := dL_law_775_grp.1
theorem dL_law_776 : decode cL_law 776 = .ok (.iload_n 3, 1) := dL_law_775_grp.2.1
theorem dL_law_777 : decode cL_law 777 = .ok (.iconst 1, 1) := dL_law_775_grp.2.2.1
theorem dL_law_778 : decode cL_law 778 = .ok (.iadd, 1) := dL_law_775_grp.2.2.2.1
theorem dL_law_779 : decode cL_law 779 = .ok (.iaload, 1) := dL_law_775_grp.2.2.2.2.1
theorem dL_law_780 : decode cL_law 780 = .ok (.aload_n 0, 1) := dL_law_775_grp.2.2.2.2.2.1
theorem dL_law_781 : decode cL_law 781 = .ok (.iload_n 3, 1) := dL_law_775_grp.2.2.2.2.2.2.1
theorem dL_law_782 : decode cL_law 782 = .ok (.iconst 2, 1) := dL_law_775_grp.2.2.2.2.2.2.2.1
theorem dL_law_783 : decode cL_law 783 = .ok (.iadd, 1) := dL_law_775_grp.2.2.2.2.2.2.2.2
theorem dL_law_784_grp : (decode cL_law 784 = .ok (.iaload, 1)) ∧ (decode cL_law 785 = .ok (.aload_n 0, 1)) ∧ (decode cL_law 786 = .ok (.iload_n 3, 1)) ∧ (decode cL_law 787 = .ok (.iconst 3, 1)) ∧ (decode cL_law 788 = .ok (.iadd, 1)) ∧ (decode cL_law 789 = .ok (.iaload, 1)) ∧ (decode cL_law 790 = .ok (.aload_n 0, 1)) ∧ (decode cL_law 791 = .ok (.iload_n 3, 1)) ∧ (decode cL_law 792 = .ok (.iconst 4, 1)) := by decide +kernel
theorem dL_law_784 : decode cL_law 784 = .ok (.iaload, 1) := dL_law_784_grp.1
theorem dL_law_785 : decode cL_law 785 = .ok (.aload_n 0, 1) := dL_law_784_grp.2.1
theorem dL_law_786 : decode cL_law 786 = .ok (.iload_n 3, 1) := dL_law_784_grp.2.2.1
theorem dL_law_787 : decode cL_law 787 = .ok (.iconst 3, 1) := dL_law_784_grp.2.2.2.1
theorem dL_law_788 : decode cL_law 788 = .ok (.iadd, 1) := dL_law_784_grp.2.2.2.2.1
theorem dL_law_789 : decode cL_law 789 = .ok (.iaload, 1) := dL_law_784_grp.2.2.2.2.2.1
theorem dL_law_790 : decode cL_law 790 = .ok (.aload_n 0, 1) := dL_law_784_grp.2.2.2.2.2.2.1
theorem dL_law_791 : decode cL_law 791 = .ok (.iload_n 3, 1) := dL_law_784_grp.2.2.2.2.2.2.2.1
theorem dL_law_792 : decode cL_law 792 = .ok (.iconst 4, 1) := dL_law_784_grp.2.2.2.2.2.2.2.2
theorem dL_law_793_grp : (decode cL_law 793 = .ok (.iadd, 1)) ∧ (decode cL_law 794 = .ok (.iaload, 1)) ∧ (decode cL_law 795 = .ok (.invokevirtual 70, 3)) ∧ (decode cL_law 798 = .ok (.pop, 1)) ∧ (decode cL_law 799 = .ok (.aload_n 2, 1)) ∧ (decode cL_law 800 = .ok (.aload_n 0, 1)) ∧ (decode cL_law 801 = .ok (.iload_n 3, 1)) ∧ (decode cL_law 802 = .ok (.iconst 1, 1)) ∧ (decode cL_law 803 = .ok (.iadd, 1)) := by decide +kernel
theorem dL_law_793 : decode cL_law 793 = .ok (.iadd, 1) := dL_law_793_grp.1
theorem dL_law_794 : decode cL_law 794 = .ok (.iaload, 1) := dL_law_793_grp.2.1
theorem dL_law_795 : decode cL_law 795 = .ok (.invokevirtual 70, 3) := dL_law_793_grp.2.2.1
theorem dL_law_798 : decode cL_law 798 = .ok (.pop, 1) := dL_law_793_grp.2.2.2.1
theorem dL_law_799 : decode cL_law 799 = .ok (.aload_n 2, 1) := dL_law_793_grp.2.2.2.2.1
theorem dL_law_800 : decode cL_law 800 = .ok (.aload_n 0, 1) := dL_law_793_grp.2.2.2.2.2.1
theorem dL_law_801 : decode cL_law 801 = .ok (.iload_n 3, 1) := dL_law_793_grp.2.2.2.2.2.2.1
theorem dL_law_802 : decode cL_law 802 = .ok (.iconst 1, 1) := dL_law_793_grp.2.2.2.2.2.2.2.1
theorem dL_law_803 : decode cL_law 803 = .ok (.iadd, 1) := dL_law_793_grp.2.2.2.2.2.2.2.2
theorem dL_law_804_grp : (decode cL_law 804 = .ok (.iaload, 1)) ∧ (decode cL_law 805 = .ok (.aload_n 0, 1)) ∧ (decode cL_law 806 = .ok (.iload_n 3, 1)) ∧ (decode cL_law 807 = .ok (.iconst 2, 1)) ∧ (decode cL_law 808 = .ok (.iadd, 1)) ∧ (decode cL_law 809 = .ok (.iaload, 1)) ∧ (decode cL_law 810 = .ok (.aload_n 0, 1)) ∧ (decode cL_law 811 = .ok (.iload_n 3, 1)) ∧ (decode cL_law 812 = .ok (.iconst 3, 1)) := by decide +kernel
theorem dL_law_804 : decode cL_law 804 = .ok (.iaload, 1) := dL_law_804_grp.1
theorem dL_law_805 : decode cL_law 805 = .ok (.aload_n 0, 1) := dL_law_804_grp.2.1
theorem dL_law_806 : decode cL_law 806 = .ok (.iload_n 3, 1) := dL_law_804_grp.2.2.1
theorem dL_law_807 : decode cL_law 807 = .ok (.iconst 2, 1) := dL_law_804_grp.2.2.2.1
theorem dL_law_808 : decode cL_law 808 = .ok (.iadd, 1) := dL_law_804_grp.2.2.2.2.1
theorem dL_law_809 : decode cL_law 809 = .ok (.iaload, 1) := dL_law_804_grp.2.2.2.2.2.1
theorem dL_law_810 : decode cL_law 810 = .ok (.aload_n 0, 1) := dL_law_804_grp.2.2.2.2.2.2.1
theorem dL_law_811 : decode cL_law 811 = .ok (.iload_n 3, 1) := dL_law_804_grp.2.2.2.2.2.2.2.1
theorem dL_law_812 : decode cL_law 812 = .ok (.iconst 3, 1) := dL_law_804_grp.2.2.2.2.2.2.2.2
theorem dL_law_813_grp : (decode cL_law 813 = .ok (.iadd, 1)) ∧ (decode cL_law 814 = .ok (.iaload, 1)) ∧ (decode cL_law 815 = .ok (.aload_n 0, 1)) ∧ (decode cL_law 816 = .ok (.iload_n 3, 1)) ∧ (decode cL_law 817 = .ok (.iconst 4, 1)) ∧ (decode cL_law 818 = .ok (.iadd, 1)) ∧ (decode cL_law 819 = .ok (.iaload, 1)) ∧ (decode cL_law 820 = .ok (.invokevirtual 74, 3)) ∧ (decode cL_law 823 = .ok (.pop, 1)) := by decide +kernel
theorem dL_law_813 : decode cL_law 813 = .ok (.iadd, 1) := dL_law_813_grp.1
theorem dL_law_814 : decode cL_law 814 = .ok (.iaload, 1) := dL_law_813_grp.2.1
theorem dL_law_815 : decode cL_law 815 = .ok (.aload_n 0, 1) := dL_law_813_grp.2.2.1
theorem dL_law_816 : decode cL_law 816 = .ok (.iload_n 3, 1) := dL_law_813_grp.2.2.2.1
theorem dL_law_817 : decode cL_law 817 = .ok (.iconst 4, 1) := dL_law_813_grp.2.2.2.2.1
theorem dL_law_818 : decode cL_law 818 = .ok (.iadd, 1) := dL_law_813_grp.2.2.2.2.2.1
theorem dL_law_819 : decode cL_law 819 = .ok (.iaload, 1) := dL_law_813_grp.2.2.2.2.2.2.1
theorem dL_law_820 : decode cL_law 820 = .ok (.invokevirtual 74, 3) := dL_law_813_grp.2.2.2.2.2.2.2.1
theorem dL_law_823 : decode cL_law 823 = .ok (.pop, 1) := dL_law_813_grp.2.2.2.2.2.2.2.2
theorem dL_law_824_grp : (decode cL_law 824 = .ok (.goto 539, 3)) ∧ (decode cL_law 827 = .ok (.aload_n 1, 1)) ∧ (decode cL_law 828 = .ok (.aload_n 0, 1)) ∧ (decode cL_law 829 = .ok (.iload_n 3, 1)) ∧ (decode cL_law 830 = .ok (.iconst 1, 1)) ∧ (decode cL_law 831 = .ok (.iadd, 1)) ∧ (decode cL_law 832 = .ok (.iaload, 1)) ∧ (decode cL_law 833 = .ok (.aload_n 0, 1)) ∧ (decode cL_law 834 = .ok (.iload_n 3, 1)) := by decide +kernel
theorem dL_law_824 : decode cL_law 824 = .ok (.goto 539, 3) := dL_law_824_grp.1
theorem dL_law_827 : decode cL_law 827 = .ok (.aload_n 1, 1) := dL_law_824_grp.2.1
theorem dL_law_828 : decode cL_law 828 = .ok (.aload_n 0, 1) := dL_law_824_grp.2.2.1
theorem dL_law_829 : decode cL_law 829 = .ok (.iload_n 3, 1) := dL_law_824_grp.2.2.2.1
theorem dL_law_830 : decode cL_law 830 = .ok (.iconst 1, 1) := dL_law_824_grp.2.2.2.2.1
theorem dL_law_831 : decode cL_law 831 = .ok (.iadd, 1) := dL_law_824_grp.2.2.2.2.2.1
theorem dL_law_832 : decode cL_law 832 = .ok (.iaload, 1) := dL_law_824_grp.2.2.2.2.2.2.1
theorem dL_law_833 : decode cL_law 833 = .ok (.aload_n 0, 1) := dL_law_824_grp.2.2.2.2.2.2.2.1
theorem dL_law_834 : decode cL_law 834 = .ok (.iload_n 3, 1) := dL_law_824_grp.2.2.2.2.2.2.2.2
theorem dL_law_835_grp : (decode cL_law 835 = .ok (.iconst 2, 1)) ∧ (decode cL_law 836 = .ok (.iadd, 1)) ∧ (decode cL_law 837 = .ok (.iaload, 1)) ∧ (decode cL_law 838 = .ok (.invokevirtual 75, 3)) ∧ (decode cL_law 841 = .ok (.pop, 1)) ∧ (decode cL_law 842 = .ok (.aload_n 2, 1)) ∧ (decode cL_law 843 = .ok (.aload_n 0, 1)) ∧ (decode cL_law 844 = .ok (.iload_n 3, 1)) ∧ (decode cL_law 845 = .ok (.iconst 1, 1)) := by decide +kernel
theorem dL_law_835 : decode cL_law 835 = .ok (.iconst 2, 1) := dL_law_835_grp.1
theorem dL_law_836 : decode cL_law 836 = .ok (.iadd, 1) := dL_law_835_grp.2.1
theorem dL_law_837 : decode cL_law 837 = .ok (.iaload, 1) := dL_law_835_grp.2.2.1
theorem dL_law_838 : decode cL_law 838 = .ok (.invokevirtual 75, 3) := dL_law_835_grp.2.2.2.1
theorem dL_law_841 : decode cL_law 841 = .ok (.pop, 1) := dL_law_835_grp.2.2.2.2.1
theorem dL_law_842 : decode cL_law 842 = .ok (.aload_n 2, 1) := dL_law_835_grp.2.2.2.2.2.1
theorem dL_law_843 : decode cL_law 843 = .ok (.aload_n 0, 1) := dL_law_835_grp.2.2.2.2.2.2.1
theorem dL_law_844 : decode cL_law 844 = .ok (.iload_n 3, 1) := dL_law_835_grp.2.2.2.2.2.2.2.1
theorem dL_law_845 : decode cL_law 845 = .ok (.iconst 1, 1) := dL_law_835_grp.2.2.2.2.2.2.2.2
theorem dL_law_846_grp : (decode cL_law 846 = .ok (.iadd, 1)) ∧ (decode cL_law 847 = .ok (.iaload, 1)) ∧ (decode cL_law 848 = .ok (.aload_n 0, 1)) ∧ (decode cL_law 849 = .ok (.iload_n 3, 1)) ∧ (decode cL_law 850 = .ok (.iconst 2, 1)) ∧ (decode cL_law 851 = .ok (.iadd, 1)) ∧ (decode cL_law 852 = .ok (.iaload, 1)) ∧ (decode cL_law 853 = .ok (.invokevirtual 79, 3)) ∧ (decode cL_law 856 = .ok (.pop, 1)) := by decide +kernel
theorem dL_law_846 : decode cL_law 846 = .ok (.iadd, 1) := dL_law_846_grp.1
theorem dL_law_847 : decode cL_law 847 = .ok (.iaload, 1) := dL_law_846_grp.2.1
theorem dL_law_848 : decode cL_law 848 = .ok (.aload_n 0, 1) := dL_law_846_grp.2.2.1
theorem dL_law_849 : decode cL_law 849 = .ok (.iload_n 3, 1) := dL_law_846_grp.2.2.2.1
theorem dL_law_850 : decode cL_law 850 = .ok (.iconst 2, 1) := dL_law_846_grp.2.2.2.2.1
theorem dL_law_851 : decode cL_law 851 = .ok (.iadd, 1) := dL_law_846_grp.2.2.2.2.2.1
theorem dL_law_852 : decode cL_law 852 = .ok (.iaload, 1) := dL_law_846_grp.2.2.2.2.2.2.1
theorem dL_law_853 : decode cL_law 853 = .ok (.invokevirtual 79, 3) := dL_law_846_grp.2.2.2.2.2.2.2.1
theorem dL_law_856 : decode cL_law 856 = .ok (.pop, 1) := dL_law_846_grp.2.2.2.2.2.2.2.2
theorem dL_law_857_grp : (decode cL_law 857 = .ok (.goto 506, 3)) ∧ (decode cL_law 860 = .ok (.aload_n 1, 1)) ∧ (decode cL_law 861 = .ok (.invokevirtual 80, 3)) ∧ (decode cL_law 864 = .ok (.pop, 1)) ∧ (decode cL_law 865 = .ok (.aload_n 2, 1)) ∧ (decode cL_law 866 = .ok (.invokevirtual 84, 3)) ∧ (decode cL_law 869 = .ok (.pop, 1)) ∧ (decode cL_law 870 = .ok (.goto 493, 3)) ∧ (decode cL_law 873 = .ok (.aload_n 1, 1)) := by decide +kernel
theorem dL_law_857 : decode cL_law 857 = .ok (.goto 506, 3) := dL_law_857_grp.1
theorem dL_law_860 : decode cL_law 860 = .ok (.aload_n 1, 1) := dL_law_857_grp.2.1
theorem dL_law_861 : decode cL_law 861 = .ok (.invokevirtual 80, 3) := dL_law_857_grp.2.2.1
theorem dL_law_864 : decode cL_law 864 = .ok (.pop, 1) := dL_law_857_grp.2.2.2.1
theorem dL_law_865 : decode cL_law 865 = .ok (.aload_n 2, 1) := dL_law_857_grp.2.2.2.2.1
theorem dL_law_866 : decode cL_law 866 = .ok (.invokevirtual 84, 3) := dL_law_857_grp.2.2.2.2.2.1
theorem dL_law_869 : decode cL_law 869 = .ok (.pop, 1) := dL_law_857_grp.2.2.2.2.2.2.1
theorem dL_law_870 : decode cL_law 870 = .ok (.goto 493, 3) := dL_law_857_grp.2.2.2.2.2.2.2.1
theorem dL_law_873 : decode cL_law 873 = .ok (.aload_n 1, 1) := dL_law_857_grp.2.2.2.2.2.2.2.2
theorem dL_law_874_grp : (decode cL_law 874 = .ok (.invokevirtual 85, 3)) ∧ (decode cL_law 877 = .ok (.pop, 1)) ∧ (decode cL_law 878 = .ok (.aload_n 2, 1)) ∧ (decode cL_law 879 = .ok (.invokevirtual 88, 3)) ∧ (decode cL_law 882 = .ok (.pop, 1)) ∧ (decode cL_law 883 = .ok (.goto 480, 3)) ∧ (decode cL_law 886 = .ok (.aload_n 1, 1)) ∧ (decode cL_law 887 = .ok (.aload_n 0, 1)) ∧ (decode cL_law 888 = .ok (.iload_n 3, 1)) := by decide +kernel
theorem dL_law_874 : decode cL_law 874 = .ok (.invokevirtual 85, 3) := dL_law_874_grp.1
theorem dL_law_877 : decode cL_law 877 = .ok (.pop, 1) := dL_law_874_grp.2.1
theorem dL_law_878 : decode cL_law 878 = .ok (.aload_n 2, 1) := dL_law_874_grp.2.2.1
theorem dL_law_879 : decode cL_law 879 = .ok (.invokevirtual 88, 3) := dL_law_874_grp.2.2.2.1
theorem dL_law_882 : decode cL_law 882 = .ok (.pop, 1) := dL_law_874_grp.2.2.2.2.1
theorem dL_law_883 : decode cL_law 883 = .ok (.goto 480, 3) := dL_law_874_grp.2.2.2.2.2.1
theorem dL_law_886 : decode cL_law 886 = .ok (.aload_n 1, 1) := dL_law_874_grp.2.2.2.2.2.2.1
theorem dL_law_887 : decode cL_law 887 = .ok (.aload_n 0, 1) := dL_law_874_grp.2.2.2.2.2.2.2.1
theorem dL_law_888 : decode cL_law 888 = .ok (.iload_n 3, 1) := dL_law_874_grp.2.2.2.2.2.2.2.2
theorem dL_law_889_grp : (decode cL_law 889 = .ok (.iconst 1, 1)) ∧ (decode cL_law 890 = .ok (.iadd, 1)) ∧ (decode cL_law 891 = .ok (.iaload, 1)) ∧ (decode cL_law 892 = .ok (.invokevirtual 89, 3)) ∧ (decode cL_law 895 = .ok (.pop, 1)) ∧ (decode cL_law 896 = .ok (.aload_n 2, 1)) ∧ (decode cL_law 897 = .ok (.aload_n 0, 1)) ∧ (decode cL_law 898 = .ok (.iload_n 3, 1)) ∧ (decode cL_law 899 = .ok (.iconst 1, 1)) := by decide +kernel
theorem dL_law_889 : decode cL_law 889 = .ok (.iconst 1, 1) := dL_law_889_grp.1
theorem dL_law_890 : decode cL_law 890 = .ok (.iadd, 1) := dL_law_889_grp.2.1
theorem dL_law_891 : decode cL_law 891 = .ok (.iaload, 1) := dL_law_889_grp.2.2.1
theorem dL_law_892 : decode cL_law 892 = .ok (.invokevirtual 89, 3) := dL_law_889_grp.2.2.2.1
theorem dL_law_895 : decode cL_law 895 = .ok (.pop, 1) := dL_law_889_grp.2.2.2.2.1
theorem dL_law_896 : decode cL_law 896 = .ok (.aload_n 2, 1) := dL_law_889_grp.2.2.2.2.2.1
theorem dL_law_897 : decode cL_law 897 = .ok (.aload_n 0, 1) := dL_law_889_grp.2.2.2.2.2.2.1
theorem dL_law_898 : decode cL_law 898 = .ok (.iload_n 3, 1) := dL_law_889_grp.2.2.2.2.2.2.2.1
theorem dL_law_899 : decode cL_law 899 = .ok (.iconst 1, 1) := dL_law_889_grp.2.2.2.2.2.2.2.2
theorem dL_law_900_grp : (decode cL_law 900 = .ok (.iadd, 1)) ∧ (decode cL_law 901 = .ok (.iaload, 1)) ∧ (decode cL_law 902 = .ok (.invokevirtual 93, 3)) ∧ (decode cL_law 905 = .ok (.pop, 1)) ∧ (decode cL_law 906 = .ok (.goto 457, 3)) ∧ (decode cL_law 909 = .ok (.aload_n 1, 1)) ∧ (decode cL_law 910 = .ok (.aload_n 0, 1)) ∧ (decode cL_law 911 = .ok (.iload_n 3, 1)) ∧ (decode cL_law 912 = .ok (.iconst 1, 1)) := by decide +kernel
theorem dL_law_900 : decode cL_law 900 = .ok (.iadd, 1) := dL_law_900_grp.1
theorem dL_law_901 : decode cL_law 901 = .ok (.iaload, 1) := dL_law_900_grp.2.1
theorem dL_law_902 : decode cL_law 902 = .ok (.invokevirtual 93, 3) := dL_law_900_grp.2.2.1
theorem dL_law_905 : decode cL_law 905 = .ok (.pop, 1) := dL_law_900_grp.2.2.2.1
theorem dL_law_906 : decode cL_law 906 = .ok (.goto 457, 3) := dL_law_900_grp.2.2.2.2.1
theorem dL_law_909 : decode cL_law 909 = .ok (.aload_n 1, 1) := dL_law_900_grp.2.2.2.2.2.1
theorem dL_law_910 : decode cL_law 910 = .ok (.aload_n 0, 1) := dL_law_900_grp.2.2.2.2.2.2.1
theorem dL_law_911 : decode cL_law 911 = .ok (.iload_n 3, 1) := dL_law_900_grp.2.2.2.2.2.2.2.1
theorem dL_law_912 : decode cL_law 912 = .ok (.iconst 1, 1) := dL_law_900_grp.2.2.2.2.2.2.2.2
theorem dL_law_913_grp : (decode cL_law 913 = .ok (.iadd, 1)) ∧ (decode cL_law 914 = .ok (.iaload, 1)) ∧ (decode cL_law 915 = .ok (.aload_n 0, 1)) ∧ (decode cL_law 916 = .ok (.iload_n 3, 1)) ∧ (decode cL_law 917 = .ok (.iconst 2, 1)) ∧ (decode cL_law 918 = .ok (.iadd, 1)) ∧ (decode cL_law 919 = .ok (.iaload, 1)) ∧ (decode cL_law 920 = .ok (.invokevirtual 94, 3)) ∧ (decode cL_law 923 = .ok (.pop, 1)) := by decide +kernel
theorem dL_law_913 : decode cL_law 913 = .ok (.iadd, 1) := dL_law_913_grp.1
theorem dL_law_914 : decode cL_law 914 = .ok (.iaload, 1) := dL_law_913_grp.2.1
theorem dL_law_915 : decode cL_law 915 = .ok (.aload_n 0, 1) := dL_law_913_grp.2.2.1
theorem dL_law_916 : decode cL_law 916 = .ok (.iload_n 3, 1) := dL_law_913_grp.2.2.2.1
theorem dL_law_917 : decode cL_law 917 = .ok (.iconst 2, 1) := dL_law_913_grp.2.2.2.2.1
theorem dL_law_918 : decode cL_law 918 = .ok (.iadd, 1) := dL_law_913_grp.2.2.2.2.2.1
theorem dL_law_919 : decode cL_law 919 = .ok (.iaload, 1) := dL_law_913_grp.2.2.2.2.2.2.1
theorem dL_law_920 : decode cL_law 920 = .ok (.invokevirtual 94, 3) := dL_law_913_grp.2.2.2.2.2.2.2.1
theorem dL_law_923 : decode cL_law 923 = .ok (.pop, 1) := dL_law_913_grp.2.2.2.2.2.2.2.2
theorem dL_law_924_grp : (decode cL_law 924 = .ok (.aload_n 2, 1)) ∧ (decode cL_law 925 = .ok (.aload_n 0, 1)) ∧ (decode cL_law 926 = .ok (.iload_n 3, 1)) ∧ (decode cL_law 927 = .ok (.iconst 1, 1)) ∧ (decode cL_law 928 = .ok (.iadd, 1)) ∧ (decode cL_law 929 = .ok (.iaload, 1)) ∧ (decode cL_law 930 = .ok (.aload_n 0, 1)) ∧ (decode cL_law 931 = .ok (.iload_n 3, 1)) ∧ (decode cL_law 932 = .ok (.iconst 2, 1)) := by decide +kernel
theorem dL_law_924 : decode cL_law 924 = .ok (.aload_n 2, 1) := dL_law_924_grp.1
theorem dL_law_925 : decode cL_law 925 = .ok (.aload_n 0, 1) := dL_law_924_grp.2.1
theorem dL_law_926 : decode cL_law 926 = .ok (.iload_n 3, 1) := dL_law_924_grp.2.2.1
theorem dL_law_927 : decode cL_law 927 = .ok (.iconst 1, 1) := dL_law_924_grp.2.2.2.1
theorem dL_law_928 : decode cL_law 928 = .ok (.iadd, 1) := dL_law_924_grp.2.2.2.2.1
theorem dL_law_929 : decode cL_law 929 = .ok (.iaload, 1) := dL_law_924_grp.2.2.2.2.2.1
theorem dL_law_930 : decode cL_law 930 = .ok (.aload_n 0, 1) := dL_law_924_grp.2.2.2.2.2.2.1
theorem dL_law_931 : decode cL_law 931 = .ok (.iload_n 3, 1) := dL_law_924_grp.2.2.2.2.2.2.2.1
theorem dL_law_932 : decode cL_law 932 = .ok (.iconst 2, 1) := dL_law_924_grp.2.2.2.2.2.2.2.2
theorem dL_law_933_grp : (decode cL_law 933 = .ok (.iadd, 1)) ∧ (decode cL_law 934 = .ok (.iaload, 1)) ∧ (decode cL_law 935 = .ok (.invokevirtual 97, 3)) ∧ (decode cL_law 938 = .ok (.pop, 1)) ∧ (decode cL_law 939 = .ok (.goto 424, 3)) ∧ (decode cL_law 942 = .ok (.aload_n 1, 1)) ∧ (decode cL_law 943 = .ok (.aload_n 0, 1)) ∧ (decode cL_law 944 = .ok (.iload_n 3, 1)) ∧ (decode cL_law 945 = .ok (.iconst 1, 1)) := by decide +kernel
theorem dL_law_933 : decode cL_law 933 = .ok (.iadd, 1) := dL_law_933_grp.1
theorem dL_law_934 : decode cL_law 934 = .ok (.iaload, 1) := dL_law_933_grp.2.1
theorem dL_law_935 : decode cL_law 935 = .ok (.invokevirtual 97, 3) := dL_law_933_grp.2.2.1
theorem dL_law_938 : decode cL_law 938 = .ok (.pop, 1) := dL_law_933_grp.2.2.2.1
theorem dL_law_939 : decode cL_law 939 = .ok (.goto 424, 3) := dL_law_933_grp.2.2.2.2.1
theorem dL_law_942 : decode cL_law 942 = .ok (.aload_n 1, 1) := dL_law_933_grp.2.2.2.2.2.1
theorem dL_law_943 : decode cL_law 943 = .ok (.aload_n 0, 1) := dL_law_933_grp.2.2.2.2.2.2.1
theorem dL_law_944 : decode cL_law 944 = .ok (.iload_n 3, 1) := dL_law_933_grp.2.2.2.2.2.2.2.1
theorem dL_law_945 : decode cL_law 945 = .ok (.iconst 1, 1) := dL_law_933_grp.2.2.2.2.2.2.2.2
theorem dL_law_946_grp : (decode cL_law 946 = .ok (.iadd, 1)) ∧ (decode cL_law 947 = .ok (.iaload, 1)) ∧ (decode cL_law 948 = .ok (.aload_n 0, 1)) ∧ (decode cL_law 949 = .ok (.iload_n 3, 1)) ∧ (decode cL_law 950 = .ok (.iconst 2, 1)) ∧ (decode cL_law 951 = .ok (.iadd, 1)) ∧ (decode cL_law 952 = .ok (.iaload, 1)) ∧ (decode cL_law 953 = .ok (.invokevirtual 98, 3)) ∧ (decode cL_law 956 = .ok (.pop, 1)) := by decide +kernel
theorem dL_law_946 : decode cL_law 946 = .ok (.iadd, 1) := dL_law_946_grp.1
theorem dL_law_947 : decode cL_law 947 = .ok (.iaload, 1) := dL_law_946_grp.2.1
theorem dL_law_948 : decode cL_law 948 = .ok (.aload_n 0, 1) := dL_law_946_grp.2.2.1
theorem dL_law_949 : decode cL_law 949 = .ok (.iload_n 3, 1) := dL_law_946_grp.2.2.2.1
theorem dL_law_950 : decode cL_law 950 = .ok (.iconst 2, 1) := dL_law_946_grp.2.2.2.2.1
theorem dL_law_951 : decode cL_law 951 = .ok (.iadd, 1) := dL_law_946_grp.2.2.2.2.2.1
theorem dL_law_952 : decode cL_law 952 = .ok (.iaload, 1) := dL_law_946_grp.2.2.2.2.2.2.1
theorem dL_law_953 : decode cL_law 953 = .ok (.invokevirtual 98, 3) := dL_law_946_grp.2.2.2.2.2.2.2.1
theorem dL_law_956 : decode cL_law 956 = .ok (.pop, 1) := dL_law_946_grp.2.2.2.2.2.2.2.2
theorem dL_law_957_grp : (decode cL_law 957 = .ok (.aload_n 2, 1)) ∧ (decode cL_law 958 = .ok (.aload_n 0, 1)) ∧ (decode cL_law 959 = .ok (.iload_n 3, 1)) ∧ (decode cL_law 960 = .ok (.iconst 1, 1)) ∧ (decode cL_law 961 = .ok (.iadd, 1)) ∧ (decode cL_law 962 = .ok (.iaload, 1)) ∧ (decode cL_law 963 = .ok (.aload_n 0, 1)) ∧ (decode cL_law 964 = .ok (.iload_n 3, 1)) ∧ (decode cL_law 965 = .ok (.iconst 2, 1)) := by decide +kernel
theorem dL_law_957 : decode cL_law 957 = .ok (.aload_n 2, 1) := dL_law_957_grp.1
theorem dL_law_958 : decode cL_law 958 = .ok (.aload_n 0, 1) := dL_law_957_grp.2.1
theorem dL_law_959 : decode cL_law 959 = .ok (.iload_n 3, 1) := dL_law_957_grp.2.2.1
theorem dL_law_960 : decode cL_law 960 = .ok (.iconst 1, 1) := dL_law_957_grp.2.2.2.1
theorem dL_law_961 : decode cL_law 961 = .ok (.iadd, 1) := dL_law_957_grp.2.2.2.2.1
theorem dL_law_962 : decode cL_law 962 = .ok (.iaload, 1) := dL_law_957_grp.2.2.2.2.2.1
theorem dL_law_963 : decode cL_law 963 = .ok (.aload_n 0, 1) := dL_law_957_grp.2.2.2.2.2.2.1
theorem dL_law_964 : decode cL_law 964 = .ok (.iload_n 3, 1) := dL_law_957_grp.2.2.2.2.2.2.2.1
theorem dL_law_965 : decode cL_law 965 = .ok (.iconst 2, 1) := dL_law_957_grp.2.2.2.2.2.2.2.2
theorem dL_law_966_grp : (decode cL_law 966 = .ok (.iadd, 1)) ∧ (decode cL_law 967 = .ok (.iaload, 1)) ∧ (decode cL_law 968 = .ok (.invokevirtual 101, 3)) ∧ (decode cL_law 971 = .ok (.pop, 1)) ∧ (decode cL_law 972 = .ok (.goto 391, 3)) ∧ (decode cL_law 975 = .ok (.aload_n 1, 1)) ∧ (decode cL_law 976 = .ok (.aload_n 0, 1)) ∧ (decode cL_law 977 = .ok (.iload_n 3, 1)) ∧ (decode cL_law 978 = .ok (.iconst 1, 1)) := by decide +kernel
theorem dL_law_966 : decode cL_law 966 = .ok (.iadd, 1) := dL_law_966_grp.1
theorem dL_law_967 : decode cL_law 967 = .ok (.iaload, 1) := dL_law_966_grp.2.1
theorem dL_law_968 : decode cL_law 968 = .ok (.invokevirtual 101, 3) := dL_law_966_grp.2.2.1
theorem dL_law_971 : decode cL_law 971 = .ok (.pop, 1) := dL_law_966_grp.2.2.2.1
theorem dL_law_972 : decode cL_law 972 = .ok (.goto 391, 3) := dL_law_966_grp.2.2.2.2.1
theorem dL_law_975 : decode cL_law 975 = .ok (.aload_n 1, 1) := dL_law_966_grp.2.2.2.2.2.1
theorem dL_law_976 : decode cL_law 976 = .ok (.aload_n 0, 1) := dL_law_966_grp.2.2.2.2.2.2.1
theorem dL_law_977 : decode cL_law 977 = .ok (.iload_n 3, 1) := dL_law_966_grp.2.2.2.2.2.2.2.1
theorem dL_law_978 : decode cL_law 978 = .ok (.iconst 1, 1) := dL_law_966_grp.2.2.2.2.2.2.2.2
theorem dL_law_979_grp : (decode cL_law 979 = .ok (.iadd, 1)) ∧ (decode cL_law 980 = .ok (.iaload, 1)) ∧ (decode cL_law 981 = .ok (.invokevirtual 102, 3)) ∧ (decode cL_law 984 = .ok (.pop, 1)) ∧ (decode cL_law 985 = .ok (.aload_n 2, 1)) ∧ (decode cL_law 986 = .ok (.aload_n 0, 1)) ∧ (decode cL_law 987 = .ok (.iload_n 3, 1)) ∧ (decode cL_law 988 = .ok (.iconst 1, 1)) ∧ (decode cL_law 989 = .ok (.iadd, 1)) := by decide +kernel
theorem dL_law_979 : decode cL_law 979 = .ok (.iadd, 1) := dL_law_979_grp.1
theorem dL_law_980 : decode cL_law 980 = .ok (.iaload, 1) := dL_law_979_grp.2.1
theorem dL_law_981 : decode cL_law 981 = .ok (.invokevirtual 102, 3) := dL_law_979_grp.2.2.1
theorem dL_law_984 : decode cL_law 984 = .ok (.pop, 1) := dL_law_979_grp.2.2.2.1
theorem dL_law_985 : decode cL_law 985 = .ok (.aload_n 2, 1) := dL_law_979_grp.2.2.2.2.1
theorem dL_law_986 : decode cL_law 986 = .ok (.aload_n 0, 1) := dL_law_979_grp.2.2.2.2.2.1
theorem dL_law_987 : decode cL_law 987 = .ok (.iload_n 3, 1) := dL_law_979_grp.2.2.2.2.2.2.1
theorem dL_law_988 : decode cL_law 988 = .ok (.iconst 1, 1) := dL_law_979_grp.2.2.2.2.2.2.2.1
theorem dL_law_989 : decode cL_law 989 = .ok (.iadd, 1) := dL_law_979_grp.2.2.2.2.2.2.2.2
theorem dL_law_990_grp : (decode cL_law 990 = .ok (.iaload, 1)) ∧ (decode cL_law 991 = .ok (.invokevirtual 105, 3)) ∧ (decode cL_law 994 = .ok (.pop, 1)) ∧ (decode cL_law 995 = .ok (.goto 368, 3)) ∧ (decode cL_law 998 = .ok (.aload_n 1, 1)) ∧ (decode cL_law 999 = .ok (.invokevirtual 106, 3)) ∧ (decode cL_law 1002 = .ok (.pop, 1)) ∧ (decode cL_law 1003 = .ok (.aload_n 2, 1)) ∧ (decode cL_law 1004 = .ok (.invokevirtual 109, 3)) := by decide +kernel
theorem dL_law_990 : decode cL_law 990 = .ok (.iaload, 1) := dL_law_990_grp.1
theorem dL_law_991 : decode cL_law 991 = .ok (.invokevirtual 105, 3) := dL_law_990_grp.2.1
theorem dL_law_994 : decode cL_law 994 = .ok (.pop, 1) := dL_law_990_grp.2.2.1
theorem dL_law_995 : decode cL_law 995 = .ok (.goto 368, 3) := dL_law_990_grp.2.2.2.1
theorem dL_law_998 : decode cL_law 998 = .ok (.aload_n 1, 1) := dL_law_990_grp.2.2.2.2.1
theorem dL_law_999 : decode cL_law 999 = .ok (.invokevirtual 106, 3) := dL_law_990_grp.2.2.2.2.2.1
theorem dL_law_1002 : decode cL_law 1002 = .ok (.pop, 1) := dL_law_990_grp.2.2.2.2.2.2.1
theorem dL_law_1003 : decode cL_law 1003 = .ok (.aload_n 2, 1) := dL_law_990_grp.2.2.2.2.2.2.2.1
theorem dL_law_1004 : decode cL_law 1004 = .ok (.invokevirtual 109, 3) := dL_law_990_grp.2.2.2.2.2.2.2.2
theorem dL_law_1007_grp : (decode cL_law 1007 = .ok (.pop, 1)) ∧ (decode cL_law 1008 = .ok (.goto 355, 3)) ∧ (decode cL_law 1011 = .ok (.aload_n 1, 1)) ∧ (decode cL_law 1012 = .ok (.aload_n 0, 1)) ∧ (decode cL_law 1013 = .ok (.iload_n 3, 1)) ∧ (decode cL_law 1014 = .ok (.iconst 1, 1)) ∧ (decode cL_law 1015 = .ok (.iadd, 1)) ∧ (decode cL_law 1016 = .ok (.iaload, 1)) ∧ (decode cL_law 1017 = .ok (.aload_n 0, 1)) := by decide +kernel
theorem dL_law_1007 : decode cL_law 1007 = .ok (.pop, 1) := dL_law_1007_grp.1
theorem dL_law_1008 : decode cL_law 1008 = .ok (.goto 355, 3) := dL_law_1007_grp.2.1
theorem dL_law_1011 : decode cL_law 1011 = .ok (.aload_n 1, 1) := dL_law_1007_grp.2.2.1
theorem dL_law_1012 : decode cL_law 1012 = .ok (.aload_n 0, 1) := dL_law_1007_grp.2.2.2.1
theorem dL_law_1013 : decode cL_law 1013 = .ok (.iload_n 3, 1) := dL_law_1007_grp.2.2.2.2.1
theorem dL_law_1014 : decode cL_law 1014 = .ok (.iconst 1, 1) := dL_law_1007_grp.2.2.2.2.2.1
theorem dL_law_1015 : decode cL_law 1015 = .ok (.iadd, 1) := dL_law_1007_grp.2.2.2.2.2.2.1
theorem dL_law_1016 : decode cL_law 1016 = .ok (.iaload, 1) := dL_law_1007_grp.2.2.2.2.2.2.2.1
theorem dL_law_1017 : decode cL_law 1017 = .ok (.aload_n 0, 1) := dL_law_1007_grp.2.2.2.2.2.2.2.2
theorem dL_law_1018_grp : (decode cL_law 1018 = .ok (.iload_n 3, 1)) ∧ (decode cL_law 1019 = .ok (.iconst 2, 1)) ∧ (decode cL_law 1020 = .ok (.iadd, 1)) ∧ (decode cL_law 1021 = .ok (.iaload, 1)) ∧ (decode cL_law 1022 = .ok (.aload_n 0, 1)) ∧ (decode cL_law 1023 = .ok (.iload_n 3, 1)) ∧ (decode cL_law 1024 = .ok (.iconst 3, 1)) ∧ (decode cL_law 1025 = .ok (.iadd, 1)) ∧ (decode cL_law 1026 = .ok (.iaload, 1)) := by decide +kernel
theorem dL_law_1018 : decode cL_law 1018 = .ok (.iload_n 3, 1) := dL_law_1018_grp.1
theorem dL_law_1019 : decode cL_law 1019 = .ok (.iconst 2, 1) := dL_law_1018_grp.2.1
theorem dL_law_1020 : decode cL_law 1020 = .ok (.iadd, 1) := dL_law_1018_grp.2.2.1
theorem dL_law_1021 : decode cL_law 1021 = .ok (.iaload, 1) := dL_law_1018_grp.2.2.2.1
theorem dL_law_1022 : decode cL_law 1022 = .ok (.aload_n 0, 1) := dL_law_1018_grp.2.2.2.2.1
theorem dL_law_1023 : decode cL_law 1023 = .ok (.iload_n 3, 1) := dL_law_1018_grp.2.2.2.2.2.1
theorem dL_law_1024 : decode cL_law 1024 = .ok (.iconst 3, 1) := dL_law_1018_grp.2.2.2.2.2.2.1
theorem dL_law_1025 : decode cL_law 1025 = .ok (.iadd, 1) := dL_law_1018_grp.2.2.2.2.2.2.2.1
theorem dL_law_1026 : decode cL_law 1026 = .ok (.iaload, 1) := dL_law_1018_grp.2.2.2.2.2.2.2.2
theorem dL_law_1027_grp : (decode cL_law 1027 = .ok (.aload_n 0, 1)) ∧ (decode cL_law 1028 = .ok (.iload_n 3, 1)) ∧ (decode cL_law 1029 = .ok (.iconst 4, 1)) ∧ (decode cL_law 1030 = .ok (.iadd, 1)) ∧ (decode cL_law 1031 = .ok (.iaload, 1)) ∧ (decode cL_law 1032 = .ok (.aload_n 0, 1)) ∧ (decode cL_law 1033 = .ok (.iload_n 3, 1)) ∧ (decode cL_law 1034 = .ok (.iconst 5, 1)) ∧ (decode cL_law 1035 = .ok (.iadd, 1)) := by decide +kernel
theorem dL_law_1027 : decode cL_law 1027 = .ok (.aload_n 0, 1) := dL_law_1027_grp.1
theorem dL_law_1028 : decode cL_law 1028 = .ok (.iload_n 3, 1) := dL_law_1027_grp.2.1
theorem dL_law_1029 : decode cL_law 1029 = .ok (.iconst 4, 1) := dL_law_1027_grp.2.2.1
theorem dL_law_1030 : decode cL_law 1030 = .ok (.iadd, 1) := dL_law_1027_grp.2.2.2.1
theorem dL_law_1031 : decode cL_law 1031 = .ok (.iaload, 1) := dL_law_1027_grp.2.2.2.2.1
theorem dL_law_1032 : decode cL_law 1032 = .ok (.aload_n 0, 1) := dL_law_1027_grp.2.2.2.2.2.1
theorem dL_law_1033 : decode cL_law 1033 = .ok (.iload_n 3, 1) := dL_law_1027_grp.2.2.2.2.2.2.1
theorem dL_law_1034 : decode cL_law 1034 = .ok (.iconst 5, 1) := dL_law_1027_grp.2.2.2.2.2.2.2.1
theorem dL_law_1035 : decode cL_law 1035 = .ok (.iadd, 1) := dL_law_1027_grp.2.2.2.2.2.2.2.2
theorem dL_law_1036_grp : (decode cL_law 1036 = .ok (.iaload, 1)) ∧ (decode cL_law 1037 = .ok (.invokevirtual 110, 3)) ∧ (decode cL_law 1040 = .ok (.pop, 1)) ∧ (decode cL_law 1041 = .ok (.aload_n 2, 1)) ∧ (decode cL_law 1042 = .ok (.aload_n 0, 1)) ∧ (decode cL_law 1043 = .ok (.iload_n 3, 1)) ∧ (decode cL_law 1044 = .ok (.iconst 1, 1)) ∧ (decode cL_law 1045 = .ok (.iadd, 1)) ∧ (decode cL_law 1046 = .ok (.iaload, 1)) := by decide +kernel
theorem dL_law_1036 : decode cL_law 1036 = .ok (.iaload, 1) := dL_law_1036_grp.1
theorem dL_law_1037 : decode cL_law 1037 = .ok (.invokevirtual 110, 3) := dL_law_1036_grp.2.1
theorem dL_law_1040 : decode cL_law 1040 = .ok (.pop, 1) := dL_law_1036_grp.2.2.1
theorem dL_law_1041 : decode cL_law 1041 = .ok (.aload_n 2, 1) := dL_law_1036_grp.2.2.2.1
theorem dL_law_1042 : decode cL_law 1042 = .ok (.aload_n 0, 1) := dL_law_1036_grp.2.2.2.2.1
theorem dL_law_1043 : decode cL_law 1043 = .ok (.iload_n 3, 1) := dL_law_1036_grp.2.2.2.2.2.1
theorem dL_law_1044 : decode cL_law 1044 = .ok (.iconst 1, 1) := dL_law_1036_grp.2.2.2.2.2.2.1
theorem dL_law_1045 : decode cL_law 1045 = .ok (.iadd, 1) := dL_law_1036_grp.2.2.2.2.2.2.2.1
theorem dL_law_1046 : decode cL_law 1046 = .ok (.iaload, 1) := dL_law_1036_grp.2.2.2.2.2.2.2.2
theorem dL_law_1047_grp : (decode cL_law 1047 = .ok (.aload_n 0, 1)) ∧ (decode cL_law 1048 = .ok (.iload_n 3, 1)) ∧ (decode cL_law 1049 = .ok (.iconst 2, 1)) ∧ (decode cL_law 1050 = .ok (.iadd, 1)) ∧ (decode cL_law 1051 = .ok (.iaload, 1)) ∧ (decode cL_law 1052 = .ok (.aload_n 0, 1)) ∧ (decode cL_law 1053 = .ok (.iload_n 3, 1)) ∧ (decode cL_law 1054 = .ok (.iconst 3, 1)) ∧ (decode cL_law 1055 = .ok (.iadd, 1)) := by decide +kernel
theorem dL_law_1047 : decode cL_law 1047 = .ok (.aload_n 0, 1) := dL_law_1047_grp.1
theorem dL_law_1048 : decode cL_law 1048 = .ok (.iload_n 3, 1) := dL_law_1047_grp.2.1
theorem dL_law_1049 : decode cL_law 1049 = .ok (.iconst 2, 1) := dL_law_1047_grp.2.2.1
theorem dL_law_1050 : decode cL_law 1050 = .ok (.iadd, 1) := dL_law_1047_grp.2.2.2.1
theorem dL_law_1051 : decode cL_law 1051 = .ok (.iaload, 1) := dL_law_1047_grp.2.2.2.2.1
theorem dL_law_1052 : decode cL_law 1052 = .ok (.aload_n 0, 1) := dL_law_1047_grp.2.2.2.2.2.1
theorem dL_law_1053 : decode cL_law 1053 = .ok (.iload_n 3, 1) := dL_law_1047_grp.2.2.2.2.2.2.1
theorem dL_law_1054 : decode cL_law 1054 = .ok (.iconst 3, 1) := dL_law_1047_grp.2.2.2.2.2.2.2.1
theorem dL_law_1055 : decode cL_law 1055 = .ok (.iadd, 1) := dL_law_1047_grp.2.2.2.2.2.2.2.2
theorem dL_law_1056_grp : (decode cL_law 1056 = .ok (.iaload, 1)) ∧ (decode cL_law 1057 = .ok (.aload_n 0, 1)) ∧ (decode cL_law 1058 = .ok (.iload_n 3, 1)) ∧ (decode cL_law 1059 = .ok (.iconst 4, 1)) ∧ (decode cL_law 1060 = .ok (.iadd, 1)) ∧ (decode cL_law 1061 = .ok (.iaload, 1)) ∧ (decode cL_law 1062 = .ok (.aload_n 0, 1)) ∧ (decode cL_law 1063 = .ok (.iload_n 3, 1)) ∧ (decode cL_law 1064 = .ok (.iconst 5, 1)) := by decide +kernel
theorem dL_law_1056 : decode cL_law 1056 = .ok (.iaload, 1) := dL_law_1056_grp.1
theorem dL_law_1057 : decode cL_law 1057 = .ok (.aload_n 0, 1) := dL_law_1056_grp.2.1
theorem dL_law_1058 : decode cL_law 1058 = .ok (.iload_n 3, 1) := dL_law_1056_grp.2.2.1
theorem dL_law_1059 : decode cL_law 1059 = .ok (.iconst 4, 1) := dL_law_1056_grp.2.2.2.1
theorem dL_law_1060 : decode cL_law 1060 = .ok (.iadd, 1) := dL_law_1056_grp.2.2.2.2.1
theorem dL_law_1061 : decode cL_law 1061 = .ok (.iaload, 1) := dL_law_1056_grp.2.2.2.2.2.1
theorem dL_law_1062 : decode cL_law 1062 = .ok (.aload_n 0, 1) := dL_law_1056_grp.2.2.2.2.2.2.1
theorem dL_law_1063 : decode cL_law 1063 = .ok (.iload_n 3, 1) := dL_law_1056_grp.2.2.2.2.2.2.2.1
theorem dL_law_1064 : decode cL_law 1064 = .ok (.iconst 5, 1) := dL_law_1056_grp.2.2.2.2.2.2.2.2
theorem dL_law_1065_grp : (decode cL_law 1065 = .ok (.iadd, 1)) ∧ (decode cL_law 1066 = .ok (.iaload, 1)) ∧ (decode cL_law 1067 = .ok (.invokevirtual 113, 3)) ∧ (decode cL_law 1070 = .ok (.pop, 1)) ∧ (decode cL_law 1071 = .ok (.goto 292, 3)) ∧ (decode cL_law 1074 = .ok (.aload_n 1, 1)) ∧ (decode cL_law 1075 = .ok (.aload_n 0, 1)) ∧ (decode cL_law 1076 = .ok (.iload_n 3, 1)) ∧ (decode cL_law 1077 = .ok (.iconst 1, 1)) := by decide +kernel
theorem dL_law_1065 : decode cL_law 1065 = .ok (.iadd, 1) := dL_law_1065_grp.1
theorem dL_law_1066 : decode cL_law 1066 = .ok (.iaload, 1) := dL_law_1065_grp.2.1
theorem dL_law_1067 : decode cL_law 1067 = .ok (.invokevirtual 113, 3) := dL_law_1065_grp.2.2.1
theorem dL_law_1070 : decode cL_law 1070 = .ok (.pop, 1) := dL_law_1065_grp.2.2.2.1
theorem dL_law_1071 : decode cL_law 1071 = .ok (.goto 292, 3) := dL_law_1065_grp.2.2.2.2.1
theorem dL_law_1074 : decode cL_law 1074 = .ok (.aload_n 1, 1) := dL_law_1065_grp.2.2.2.2.2.1
theorem dL_law_1075 : decode cL_law 1075 = .ok (.aload_n 0, 1) := dL_law_1065_grp.2.2.2.2.2.2.1
theorem dL_law_1076 : decode cL_law 1076 = .ok (.iload_n 3, 1) := dL_law_1065_grp.2.2.2.2.2.2.2.1
theorem dL_law_1077 : decode cL_law 1077 = .ok (.iconst 1, 1) := dL_law_1065_grp.2.2.2.2.2.2.2.2
theorem dL_law_1078_grp : (decode cL_law 1078 = .ok (.iadd, 1)) ∧ (decode cL_law 1079 = .ok (.iaload, 1)) ∧ (decode cL_law 1080 = .ok (.invokevirtual 114, 3)) ∧ (decode cL_law 1083 = .ok (.pop, 1)) ∧ (decode cL_law 1084 = .ok (.aload_n 2, 1)) ∧ (decode cL_law 1085 = .ok (.aload_n 0, 1)) ∧ (decode cL_law 1086 = .ok (.iload_n 3, 1)) ∧ (decode cL_law 1087 = .ok (.iconst 1, 1)) ∧ (decode cL_law 1088 = .ok (.iadd, 1)) := by decide +kernel
theorem dL_law_1078 : decode cL_law 1078 = .ok (.iadd, 1) := dL_law_1078_grp.1
theorem dL_law_1079 : decode cL_law 1079 = .ok (.iaload, 1) := dL_law_1078_grp.2.1
theorem dL_law_1080 : decode cL_law 1080 = .ok (.invokevirtual 114, 3) := dL_law_1078_grp.2.2.1
theorem dL_law_1083 : decode cL_law 1083 = .ok (.pop, 1) := dL_law_1078_grp.2.2.2.1
theorem dL_law_1084 : decode cL_law 1084 = .ok (.aload_n 2, 1) := dL_law_1078_grp.2.2.2.2.1
theorem dL_law_1085 : decode cL_law 1085 = .ok (.aload_n 0, 1) := dL_law_1078_grp.2.2.2.2.2.1
theorem dL_law_1086 : decode cL_law 1086 = .ok (.iload_n 3, 1) := dL_law_1078_grp.2.2.2.2.2.2.1
theorem dL_law_1087 : decode cL_law 1087 = .ok (.iconst 1, 1) := dL_law_1078_grp.2.2.2.2.2.2.2.1
theorem dL_law_1088 : decode cL_law 1088 = .ok (.iadd, 1) := dL_law_1078_grp.2.2.2.2.2.2.2.2
theorem dL_law_1089_grp : (decode cL_law 1089 = .ok (.iaload, 1)) ∧ (decode cL_law 1090 = .ok (.invokevirtual 117, 3)) ∧ (decode cL_law 1093 = .ok (.pop, 1)) ∧ (decode cL_law 1094 = .ok (.goto 269, 3)) ∧ (decode cL_law 1097 = .ok (.aload_n 1, 1)) ∧ (decode cL_law 1098 = .ok (.invokevirtual 118, 3)) ∧ (decode cL_law 1101 = .ok (.pop, 1)) ∧ (decode cL_law 1102 = .ok (.aload_n 2, 1)) ∧ (decode cL_law 1103 = .ok (.invokevirtual 121, 3)) := by decide +kernel
theorem dL_law_1089 : decode cL_law 1089 = .ok (.iaload, 1) := dL_law_1089_grp.1
theorem dL_law_1090 : decode cL_law 1090 = .ok (.invokevirtual 117, 3) := dL_law_1089_grp.2.1
theorem dL_law_1093 : decode cL_law 1093 = .ok (.pop, 1) := dL_law_1089_grp.2.2.1
theorem dL_law_1094 : decode cL_law 1094 = .ok (.goto 269, 3) := dL_law_1089_grp.2.2.2.1
theorem dL_law_1097 : decode cL_law 1097 = .ok (.aload_n 1, 1) := dL_law_1089_grp.2.2.2.2.1
theorem dL_law_1098 : decode cL_law 1098 = .ok (.invokevirtual 118, 3) := dL_law_1089_grp.2.2.2.2.2.1
theorem dL_law_1101 : decode cL_law 1101 = .ok (.pop, 1) := dL_law_1089_grp.2.2.2.2.2.2.1
theorem dL_law_1102 : decode cL_law 1102 = .ok (.aload_n 2, 1) := dL_law_1089_grp.2.2.2.2.2.2.2.1
theorem dL_law_1103 : decode cL_law 1103 = .ok (.invokevirtual 121, 3) := dL_law_1089_grp.2.2.2.2.2.2.2.2
theorem dL_law_1106_grp : (decode cL_law 1106 = .ok (.pop, 1)) ∧ (decode cL_law 1107 = .ok (.goto 256, 3)) ∧ (decode cL_law 1110 = .ok (.aload_n 1, 1)) ∧ (decode cL_law 1111 = .ok (.aload_n 0, 1)) ∧ (decode cL_law 1112 = .ok (.iload_n 3, 1)) ∧ (decode cL_law 1113 = .ok (.iconst 1, 1)) ∧ (decode cL_law 1114 = .ok (.iadd, 1)) ∧ (decode cL_law 1115 = .ok (.iaload, 1)) ∧ (decode cL_law 1116 = .ok (.invokevirtual 122, 3)) := by decide +kernel
theorem dL_law_1106 : decode cL_law 1106 = .ok (.pop, 1) := dL_law_1106_grp.1
theorem dL_law_1107 : decode cL_law 1107 = .ok (.goto 256, 3) := dL_law_1106_grp.2.1
theorem dL_law_1110 : decode cL_law 1110 = .ok (.aload_n 1, 1) := dL_law_1106_grp.2.2.1
theorem dL_law_1111 : decode cL_law 1111 = .ok (.aload_n 0, 1) := dL_law_1106_grp.2.2.2.1
theorem dL_law_1112 : decode cL_law 1112 = .ok (.iload_n 3, 1) := dL_law_1106_grp.2.2.2.2.1
theorem dL_law_1113 : decode cL_law 1113 = .ok (.iconst 1, 1) := dL_law_1106_grp.2.2.2.2.2.1
theorem dL_law_1114 : decode cL_law 1114 = .ok (.iadd, 1) := dL_law_1106_grp.2.2.2.2.2.2.1
theorem dL_law_1115 : decode cL_law 1115 = .ok (.iaload, 1) := dL_law_1106_grp.2.2.2.2.2.2.2.1
theorem dL_law_1116 : decode cL_law 1116 = .ok (.invokevirtual 122, 3) := dL_law_1106_grp.2.2.2.2.2.2.2.2
theorem dL_law_1119_grp : (decode cL_law 1119 = .ok (.pop, 1)) ∧ (decode cL_law 1120 = .ok (.aload_n 2, 1)) ∧ (decode cL_law 1121 = .ok (.aload_n 0, 1)) ∧ (decode cL_law 1122 = .ok (.iload_n 3, 1)) ∧ (decode cL_law 1123 = .ok (.iconst 1, 1)) ∧ (decode cL_law 1124 = .ok (.iadd, 1)) ∧ (decode cL_law 1125 = .ok (.iaload, 1)) ∧ (decode cL_law 1126 = .ok (.invokevirtual 125, 3)) ∧ (decode cL_law 1129 = .ok (.pop, 1)) := by decide +kernel
theorem dL_law_1119 : decode cL_law 1119 = .ok (.pop, 1) := dL_law_1119_grp.1
theorem dL_law_1120 : decode cL_law 1120 = .ok (.aload_n 2, 1) := dL_law_1119_grp.2.1
theorem dL_law_1121 : decode cL_law 1121 = .ok (.aload_n 0, 1) := dL_law_1119_grp.2.2.1
theorem dL_law_1122 : decode cL_law 1122 = .ok (.iload_n 3, 1) := dL_law_1119_grp.2.2.2.1
theorem dL_law_1123 : decode cL_law 1123 = .ok (.iconst 1, 1) := dL_law_1119_grp.2.2.2.2.1
theorem dL_law_1124 : decode cL_law 1124 = .ok (.iadd, 1) := dL_law_1119_grp.2.2.2.2.2.1
theorem dL_law_1125 : decode cL_law 1125 = .ok (.iaload, 1) := dL_law_1119_grp.2.2.2.2.2.2.1
theorem dL_law_1126 : decode cL_law 1126 = .ok (.invokevirtual 125, 3) := dL_law_1119_grp.2.2.2.2.2.2.2.1
theorem dL_law_1129 : decode cL_law 1129 = .ok (.pop, 1) := dL_law_1119_grp.2.2.2.2.2.2.2.2
theorem dL_law_1130_grp : (decode cL_law 1130 = .ok (.goto 233, 3)) ∧ (decode cL_law 1133 = .ok (.aload_n 1, 1)) ∧ (decode cL_law 1134 = .ok (.aload_n 0, 1)) ∧ (decode cL_law 1135 = .ok (.iload_n 3, 1)) ∧ (decode cL_law 1136 = .ok (.iconst 1, 1)) ∧ (decode cL_law 1137 = .ok (.iadd, 1)) ∧ (decode cL_law 1138 = .ok (.iaload, 1)) ∧ (decode cL_law 1139 = .ok (.aload_n 0, 1)) ∧ (decode cL_law 1140 = .ok (.iload_n 3, 1)) := by decide +kernel
theorem dL_law_1130 : decode cL_law 1130 = .ok (.goto 233, 3) := dL_law_1130_grp.1
theorem dL_law_1133 : decode cL_law 1133 = .ok (.aload_n 1, 1) := dL_law_1130_grp.2.1
theorem dL_law_1134 : decode cL_law 1134 = .ok (.aload_n 0, 1) := dL_law_1130_grp.2.2.1
theorem dL_law_1135 : decode cL_law 1135 = .ok (.iload_n 3, 1) := dL_law_1130_grp.2.2.2.1
theorem dL_law_1136 : decode cL_law 1136 = .ok (.iconst 1, 1) := dL_law_1130_grp.2.2.2.2.1
theorem dL_law_1137 : decode cL_law 1137 = .ok (.iadd, 1) := dL_law_1130_grp.2.2.2.2.2.1
theorem dL_law_1138 : decode cL_law 1138 = .ok (.iaload, 1) := dL_law_1130_grp.2.2.2.2.2.2.1
theorem dL_law_1139 : decode cL_law 1139 = .ok (.aload_n 0, 1) := dL_law_1130_grp.2.2.2.2.2.2.2.1
theorem dL_law_1140 : decode cL_law 1140 = .ok (.iload_n 3, 1) := dL_law_1130_grp.2.2.2.2.2.2.2.2
theorem dL_law_1141_grp : (decode cL_law 1141 = .ok (.iconst 2, 1)) ∧ (decode cL_law 1142 = .ok (.iadd, 1)) ∧ (decode cL_law 1143 = .ok (.iaload, 1)) ∧ (decode cL_law 1144 = .ok (.invokevirtual 126, 3)) ∧ (decode cL_law 1147 = .ok (.pop, 1)) ∧ (decode cL_law 1148 = .ok (.aload_n 2, 1)) ∧ (decode cL_law 1149 = .ok (.aload_n 0, 1)) ∧ (decode cL_law 1150 = .ok (.iload_n 3, 1)) ∧ (decode cL_law 1151 = .ok (.iconst 1, 1)) := by decide +kernel
theorem dL_law_1141 : decode cL_law 1141 = .ok (.iconst 2, 1) := dL_law_1141_grp.1
theorem dL_law_1142 : decode cL_law 1142 = .ok (.iadd, 1) := dL_law_1141_grp.2.1
theorem dL_law_1143 : decode cL_law 1143 = .ok (.iaload, 1) := dL_law_1141_grp.2.2.1
theorem dL_law_1144 : decode cL_law 1144 = .ok (.invokevirtual 126, 3) := dL_law_1141_grp.2.2.2.1
theorem dL_law_1147 : decode cL_law 1147 = .ok (.pop, 1) := dL_law_1141_grp.2.2.2.2.1
theorem dL_law_1148 : decode cL_law 1148 = .ok (.aload_n 2, 1) := dL_law_1141_grp.2.2.2.2.2.1
theorem dL_law_1149 : decode cL_law 1149 = .ok (.aload_n 0, 1) := dL_law_1141_grp.2.2.2.2.2.2.1
theorem dL_law_1150 : decode cL_law 1150 = .ok (.iload_n 3, 1) := dL_law_1141_grp.2.2.2.2.2.2.2.1
theorem dL_law_1151 : decode cL_law 1151 = .ok (.iconst 1, 1) := dL_law_1141_grp.2.2.2.2.2.2.2.2
theorem dL_law_1152_grp : (decode cL_law 1152 = .ok (.iadd, 1)) ∧ (decode cL_law 1153 = .ok (.iaload, 1)) ∧ (decode cL_law 1154 = .ok (.aload_n 0, 1)) ∧ (decode cL_law 1155 = .ok (.iload_n 3, 1)) ∧ (decode cL_law 1156 = .ok (.iconst 2, 1)) ∧ (decode cL_law 1157 = .ok (.iadd, 1)) ∧ (decode cL_law 1158 = .ok (.iaload, 1)) ∧ (decode cL_law 1159 = .ok (.invokevirtual 129, 3)) ∧ (decode cL_law 1162 = .ok (.pop, 1)) := by decide +kernel
theorem dL_law_1152 : decode cL_law 1152 = .ok (.iadd, 1) := dL_law_1152_grp.1
theorem dL_law_1153 : decode cL_law 1153 = .ok (.iaload, 1) := dL_law_1152_grp.2.1
theorem dL_law_1154 : decode cL_law 1154 = .ok (.aload_n 0, 1) := dL_law_1152_grp.2.2.1
theorem dL_law_1155 : decode cL_law 1155 = .ok (.iload_n 3, 1) := dL_law_1152_grp.2.2.2.1
theorem dL_law_1156 : decode cL_law 1156 = .ok (.iconst 2, 1) := dL_law_1152_grp.2.2.2.2.1
theorem dL_law_1157 : decode cL_law 1157 = .ok (.iadd, 1) := dL_law_1152_grp.2.2.2.2.2.1
theorem dL_law_1158 : decode cL_law 1158 = .ok (.iaload, 1) := dL_law_1152_grp.2.2.2.2.2.2.1
theorem dL_law_1159 : decode cL_law 1159 = .ok (.invokevirtual 129, 3) := dL_law_1152_grp.2.2.2.2.2.2.2.1
theorem dL_law_1162 : decode cL_law 1162 = .ok (.pop, 1) := dL_law_1152_grp.2.2.2.2.2.2.2.2
theorem dL_law_1163_grp : (decode cL_law 1163 = .ok (.goto 200, 3)) ∧ (decode cL_law 1166 = .ok (.aload_n 1, 1)) ∧ (decode cL_law 1167 = .ok (.aload_n 0, 1)) ∧ (decode cL_law 1168 = .ok (.iload_n 3, 1)) ∧ (decode cL_law 1169 = .ok (.iconst 1, 1)) ∧ (decode cL_law 1170 = .ok (.iadd, 1)) ∧ (decode cL_law 1171 = .ok (.iaload, 1)) ∧ (decode cL_law 1172 = .ok (.invokevirtual 130, 3)) ∧ (decode cL_law 1175 = .ok (.pop, 1)) := by decide +kernel
theorem dL_law_1163 : decode cL_law 1163 = .ok (.goto 200, 3) := dL_law_1163_grp.1
theorem dL_law_1166 : decode cL_law 1166 = .ok (.aload_n 1, 1) := dL_law_1163_grp.2.1
theorem dL_law_1167 : decode cL_law 1167 = .ok (.aload_n 0, 1) := dL_law_1163_grp.2.2.1
theorem dL_law_1168 : decode cL_law 1168 = .ok (.iload_n 3, 1) := dL_law_1163_grp.2.2.2.1
theorem dL_law_1169 : decode cL_law 1169 = .ok (.iconst 1, 1) := dL_law_1163_grp.2.2.2.2.1
theorem dL_law_1170 : decode cL_law 1170 = .ok (.iadd, 1) := dL_law_1163_grp.2.2.2.2.2.1
theorem dL_law_1171 : decode cL_law 1171 = .ok (.iaload, 1) := dL_law_1163_grp.2.2.2.2.2.2.1
theorem dL_law_1172 : decode cL_law 1172 = .ok (.invokevirtual 130, 3) := dL_law_1163_grp.2.2.2.2.2.2.2.1
theorem dL_law_1175 : decode cL_law 1175 = .ok (.pop, 1) := dL_law_1163_grp.2.2.2.2.2.2.2.2
theorem dL_law_1176_grp : (decode cL_law 1176 = .ok (.aload_n 2, 1)) ∧ (decode cL_law 1177 = .ok (.aload_n 0, 1)) ∧ (decode cL_law 1178 = .ok (.iload_n 3, 1)) ∧ (decode cL_law 1179 = .ok (.iconst 1, 1)) ∧ (decode cL_law 1180 = .ok (.iadd, 1)) ∧ (decode cL_law 1181 = .ok (.iaload, 1)) ∧ (decode cL_law 1182 = .ok (.invokevirtual 133, 3)) ∧ (decode cL_law 1185 = .ok (.pop, 1)) ∧ (decode cL_law 1186 = .ok (.goto 177, 3)) := by decide +kernel
theorem dL_law_1176 : decode cL_law 1176 = .ok (.aload_n 2, 1) := dL_law_1176_grp.1
theorem dL_law_1177 : decode cL_law 1177 = .ok (.aload_n 0, 1) := dL_law_1176_grp.2.1
theorem dL_law_1178 : decode cL_law 1178 = .ok (.iload_n 3, 1) := dL_law_1176_grp.2.2.1
theorem dL_law_1179 : decode cL_law 1179 = .ok (.iconst 1, 1) := dL_law_1176_grp.2.2.2.1
theorem dL_law_1180 : decode cL_law 1180 = .ok (.iadd, 1) := dL_law_1176_grp.2.2.2.2.1
theorem dL_law_1181 : decode cL_law 1181 = .ok (.iaload, 1) := dL_law_1176_grp.2.2.2.2.2.1
theorem dL_law_1182 : decode cL_law 1182 = .ok (.invokevirtual 133, 3) := dL_law_1176_grp.2.2.2.2.2.2.1
theorem dL_law_1185 : decode cL_law 1185 = .ok (.pop, 1) := dL_law_1176_grp.2.2.2.2.2.2.2.1
theorem dL_law_1186 : decode cL_law 1186 = .ok (.goto 177, 3) := dL_law_1176_grp.2.2.2.2.2.2.2.2
theorem dL_law_1189_grp : (decode cL_law 1189 = .ok (.aload_n 1, 1)) ∧ (decode cL_law 1190 = .ok (.aload_n 0, 1)) ∧ (decode cL_law 1191 = .ok (.iload_n 3, 1)) ∧ (decode cL_law 1192 = .ok (.iconst 1, 1)) ∧ (decode cL_law 1193 = .ok (.iadd, 1)) ∧ (decode cL_law 1194 = .ok (.iaload, 1)) ∧ (decode cL_law 1195 = .ok (.aload_n 0, 1)) ∧ (decode cL_law 1196 = .ok (.iload_n 3, 1)) ∧ (decode cL_law 1197 = .ok (.iconst 2, 1)) := by decide +kernel
theorem dL_law_1189 : decode cL_law 1189 = .ok (.aload_n 1, 1) := dL_law_1189_grp.1
theorem dL_law_1190 : decode cL_law 1190 = .ok (.aload_n 0, 1) := dL_law_1189_grp.2.1
theorem dL_law_1191 : decode cL_law 1191 = .ok (.iload_n 3, 1) := dL_law_1189_grp.2.2.1
theorem dL_law_1192 : decode cL_law 1192 = .ok (.iconst 1, 1) := dL_law_1189_grp.2.2.2.1
theorem dL_law_1193 : decode cL_law 1193 = .ok (.iadd, 1) := dL_law_1189_grp.2.2.2.2.1
theorem dL_law_1194 : decode cL_law 1194 = .ok (.iaload, 1) := dL_law_1189_grp.2.2.2.2.2.1
theorem dL_law_1195 : decode cL_law 1195 = .ok (.aload_n 0, 1) := dL_law_1189_grp.2.2.2.2.2.2.1
theorem dL_law_1196 : decode cL_law 1196 = .ok (.iload_n 3, 1) := dL_law_1189_grp.2.2.2.2.2.2.2.1
theorem dL_law_1197 : decode cL_law 1197 = .ok (.iconst 2, 1) := dL_law_1189_grp.2.2.2.2.2.2.2.2
theorem dL_law_1198_grp : (decode cL_law 1198 = .ok (.iadd, 1)) ∧ (decode cL_law 1199 = .ok (.iaload, 1)) ∧ (decode cL_law 1200 = .ok (.aload_n 0, 1)) ∧ (decode cL_law 1201 = .ok (.iload_n 3, 1)) ∧ (decode cL_law 1202 = .ok (.iconst 3, 1)) ∧ (decode cL_law 1203 = .ok (.iadd, 1)) ∧ (decode cL_law 1204 = .ok (.iaload, 1)) ∧ (decode cL_law 1205 = .ok (.ifCond .eq 7, 3)) ∧ (decode cL_law 1208 = .ok (.iconst 1, 1)) := by decide +kernel
theorem dL_law_1198 : decode cL_law 1198 = .ok (.iadd, 1) := dL_law_1198_grp.1
theorem dL_law_1199 : decode cL_law 1199 = .ok (.iaload, 1) := dL_law_1198_grp.2.1
theorem dL_law_1200 : decode cL_law 1200 = .ok (.aload_n 0, 1) := dL_law_1198_grp.2.2.1
theorem dL_law_1201 : decode cL_law 1201 = .ok (.iload_n 3, 1) := dL_law_1198_grp.2.2.2.1
theorem dL_law_1202 : decode cL_law 1202 = .ok (.iconst 3, 1) := dL_law_1198_grp.2.2.2.2.1
theorem dL_law_1203 : decode cL_law 1203 = .ok (.iadd, 1) := dL_law_1198_grp.2.2.2.2.2.1
theorem dL_law_1204 : decode cL_law 1204 = .ok (.iaload, 1) := dL_law_1198_grp.2.2.2.2.2.2.1
theorem dL_law_1205 : decode cL_law 1205 = .ok (.ifCond .eq 7, 3) := dL_law_1198_grp.2.2.2.2.2.2.2.1
theorem dL_law_1208 : decode cL_law 1208 = .ok (.iconst 1, 1) := dL_law_1198_grp.2.2.2.2.2.2.2.2
theorem dL_law_1209_grp : (decode cL_law 1209 = .ok (.goto 4, 3)) ∧ (decode cL_law 1212 = .ok (.iconst 0, 1)) ∧ (decode cL_law 1213 = .ok (.invokevirtual 134, 3)) ∧ (decode cL_law 1216 = .ok (.pop, 1)) ∧ (decode cL_law 1217 = .ok (.aload_n 2, 1)) ∧ (decode cL_law 1218 = .ok (.aload_n 0, 1)) ∧ (decode cL_law 1219 = .ok (.iload_n 3, 1)) ∧ (decode cL_law 1220 = .ok (.iconst 1, 1)) ∧ (decode cL_law 1221 = .ok (.iadd, 1)) := by decide +kernel
theorem dL_law_1209 : decode cL_law 1209 = .ok (.goto 4, 3) := dL_law_1209_grp.1
theorem dL_law_1212 : decode cL_law 1212 = .ok (.iconst 0, 1) := dL_law_1209_grp.2.1
theorem dL_law_1213 : decode cL_law 1213 = .ok (.invokevirtual 134, 3) := dL_law_1209_grp.2.2.1
theorem dL_law_1216 : decode cL_law 1216 = .ok (.pop, 1) := dL_law_1209_grp.2.2.2.1
theorem dL_law_1217 : decode cL_law 1217 = .ok (.aload_n 2, 1) := dL_law_1209_grp.2.2.2.2.1
theorem dL_law_1218 : decode cL_law 1218 = .ok (.aload_n 0, 1) := dL_law_1209_grp.2.2.2.2.2.1
theorem dL_law_1219 : decode cL_law 1219 = .ok (.iload_n 3, 1) := dL_law_1209_grp.2.2.2.2.2.2.1
theorem dL_law_1220 : decode cL_law 1220 = .ok (.iconst 1, 1) := dL_law_1209_grp.2.2.2.2.2.2.2.1
theorem dL_law_1221 : decode cL_law 1221 = .ok (.iadd, 1) := dL_law_1209_grp.2.2.2.2.2.2.2.2
theorem dL_law_1222_grp : (decode cL_law 1222 = .ok (.iaload, 1)) ∧ (decode cL_law 1223 = .ok (.aload_n 0, 1)) ∧ (decode cL_law 1224 = .ok (.iload_n 3, 1)) ∧ (decode cL_law 1225 = .ok (.iconst 2, 1)) ∧ (decode cL_law 1226 = .ok (.iadd, 1)) ∧ (decode cL_law 1227 = .ok (.iaload, 1)) ∧ (decode cL_law 1228 = .ok (.aload_n 0, 1)) ∧ (decode cL_law 1229 = .ok (.iload_n 3, 1)) ∧ (decode cL_law 1230 = .ok (.iconst 3, 1)) := by decide +kernel
theorem dL_law_1222 : decode cL_law 1222 = .ok (.iaload, 1) := dL_law_1222_grp.1
theorem dL_law_1223 : decode cL_law 1223 = .ok (.aload_n 0, 1) := dL_law_1222_grp.2.1
theorem dL_law_1224 : decode cL_law 1224 = .ok (.iload_n 3, 1) := dL_law_1222_grp.2.2.1
theorem dL_law_1225 : decode cL_law 1225 = .ok (.iconst 2, 1) := dL_law_1222_grp.2.2.2.1
theorem dL_law_1226 : decode cL_law 1226 = .ok (.iadd, 1) := dL_law_1222_grp.2.2.2.2.1
theorem dL_law_1227 : decode cL_law 1227 = .ok (.iaload, 1) := dL_law_1222_grp.2.2.2.2.2.1
theorem dL_law_1228 : decode cL_law 1228 = .ok (.aload_n 0, 1) := dL_law_1222_grp.2.2.2.2.2.2.1
theorem dL_law_1229 : decode cL_law 1229 = .ok (.iload_n 3, 1) := dL_law_1222_grp.2.2.2.2.2.2.2.1
theorem dL_law_1230 : decode cL_law 1230 = .ok (.iconst 3, 1) := dL_law_1222_grp.2.2.2.2.2.2.2.2
theorem dL_law_1231_grp : (decode cL_law 1231 = .ok (.iadd, 1)) ∧ (decode cL_law 1232 = .ok (.iaload, 1)) ∧ (decode cL_law 1233 = .ok (.ifCond .eq 7, 3)) ∧ (decode cL_law 1236 = .ok (.iconst 1, 1)) ∧ (decode cL_law 1237 = .ok (.goto 4, 3)) ∧ (decode cL_law 1240 = .ok (.iconst 0, 1)) ∧ (decode cL_law 1241 = .ok (.invokevirtual 138, 3)) ∧ (decode cL_law 1244 = .ok (.pop, 1)) ∧ (decode cL_law 1245 = .ok (.goto 118, 3)) := by decide +kernel
theorem dL_law_1231 : decode cL_law 1231 = .ok (.iadd, 1) := dL_law_1231_grp.1
theorem dL_law_1232 : decode cL_law 1232 = .ok (.iaload, 1) := dL_law_1231_grp.2.1
theorem dL_law_1233 : decode cL_law 1233 = .ok (.ifCond .eq 7, 3) := dL_law_1231_grp.2.2.1
theorem dL_law_1236 : decode cL_law 1236 = .ok (.iconst 1, 1) := dL_law_1231_grp.2.2.2.1
theorem dL_law_1237 : decode cL_law 1237 = .ok (.goto 4, 3) := dL_law_1231_grp.2.2.2.2.1
theorem dL_law_1240 : decode cL_law 1240 = .ok (.iconst 0, 1) := dL_law_1231_grp.2.2.2.2.2.1
theorem dL_law_1241 : decode cL_law 1241 = .ok (.invokevirtual 138, 3) := dL_law_1231_grp.2.2.2.2.2.2.1
theorem dL_law_1244 : decode cL_law 1244 = .ok (.pop, 1) := dL_law_1231_grp.2.2.2.2.2.2.2.1
theorem dL_law_1245 : decode cL_law 1245 = .ok (.goto 118, 3) := dL_law_1231_grp.2.2.2.2.2.2.2.2
theorem dL_law_1248_grp : (decode cL_law 1248 = .ok (.aload_n 1, 1)) ∧ (decode cL_law 1249 = .ok (.aload_n 0, 1)) ∧ (decode cL_law 1250 = .ok (.iload_n 3, 1)) ∧ (decode cL_law 1251 = .ok (.iconst 1, 1)) ∧ (decode cL_law 1252 = .ok (.iadd, 1)) ∧ (decode cL_law 1253 = .ok (.iaload, 1)) ∧ (decode cL_law 1254 = .ok (.invokevirtual 139, 3)) ∧ (decode cL_law 1257 = .ok (.aload_n 2, 1)) ∧ (decode cL_law 1258 = .ok (.aload_n 0, 1)) := by decide +kernel
theorem dL_law_1248 : decode cL_law 1248 = .ok (.aload_n 1, 1) := dL_law_1248_grp.1
theorem dL_law_1249 : decode cL_law 1249 = .ok (.aload_n 0, 1) := dL_law_1248_grp.2.1
theorem dL_law_1250 : decode cL_law 1250 = .ok (.iload_n 3, 1) := dL_law_1248_grp.2.2.1
theorem dL_law_1251 : decode cL_law 1251 = .ok (.iconst 1, 1) := dL_law_1248_grp.2.2.2.1
theorem dL_law_1252 : decode cL_law 1252 = .ok (.iadd, 1) := dL_law_1248_grp.2.2.2.2.1
theorem dL_law_1253 : decode cL_law 1253 = .ok (.iaload, 1) := dL_law_1248_grp.2.2.2.2.2.1
theorem dL_law_1254 : decode cL_law 1254 = .ok (.invokevirtual 139, 3) := dL_law_1248_grp.2.2.2.2.2.2.1
theorem dL_law_1257 : decode cL_law 1257 = .ok (.aload_n 2, 1) := dL_law_1248_grp.2.2.2.2.2.2.2.1
theorem dL_law_1258 : decode cL_law 1258 = .ok (.aload_n 0, 1) := dL_law_1248_grp.2.2.2.2.2.2.2.2
theorem dL_law_1259_grp : (decode cL_law 1259 = .ok (.iload_n 3, 1)) ∧ (decode cL_law 1260 = .ok (.iconst 1, 1)) ∧ (decode cL_law 1261 = .ok (.iadd, 1)) ∧ (decode cL_law 1262 = .ok (.iaload, 1)) ∧ (decode cL_law 1263 = .ok (.invokevirtual 142, 3)) ∧ (decode cL_law 1266 = .ok (.if_icmp .eq 97, 3)) ∧ (decode cL_law 1269 = .ok (.iconst 0, 1)) ∧ (decode cL_law 1270 = .ok (.ireturn, 1)) ∧ (decode cL_law 1271 = .ok (.aload_n 1, 1)) := by decide +kernel
theorem dL_law_1259 : decode cL_law 1259 = .ok (.iload_n 3, 1) := dL_law_1259_grp.1
theorem dL_law_1260 : decode cL_law 1260 = .ok (.iconst 1, 1) := dL_law_1259_grp.2.1
theorem dL_law_1261 : decode cL_law 1261 = .ok (.iadd, 1) := dL_law_1259_grp.2.2.1
theorem dL_law_1262 : decode cL_law 1262 = .ok (.iaload, 1) := dL_law_1259_grp.2.2.2.1
theorem dL_law_1263 : decode cL_law 1263 = .ok (.invokevirtual 142, 3) := dL_law_1259_grp.2.2.2.2.1
theorem dL_law_1266 : decode cL_law 1266 = .ok (.if_icmp .eq 97, 3) := dL_law_1259_grp.2.2.2.2.2.1
theorem dL_law_1269 : decode cL_law 1269 = .ok (.iconst 0, 1) := dL_law_1259_grp.2.2.2.2.2.2.1
theorem dL_law_1270 : decode cL_law 1270 = .ok (.ireturn, 1) := dL_law_1259_grp.2.2.2.2.2.2.2.1
theorem dL_law_1271 : decode cL_law 1271 = .ok (.aload_n 1, 1) := dL_law_1259_grp.2.2.2.2.2.2.2.2
theorem dL_law_1272_grp : (decode cL_law 1272 = .ok (.aload_n 0, 1)) ∧ (decode cL_law 1273 = .ok (.iload_n 3, 1)) ∧ (decode cL_law 1274 = .ok (.iconst 1, 1)) ∧ (decode cL_law 1275 = .ok (.iadd, 1)) ∧ (decode cL_law 1276 = .ok (.iaload, 1)) ∧ (decode cL_law 1277 = .ok (.aload_n 0, 1)) ∧ (decode cL_law 1278 = .ok (.iload_n 3, 1)) ∧ (decode cL_law 1279 = .ok (.iconst 2, 1)) ∧ (decode cL_law 1280 = .ok (.iadd, 1)) := by decide +kernel
theorem dL_law_1272 : decode cL_law 1272 = .ok (.aload_n 0, 1) := dL_law_1272_grp.1
theorem dL_law_1273 : decode cL_law 1273 = .ok (.iload_n 3, 1) := dL_law_1272_grp.2.1
theorem dL_law_1274 : decode cL_law 1274 = .ok (.iconst 1, 1) := dL_law_1272_grp.2.2.1
theorem dL_law_1275 : decode cL_law 1275 = .ok (.iadd, 1) := dL_law_1272_grp.2.2.2.1
theorem dL_law_1276 : decode cL_law 1276 = .ok (.iaload, 1) := dL_law_1272_grp.2.2.2.2.1
theorem dL_law_1277 : decode cL_law 1277 = .ok (.aload_n 0, 1) := dL_law_1272_grp.2.2.2.2.2.1
theorem dL_law_1278 : decode cL_law 1278 = .ok (.iload_n 3, 1) := dL_law_1272_grp.2.2.2.2.2.2.1
theorem dL_law_1279 : decode cL_law 1279 = .ok (.iconst 2, 1) := dL_law_1272_grp.2.2.2.2.2.2.2.1
theorem dL_law_1280 : decode cL_law 1280 = .ok (.iadd, 1) := dL_law_1272_grp.2.2.2.2.2.2.2.2
theorem dL_law_1281_grp : (decode cL_law 1281 = .ok (.iaload, 1)) ∧ (decode cL_law 1282 = .ok (.invokevirtual 143, 3)) ∧ (decode cL_law 1285 = .ok (.pop, 1)) ∧ (decode cL_law 1286 = .ok (.aload_n 2, 1)) ∧ (decode cL_law 1287 = .ok (.aload_n 0, 1)) ∧ (decode cL_law 1288 = .ok (.iload_n 3, 1)) ∧ (decode cL_law 1289 = .ok (.iconst 1, 1)) ∧ (decode cL_law 1290 = .ok (.iadd, 1)) ∧ (decode cL_law 1291 = .ok (.iaload, 1)) := by decide +kernel
theorem dL_law_1281 : decode cL_law 1281 = .ok (.iaload, 1) := dL_law_1281_grp.1
theorem dL_law_1282 : decode cL_law 1282 = .ok (.invokevirtual 143, 3) := dL_law_1281_grp.2.1
theorem dL_law_1285 : decode cL_law 1285 = .ok (.pop, 1) := dL_law_1281_grp.2.2.1
theorem dL_law_1286 : decode cL_law 1286 = .ok (.aload_n 2, 1) := dL_law_1281_grp.2.2.2.1
theorem dL_law_1287 : decode cL_law 1287 = .ok (.aload_n 0, 1) := dL_law_1281_grp.2.2.2.2.1
theorem dL_law_1288 : decode cL_law 1288 = .ok (.iload_n 3, 1) := dL_law_1281_grp.2.2.2.2.2.1
theorem dL_law_1289 : decode cL_law 1289 = .ok (.iconst 1, 1) := dL_law_1281_grp.2.2.2.2.2.2.1
theorem dL_law_1290 : decode cL_law 1290 = .ok (.iadd, 1) := dL_law_1281_grp.2.2.2.2.2.2.2.1
theorem dL_law_1291 : decode cL_law 1291 = .ok (.iaload, 1) := dL_law_1281_grp.2.2.2.2.2.2.2.2
theorem dL_law_1292_grp : (decode cL_law 1292 = .ok (.aload_n 0, 1)) ∧ (decode cL_law 1293 = .ok (.iload_n 3, 1)) ∧ (decode cL_law 1294 = .ok (.iconst 2, 1)) ∧ (decode cL_law 1295 = .ok (.iadd, 1)) ∧ (decode cL_law 1296 = .ok (.iaload, 1)) ∧ (decode cL_law 1297 = .ok (.invokevirtual 146, 3)) ∧ (decode cL_law 1300 = .ok (.pop, 1)) ∧ (decode cL_law 1301 = .ok (.goto 62, 3)) ∧ (decode cL_law 1304 = .ok (.aload_n 1, 1)) := by decide +kernel
theorem dL_law_1292 : decode cL_law 1292 = .ok (.aload_n 0, 1) := dL_law_1292_grp.1
theorem dL_law_1293 : decode cL_law 1293 = .ok (.iload_n 3, 1) := dL_law_1292_grp.2.1
theorem dL_law_1294 : decode cL_law 1294 = .ok (.iconst 2, 1) := dL_law_1292_grp.2.2.1
theorem dL_law_1295 : decode cL_law 1295 = .ok (.iadd, 1) := dL_law_1292_grp.2.2.2.1
theorem dL_law_1296 : decode cL_law 1296 = .ok (.iaload, 1) := dL_law_1292_grp.2.2.2.2.1
theorem dL_law_1297 : decode cL_law 1297 = .ok (.invokevirtual 146, 3) := dL_law_1292_grp.2.2.2.2.2.1
theorem dL_law_1300 : decode cL_law 1300 = .ok (.pop, 1) := dL_law_1292_grp.2.2.2.2.2.2.1
theorem dL_law_1301 : decode cL_law 1301 = .ok (.goto 62, 3) := dL_law_1292_grp.2.2.2.2.2.2.2.1
theorem dL_law_1304 : decode cL_law 1304 = .ok (.aload_n 1, 1) := dL_law_1292_grp.2.2.2.2.2.2.2.2
theorem dL_law_1305_grp : (decode cL_law 1305 = .ok (.aload_n 0, 1)) ∧ (decode cL_law 1306 = .ok (.iload_n 3, 1)) ∧ (decode cL_law 1307 = .ok (.iconst 1, 1)) ∧ (decode cL_law 1308 = .ok (.iadd, 1)) ∧ (decode cL_law 1309 = .ok (.iaload, 1)) ∧ (decode cL_law 1310 = .ok (.invokevirtual 147, 3)) ∧ (decode cL_law 1313 = .ok (.pop, 1)) ∧ (decode cL_law 1314 = .ok (.aload_n 2, 1)) ∧ (decode cL_law 1315 = .ok (.aload_n 0, 1)) := by decide +kernel
theorem dL_law_1305 : decode cL_law 1305 = .ok (.aload_n 0, 1) := dL_law_1305_grp.1
theorem dL_law_1306 : decode cL_law 1306 = .ok (.iload_n 3, 1) := dL_law_1305_grp.2.1
theorem dL_law_1307 : decode cL_law 1307 = .ok (.iconst 1, 1) := dL_law_1305_grp.2.2.1
theorem dL_law_1308 : decode cL_law 1308 = .ok (.iadd, 1) := dL_law_1305_grp.2.2.2.1
theorem dL_law_1309 : decode cL_law 1309 = .ok (.iaload, 1) := dL_law_1305_grp.2.2.2.2.1
theorem dL_law_1310 : decode cL_law 1310 = .ok (.invokevirtual 147, 3) := dL_law_1305_grp.2.2.2.2.2.1
theorem dL_law_1313 : decode cL_law 1313 = .ok (.pop, 1) := dL_law_1305_grp.2.2.2.2.2.2.1
theorem dL_law_1314 : decode cL_law 1314 = .ok (.aload_n 2, 1) := dL_law_1305_grp.2.2.2.2.2.2.2.1
theorem dL_law_1315 : decode cL_law 1315 = .ok (.aload_n 0, 1) := dL_law_1305_grp.2.2.2.2.2.2.2.2
theorem dL_law_1316_grp : (decode cL_law 1316 = .ok (.iload_n 3, 1)) ∧ (decode cL_law 1317 = .ok (.iconst 1, 1)) ∧ (decode cL_law 1318 = .ok (.iadd, 1)) ∧ (decode cL_law 1319 = .ok (.iaload, 1)) ∧ (decode cL_law 1320 = .ok (.invokevirtual 150, 3)) ∧ (decode cL_law 1323 = .ok (.pop, 1)) ∧ (decode cL_law 1324 = .ok (.goto 39, 3)) ∧ (decode cL_law 1327 = .ok (.aload_n 1, 1)) ∧ (decode cL_law 1328 = .ok (.invokevirtual 151, 3)) := by decide +kernel
theorem dL_law_1316 : decode cL_law 1316 = .ok (.iload_n 3, 1) := dL_law_1316_grp.1
theorem dL_law_1317 : decode cL_law 1317 = .ok (.iconst 1, 1) := dL_law_1316_grp.2.1
theorem dL_law_1318 : decode cL_law 1318 = .ok (.iadd, 1) := dL_law_1316_grp.2.2.1
theorem dL_law_1319 : decode cL_law 1319 = .ok (.iaload, 1) := dL_law_1316_grp.2.2.2.1
theorem dL_law_1320 : decode cL_law 1320 = .ok (.invokevirtual 150, 3) := dL_law_1316_grp.2.2.2.2.1
theorem dL_law_1323 : decode cL_law 1323 = .ok (.pop, 1) := dL_law_1316_grp.2.2.2.2.2.1
theorem dL_law_1324 : decode cL_law 1324 = .ok (.goto 39, 3) := dL_law_1316_grp.2.2.2.2.2.2.1
theorem dL_law_1327 : decode cL_law 1327 = .ok (.aload_n 1, 1) := dL_law_1316_grp.2.2.2.2.2.2.2.1
theorem dL_law_1328 : decode cL_law 1328 = .ok (.invokevirtual 151, 3) := dL_law_1316_grp.2.2.2.2.2.2.2.2
theorem dL_law_1331_grp : (decode cL_law 1331 = .ok (.pop, 1)) ∧ (decode cL_law 1332 = .ok (.aload_n 2, 1)) ∧ (decode cL_law 1333 = .ok (.invokevirtual 154, 3)) ∧ (decode cL_law 1336 = .ok (.pop, 1)) ∧ (decode cL_law 1337 = .ok (.goto 26, 3)) ∧ (decode cL_law 1340 = .ok (.aload_n 1, 1)) ∧ (decode cL_law 1341 = .ok (.aload_n 0, 1)) ∧ (decode cL_law 1342 = .ok (.iload_n 3, 1)) ∧ (decode cL_law 1343 = .ok (.iconst 1, 1)) := by decide +kernel
theorem dL_law_1331 : decode cL_law 1331 = .ok (.pop, 1) := dL_law_1331_grp.1
theorem dL_law_1332 : decode cL_law 1332 = .ok (.aload_n 2, 1) := dL_law_1331_grp.2.1
theorem dL_law_1333 : decode cL_law 1333 = .ok (.invokevirtual 154, 3) := dL_law_1331_grp.2.2.1
theorem dL_law_1336 : decode cL_law 1336 = .ok (.pop, 1) := dL_law_1331_grp.2.2.2.1
theorem dL_law_1337 : decode cL_law 1337 = .ok (.goto 26, 3) := dL_law_1331_grp.2.2.2.2.1
theorem dL_law_1340 : decode cL_law 1340 = .ok (.aload_n 1, 1) := dL_law_1331_grp.2.2.2.2.2.1
theorem dL_law_1341 : decode cL_law 1341 = .ok (.aload_n 0, 1) := dL_law_1331_grp.2.2.2.2.2.2.1
theorem dL_law_1342 : decode cL_law 1342 = .ok (.iload_n 3, 1) := dL_law_1331_grp.2.2.2.2.2.2.2.1
theorem dL_law_1343 : decode cL_law 1343 = .ok (.iconst 1, 1) := dL_law_1331_grp.2.2.2.2.2.2.2.2
theorem dL_law_1344_grp : (decode cL_law 1344 = .ok (.iadd, 1)) ∧ (decode cL_law 1345 = .ok (.iaload, 1)) ∧ (decode cL_law 1346 = .ok (.invokevirtual 155, 3)) ∧ (decode cL_law 1349 = .ok (.pop, 1)) ∧ (decode cL_law 1350 = .ok (.aload_n 2, 1)) ∧ (decode cL_law 1351 = .ok (.aload_n 0, 1)) ∧ (decode cL_law 1352 = .ok (.iload_n 3, 1)) ∧ (decode cL_law 1353 = .ok (.iconst 1, 1)) ∧ (decode cL_law 1354 = .ok (.iadd, 1)) := by decide +kernel
theorem dL_law_1344 : decode cL_law 1344 = .ok (.iadd, 1) := dL_law_1344_grp.1
theorem dL_law_1345 : decode cL_law 1345 = .ok (.iaload, 1) := dL_law_1344_grp.2.1
theorem dL_law_1346 : decode cL_law 1346 = .ok (.invokevirtual 155, 3) := dL_law_1344_grp.2.2.1
theorem dL_law_1349 : decode cL_law 1349 = .ok (.pop, 1) := dL_law_1344_grp.2.2.2.1
theorem dL_law_1350 : decode cL_law 1350 = .ok (.aload_n 2, 1) := dL_law_1344_grp.2.2.2.2.1
theorem dL_law_1351 : decode cL_law 1351 = .ok (.aload_n 0, 1) := dL_law_1344_grp.2.2.2.2.2.1
theorem dL_law_1352 : decode cL_law 1352 = .ok (.iload_n 3, 1) := dL_law_1344_grp.2.2.2.2.2.2.1
theorem dL_law_1353 : decode cL_law 1353 = .ok (.iconst 1, 1) := dL_law_1344_grp.2.2.2.2.2.2.2.1
theorem dL_law_1354 : decode cL_law 1354 = .ok (.iadd, 1) := dL_law_1344_grp.2.2.2.2.2.2.2.2
theorem dL_law_1355_grp : (decode cL_law 1355 = .ok (.iaload, 1)) ∧ (decode cL_law 1356 = .ok (.invokevirtual 158, 3)) ∧ (decode cL_law 1359 = .ok (.pop, 1)) ∧ (decode cL_law 1360 = .ok (.goto 3, 3)) ∧ (decode cL_law 1363 = .ok (.iinc 3 7, 3)) ∧ (decode cL_law 1366 = .ok (.goto (-1348), 3)) ∧ (decode cL_law 1369 = .ok (.iconst 1, 1)) ∧ (decode cL_law 1370 = .ok (.ireturn, 1)) := by decide +kernel
theorem dL_law_1355 : decode cL_law 1355 = .ok (.iaload, 1) := dL_law_1355_grp.1
theorem dL_law_1356 : decode cL_law 1356 = .ok (.invokevirtual 158, 3) := dL_law_1355_grp.2.1
theorem dL_law_1359 : decode cL_law 1359 = .ok (.pop, 1) := dL_law_1355_grp.2.2.1
theorem dL_law_1360 : decode cL_law 1360 = .ok (.goto 3, 3) := dL_law_1355_grp.2.2.2.1
theorem dL_law_1363 : decode cL_law 1363 = .ok (.iinc 3 7, 3) := dL_law_1355_grp.2.2.2.2.1
theorem dL_law_1366 : decode cL_law 1366 = .ok (.goto (-1348), 3) := dL_law_1355_grp.2.2.2.2.2.1
theorem dL_law_1369 : decode cL_law 1369 = .ok (.iconst 1, 1) := dL_law_1355_grp.2.2.2.2.2.2.1
theorem dL_law_1370 : decode cL_law 1370 = .ok (.ireturn, 1) := dL_law_1355_grp.2.2.2.2.2.2.2
