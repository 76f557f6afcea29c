/-! the instruction at a place; by program (wip/tools/atl.py) -/
theorem at_X0_bitsBy_0 : ab_at mX0_bitsBy 0 = some (.iload_n 2, 1, (0, 99999, 0), []) := rfl
theorem at_X0_bitsBy_1 : ab_at mX0_bitsBy 1 = some (.iconst 1, 1, (0, 99999, 0), []) := rfl
theorem at_X0_bitsBy_10 : ab_at mX0_bitsBy 10 = some (.ireturn, 1, (0, 99999, 0), []) := rfl
theorem at_X0_bitsBy_11 : ab_at mX0_bitsBy 11 = some (.aload_n 0, 1, (0, 99999, 0), []) := rfl
theorem at_X0_bitsBy_12 : ab_at mX0_bitsBy 12 = some (.aload_n 1, 1, (0, 99999, 0), []) := rfl
theorem at_X0_bitsBy_13 : ab_at mX0_bitsBy 13 = some (.aload_n 1, 1, (0, 99999, 0), []) := rfl
theorem at_X0_bitsBy_14 : ab_at mX0_bitsBy 14 = some (.invokevirtual 21, 3, (3, 63, 0), [4]) := rfl
theorem at_X0_bitsBy_17 : ab_at mX0_bitsBy 17 = some (.invokevirtual 25, 3, (3, 2, 2), [5]) := rfl
theorem at_X0_bitsBy_2 : ab_at mX0_bitsBy 2 = some (.if_icmp .ne 9, 3, (0, 99999, 0), []) := rfl
theorem at_X0_bitsBy_20 : ab_at mX0_bitsBy 20 = some (.aload_n 0, 1, (0, 99999, 0), []) := rfl
theorem at_X0_bitsBy_21 : ab_at mX0_bitsBy 21 = some (.iload_n 3, 1, (0, 99999, 0), []) := rfl
theorem at_X0_bitsBy_22 : ab_at mX0_bitsBy 22 = some (.invokevirtual 29, 3, (3, 4, 1), [6]) := rfl
theorem at_X0_bitsBy_25 : ab_at mX0_bitsBy 25 = some (.ireturn, 1, (0, 99999, 0), []) := rfl
theorem at_X0_bitsBy_5 : ab_at mX0_bitsBy 5 = some (.aload_n 1, 1, (0, 99999, 0), []) := rfl
theorem at_X0_bitsBy_6 : ab_at mX0_bitsBy 6 = some (.iload_n 3, 1, (0, 99999, 0), []) := rfl
theorem at_X0_bitsBy_7 : ab_at mX0_bitsBy 7 = some (.invokevirtual 17, 3, (3, 69, 1), [3]) := rfl
theorem at_X0_fewestFor_0 : ab_at mX0_fewestFor 0 = some (.iload_n 1, 1, (0, 99999, 0), []) := rfl
theorem at_X0_fewestFor_1 : ab_at mX0_fewestFor 1 = some (.invokestatic 57, 3, (4, 48, 1), [15]) := rfl
theorem at_X0_fewestFor_11 : ab_at mX0_fewestFor 11 = some (.iload_n 1, 1, (0, 99999, 0), []) := rfl
theorem at_X0_fewestFor_12 : ab_at mX0_fewestFor 12 = some (.iaload, 1, (0, 99999, 0), []) := rfl
theorem at_X0_fewestFor_13 : ab_at mX0_fewestFor 13 = some (.iconst (-1), 1, (0, 99999, 0), []) := rfl
theorem at_X0_fewestFor_14 : ab_at mX0_fewestFor 14 = some (.if_icmp .ne 5, 3, (0, 99999, 0), []) := rfl
theorem at_X0_fewestFor_17 : ab_at mX0_fewestFor 17 = some (.iconst (-1), 1, (0, 99999, 0), []) := rfl
theorem at_X0_fewestFor_18 : ab_at mX0_fewestFor 18 = some (.ireturn, 1, (0, 99999, 0), []) := rfl
theorem at_X0_fewestFor_19 : ab_at mX0_fewestFor 19 = some (.aload_n 0, 1, (0, 99999, 0), []) := rfl
theorem at_X0_fewestFor_20 : ab_at mX0_fewestFor 20 = some (.getfield 13, 3, (1, 0, 0), [7]) := rfl
theorem at_X0_fewestFor_23 : ab_at mX0_fewestFor 23 = some (.iload_n 1, 1, (0, 99999, 0), []) := rfl
theorem at_X0_fewestFor_24 : ab_at mX0_fewestFor 24 = some (.iaload, 1, (0, 99999, 0), []) := rfl
theorem at_X0_fewestFor_25 : ab_at mX0_fewestFor 25 = some (.sipush 1023, 3, (0, 99999, 0), []) := rfl
theorem at_X0_fewestFor_28 : ab_at mX0_fewestFor 28 = some (.iand, 1, (0, 99999, 0), []) := rfl
theorem at_X0_fewestFor_29 : ab_at mX0_fewestFor 29 = some (.ireturn, 1, (0, 99999, 0), []) := rfl
theorem at_X0_fewestFor_4 : ab_at mX0_fewestFor 4 = some (.ifCond .eq 13, 3, (0, 99999, 0), []) := rfl
theorem at_X0_fewestFor_7 : ab_at mX0_fewestFor 7 = some (.aload_n 0, 1, (0, 99999, 0), []) := rfl
theorem at_X0_fewestFor_8 : ab_at mX0_fewestFor 8 = some (.getfield 13, 3, (1, 0, 0), [7]) := rfl
theorem at_X0_putIn_12 : ab_at mX0_putIn 12 = some (.iload_n 3, 1, (0, 99999, 0), []) := rfl
theorem at_X0_putIn_13 : ab_at mX0_putIn 13 = some (.iload_n 1, 1, (0, 99999, 0), []) := rfl
theorem at_X0_putIn_14 : ab_at mX0_putIn 14 = some (.isub, 1, (0, 99999, 0), []) := rfl
theorem at_X0_putIn_15 : ab_at mX0_putIn 15 = some (.iaload, 1, (0, 99999, 0), []) := rfl
theorem at_X0_putIn_16 : ab_at mX0_putIn 16 = some (.istore 4, 2, (0, 99999, 0), []) := rfl
theorem at_X0_putIn_18 : ab_at mX0_putIn 18 = some (.iload 4, 2, (0, 99999, 0), []) := rfl
theorem at_X0_putIn_20 : ab_at mX0_putIn 20 = some (.iconst (-1), 1, (0, 99999, 0), []) := rfl
theorem at_X0_putIn_21 : ab_at mX0_putIn 21 = some (.if_icmp .eq 36, 3, (0, 99999, 0), []) := rfl
theorem at_X0_putIn_3 : ab_at mX0_putIn 3 = some (.iload_n 3, 1, (0, 99999, 0), []) := rfl
theorem at_X0_putIn_4 : ab_at mX0_putIn 4 = some (.iload_n 1, 1, (0, 99999, 0), []) := rfl
theorem at_X0_putIn_5 : ab_at mX0_putIn 5 = some (.if_icmp .lt 58, 3, (0, 99999, 0), []) := rfl
theorem at_X0_putIn_57 : ab_at mX0_putIn 57 = some (.iinc 3 (-1), 3, (0, 99999, 0), []) := rfl
theorem at_X0_putIn_60 : ab_at mX0_putIn 60 = some (.goto (-57), 3, (0, 99999, 0), []) := rfl
theorem at_X0_putIn_8 : ab_at mX0_putIn 8 = some (.aload_n 0, 1, (0, 99999, 0), []) := rfl
theorem at_X0_putIn_9 : ab_at mX0_putIn 9 = some (.getfield 13, 3, (1, 0, 0), [7]) := rfl
theorem at_X0_weigh_17 : ab_at mX0_weigh 17 = some (.iload_n 3, 1, (0, 99999, 0), []) := rfl
theorem at_X0_weigh_18 : ab_at mX0_weigh 18 = some (.aload_n 1, 1, (0, 99999, 0), []) := rfl
theorem at_X0_weigh_19 : ab_at mX0_weigh 19 = some (.getfield 38, 3, (1, 4, 9), [9]) := rfl
theorem at_X0_weigh_22 : ab_at mX0_weigh 22 = some (.if_icmp .ge 46, 3, (0, 99999, 0), []) := rfl
theorem at_X0_weigh_25 : ab_at mX0_weigh 25 = some (.iload_n 2, 1, (0, 99999, 0), []) := rfl
theorem at_X0_weigh_26 : ab_at mX0_weigh 26 = some (.iload_n 3, 1, (0, 99999, 0), []) := rfl
theorem at_X0_weigh_27 : ab_at mX0_weigh 27 = some (.invokestatic 42, 3, (4, 49, 2), [10]) := rfl
theorem at_X0_weigh_30 : ab_at mX0_weigh 30 = some (.ifCond .eq 32, 3, (0, 99999, 0), []) := rfl
theorem at_X0_weigh_62 : ab_at mX0_weigh 62 = some (.iinc 3 1, 3, (0, 99999, 0), []) := rfl
theorem at_X0_weigh_65 : ab_at mX0_weigh 65 = some (.goto (-48), 3, (0, 99999, 0), []) := rfl
theorem at_X1_answerFrom_0 : ab_at mX1_answerFrom 0 = some (.iload 4, 2, (0, 99999, 0), []) := rfl
theorem at_X1_answerFrom_11 : ab_at mX1_answerFrom 11 = some (.ifCond .ne 5, 3, (0, 99999, 0), []) := rfl
theorem at_X1_answerFrom_144 : ab_at mX1_answerFrom 144 = some (.iload_n 3, 1, (0, 99999, 0), []) := rfl
theorem at_X1_answerFrom_145 : ab_at mX1_answerFrom 145 = some (.aload_n 0, 1, (0, 99999, 0), []) := rfl
theorem at_X1_answerFrom_146 : ab_at mX1_answerFrom 146 = some (.getfield 19, 3, (1, 1, 2), [36]) := rfl
theorem at_X1_answerFrom_149 : ab_at mX1_answerFrom 149 = some (.iadd, 1, (0, 99999, 0), []) := rfl
theorem at_X1_answerFrom_150 : ab_at mX1_answerFrom 150 = some (.ireturn, 1, (0, 99999, 0), []) := rfl
theorem at_X1_answerFrom_151 : ab_at mX1_answerFrom 151 = some (.aload_n 0, 1, (0, 99999, 0), []) := rfl
theorem at_X1_answerFrom_152 : ab_at mX1_answerFrom 152 = some (.aload_n 0, 1, (0, 99999, 0), []) := rfl
theorem at_X1_answerFrom_153 : ab_at mX1_answerFrom 153 = some (.getfield 22, 3, (1, 1, 3), [28]) := rfl
theorem at_X1_answerFrom_156 : ab_at mX1_answerFrom 156 = some (.iconst 0, 1, (0, 99999, 0), []) := rfl
theorem at_X1_answerFrom_157 : ab_at mX1_answerFrom 157 = some (.iload_n 3, 1, (0, 99999, 0), []) := rfl
theorem at_X1_answerFrom_158 : ab_at mX1_answerFrom 158 = some (.iload 8, 2, (0, 99999, 0), []) := rfl
theorem at_X1_answerFrom_16 : ab_at mX1_answerFrom 16 = some (.iload_n 1, 1, (0, 99999, 0), []) := rfl
theorem at_X1_answerFrom_160 : ab_at mX1_answerFrom 160 = some (.invokestatic 38, 3, (4, 12, 5), [29]) := rfl
theorem at_X1_answerFrom_163 : ab_at mX1_answerFrom 163 = some (.iconst 2, 1, (0, 99999, 0), []) := rfl
theorem at_X1_answerFrom_164 : ab_at mX1_answerFrom 164 = some (.imul, 1, (0, 99999, 0), []) := rfl
theorem at_X1_answerFrom_165 : ab_at mX1_answerFrom 165 = some (.ireturn, 1, (0, 99999, 0), []) := rfl
theorem at_X1_answerFrom_166 : ab_at mX1_answerFrom 166 = some (.aload_n 0, 1, (0, 99999, 0), []) := rfl
theorem at_X1_answerFrom_167 : ab_at mX1_answerFrom 167 = some (.aload_n 0, 1, (0, 99999, 0), []) := rfl
theorem at_X1_answerFrom_168 : ab_at mX1_answerFrom 168 = some (.getfield 22, 3, (1, 1, 3), [28]) := rfl
theorem at_X1_answerFrom_17 : ab_at mX1_answerFrom 17 = some (.iload_n 2, 1, (0, 99999, 0), []) := rfl
theorem at_X1_answerFrom_171 : ab_at mX1_answerFrom 171 = some (.iconst 1, 1, (0, 99999, 0), []) := rfl
theorem at_X1_answerFrom_172 : ab_at mX1_answerFrom 172 = some (.iload_n 3, 1, (0, 99999, 0), []) := rfl
theorem at_X1_answerFrom_173 : ab_at mX1_answerFrom 173 = some (.iload 8, 2, (0, 99999, 0), []) := rfl
theorem at_X1_answerFrom_175 : ab_at mX1_answerFrom 175 = some (.invokestatic 38, 3, (4, 12, 5), [29]) := rfl
theorem at_X1_answerFrom_178 : ab_at mX1_answerFrom 178 = some (.aload_n 0, 1, (0, 99999, 0), []) := rfl
theorem at_X1_answerFrom_179 : ab_at mX1_answerFrom 179 = some (.aload_n 0, 1, (0, 99999, 0), []) := rfl
theorem at_X1_answerFrom_18 : ab_at mX1_answerFrom 18 = some (.invokestatic 55, 3, (4, 11, 2), [34]) := rfl
theorem at_X1_answerFrom_180 : ab_at mX1_answerFrom 180 = some (.getfield 22, 3, (1, 1, 3), [28]) := rfl
theorem at_X1_answerFrom_183 : ab_at mX1_answerFrom 183 = some (.iconst 0, 1, (0, 99999, 0), []) := rfl
theorem at_X1_answerFrom_184 : ab_at mX1_answerFrom 184 = some (.iload_n 3, 1, (0, 99999, 0), []) := rfl
theorem at_X1_answerFrom_185 : ab_at mX1_answerFrom 185 = some (.aload_n 0, 1, (0, 99999, 0), []) := rfl
theorem at_X1_answerFrom_186 : ab_at mX1_answerFrom 186 = some (.getfield 25, 3, (1, 1, 4), [37]) := rfl
theorem at_X1_answerFrom_189 : ab_at mX1_answerFrom 189 = some (.isub, 1, (0, 99999, 0), []) := rfl
theorem at_X1_answerFrom_190 : ab_at mX1_answerFrom 190 = some (.iload 8, 2, (0, 99999, 0), []) := rfl
theorem at_X1_answerFrom_192 : ab_at mX1_answerFrom 192 = some (.invokestatic 38, 3, (4, 12, 5), [29]) := rfl
theorem at_X1_answerFrom_195 : ab_at mX1_answerFrom 195 = some (.ixor, 1, (0, 99999, 0), []) := rfl
theorem at_X1_answerFrom_196 : ab_at mX1_answerFrom 196 = some (.ireturn, 1, (0, 99999, 0), []) := rfl
theorem at_X1_answerFrom_197 : ab_at mX1_answerFrom 197 = some (.aload_n 0, 1, (0, 99999, 0), []) := rfl
theorem at_X1_answerFrom_198 : ab_at mX1_answerFrom 198 = some (.iload 6, 2, (0, 99999, 0), []) := rfl
theorem at_X1_answerFrom_2 : ab_at mX1_answerFrom 2 = some (.bipush 20, 2, (0, 99999, 0), []) := rfl
theorem at_X1_answerFrom_200 : ab_at mX1_answerFrom 200 = some (.iconst 0, 1, (0, 99999, 0), []) := rfl
theorem at_X1_answerFrom_201 : ab_at mX1_answerFrom 201 = some (.iload_n 3, 1, (0, 99999, 0), []) := rfl
theorem at_X1_answerFrom_202 : ab_at mX1_answerFrom 202 = some (.iload 8, 2, (0, 99999, 0), []) := rfl
theorem at_X1_answerFrom_204 : ab_at mX1_answerFrom 204 = some (.invokestatic 38, 3, (4, 12, 5), [29]) := rfl
theorem at_X1_answerFrom_207 : ab_at mX1_answerFrom 207 = some (.aload_n 0, 1, (0, 99999, 0), []) := rfl
theorem at_X1_answerFrom_208 : ab_at mX1_answerFrom 208 = some (.getfield 25, 3, (1, 1, 4), [37]) := rfl
theorem at_X1_answerFrom_21 : ab_at mX1_answerFrom 21 = some (.istore 5, 2, (0, 99999, 0), []) := rfl
theorem at_X1_answerFrom_211 : ab_at mX1_answerFrom 211 = some (.iadd, 1, (0, 99999, 0), []) := rfl
theorem at_X1_answerFrom_212 : ab_at mX1_answerFrom 212 = some (.ireturn, 1, (0, 99999, 0), []) := rfl
theorem at_X1_answerFrom_213 : ab_at mX1_answerFrom 213 = some (.aload_n 0, 1, (0, 99999, 0), []) := rfl
theorem at_X1_answerFrom_214 : ab_at mX1_answerFrom 214 = some (.iload 6, 2, (0, 99999, 0), []) := rfl
theorem at_X1_answerFrom_216 : ab_at mX1_answerFrom 216 = some (.iconst 1, 1, (0, 99999, 0), []) := rfl
theorem at_X1_answerFrom_217 : ab_at mX1_answerFrom 217 = some (.iload_n 3, 1, (0, 99999, 0), []) := rfl
theorem at_X1_answerFrom_218 : ab_at mX1_answerFrom 218 = some (.iload 8, 2, (0, 99999, 0), []) := rfl
theorem at_X1_answerFrom_220 : ab_at mX1_answerFrom 220 = some (.invokestatic 38, 3, (4, 12, 5), [29]) := rfl
theorem at_X1_answerFrom_223 : ab_at mX1_answerFrom 223 = some (.iconst 3, 1, (0, 99999, 0), []) := rfl
theorem at_X1_answerFrom_224 : ab_at mX1_answerFrom 224 = some (.imul, 1, (0, 99999, 0), []) := rfl
theorem at_X1_answerFrom_225 : ab_at mX1_answerFrom 225 = some (.ireturn, 1, (0, 99999, 0), []) := rfl
theorem at_X1_answerFrom_226 : ab_at mX1_answerFrom 226 = some (.aload_n 0, 1, (0, 99999, 0), []) := rfl
theorem at_X1_answerFrom_227 : ab_at mX1_answerFrom 227 = some (.iload 6, 2, (0, 99999, 0), []) := rfl
theorem at_X1_answerFrom_229 : ab_at mX1_answerFrom 229 = some (.iconst 0, 1, (0, 99999, 0), []) := rfl
theorem at_X1_answerFrom_23 : ab_at mX1_answerFrom 23 = some (.getstatic 49, 3, (13, 0, 0), [32]) := rfl
theorem at_X1_answerFrom_230 : ab_at mX1_answerFrom 230 = some (.iload_n 3, 1, (0, 99999, 0), []) := rfl
theorem at_X1_answerFrom_231 : ab_at mX1_answerFrom 231 = some (.iconst 1, 1, (0, 99999, 0), []) := rfl
theorem at_X1_answerFrom_232 : ab_at mX1_answerFrom 232 = some (.iadd, 1, (0, 99999, 0), []) := rfl
theorem at_X1_answerFrom_233 : ab_at mX1_answerFrom 233 = some (.iload 8, 2, (0, 99999, 0), []) := rfl
theorem at_X1_answerFrom_235 : ab_at mX1_answerFrom 235 = some (.invokestatic 38, 3, (4, 12, 5), [29]) := rfl
theorem at_X1_answerFrom_238 : ab_at mX1_answerFrom 238 = some (.ireturn, 1, (0, 99999, 0), []) := rfl
theorem at_X1_answerFrom_251 : ab_at mX1_answerFrom 251 = some (.aload_n 0, 1, (0, 99999, 0), []) := rfl
theorem at_X1_answerFrom_252 : ab_at mX1_answerFrom 252 = some (.iload 6, 2, (0, 99999, 0), []) := rfl
theorem at_X1_answerFrom_254 : ab_at mX1_answerFrom 254 = some (.iconst 0, 1, (0, 99999, 0), []) := rfl
theorem at_X1_answerFrom_255 : ab_at mX1_answerFrom 255 = some (.iload_n 3, 1, (0, 99999, 0), []) := rfl
theorem at_X1_answerFrom_256 : ab_at mX1_answerFrom 256 = some (.iload 8, 2, (0, 99999, 0), []) := rfl
theorem at_X1_answerFrom_258 : ab_at mX1_answerFrom 258 = some (.invokestatic 38, 3, (4, 12, 5), [29]) := rfl
theorem at_X1_answerFrom_26 : ab_at mX1_answerFrom 26 = some (.iload 5, 2, (0, 99999, 0), []) := rfl
theorem at_X1_answerFrom_261 : ab_at mX1_answerFrom 261 = some (.aload_n 0, 1, (0, 99999, 0), []) := rfl
theorem at_X1_answerFrom_262 : ab_at mX1_answerFrom 262 = some (.getfield 19, 3, (1, 1, 2), [36]) := rfl
theorem at_X1_answerFrom_265 : ab_at mX1_answerFrom 265 = some (.isub, 1, (0, 99999, 0), []) := rfl
theorem at_X1_answerFrom_266 : ab_at mX1_answerFrom 266 = some (.ireturn, 1, (0, 99999, 0), []) := rfl
theorem at_X1_answerFrom_28 : ab_at mX1_answerFrom 28 = some (.iaload, 1, (0, 99999, 0), []) := rfl
theorem at_X1_answerFrom_280 : ab_at mX1_answerFrom 280 = some (.aload_n 0, 1, (0, 99999, 0), []) := rfl
theorem at_X1_answerFrom_281 : ab_at mX1_answerFrom 281 = some (.iload 6, 2, (0, 99999, 0), []) := rfl
theorem at_X1_answerFrom_283 : ab_at mX1_answerFrom 283 = some (.iconst 0, 1, (0, 99999, 0), []) := rfl
theorem at_X1_answerFrom_284 : ab_at mX1_answerFrom 284 = some (.iload_n 3, 1, (0, 99999, 0), []) := rfl
theorem at_X1_answerFrom_285 : ab_at mX1_answerFrom 285 = some (.iload 8, 2, (0, 99999, 0), []) := rfl
theorem at_X1_answerFrom_287 : ab_at mX1_answerFrom 287 = some (.invokestatic 38, 3, (4, 12, 5), [29]) := rfl
theorem at_X1_answerFrom_29 : ab_at mX1_answerFrom 29 = some (.istore 6, 2, (0, 99999, 0), []) := rfl
theorem at_X1_answerFrom_290 : ab_at mX1_answerFrom 290 = some (.iconst 2, 1, (0, 99999, 0), []) := rfl
theorem at_X1_answerFrom_291 : ab_at mX1_answerFrom 291 = some (.imul, 1, (0, 99999, 0), []) := rfl
theorem at_X1_answerFrom_292 : ab_at mX1_answerFrom 292 = some (.ireturn, 1, (0, 99999, 0), []) := rfl
theorem at_X1_answerFrom_31 : ab_at mX1_answerFrom 31 = some (.iload 5, 2, (0, 99999, 0), []) := rfl
theorem at_X1_answerFrom_33 : ab_at mX1_answerFrom 33 = some (.iload_n 2, 1, (0, 99999, 0), []) := rfl
theorem at_X1_answerFrom_34 : ab_at mX1_answerFrom 34 = some (.invokestatic 45, 3, (4, 10, 2), [31]) := rfl
theorem at_X1_answerFrom_37 : ab_at mX1_answerFrom 37 = some (.istore 7, 2, (0, 99999, 0), []) := rfl
theorem at_X1_answerFrom_39 : ab_at mX1_answerFrom 39 = some (.iload 4, 2, (0, 99999, 0), []) := rfl
theorem at_X1_answerFrom_4 : ab_at mX1_answerFrom 4 = some (.if_icmp .gt 10, 3, (0, 99999, 0), []) := rfl
theorem at_X1_answerFrom_41 : ab_at mX1_answerFrom 41 = some (.iconst 1, 1, (0, 99999, 0), []) := rfl
theorem at_X1_answerFrom_42 : ab_at mX1_answerFrom 42 = some (.iadd, 1, (0, 99999, 0), []) := rfl
theorem at_X1_answerFrom_43 : ab_at mX1_answerFrom 43 = some (.istore 8, 2, (0, 99999, 0), []) := rfl
theorem at_X1_answerFrom_45 : ab_at mX1_answerFrom 45 = some (.aload_n 0, 1, (0, 99999, 0), []) := rfl
theorem at_X1_answerFrom_46 : ab_at mX1_answerFrom 46 = some (.iload 7, 2, (0, 99999, 0), []) := rfl
theorem at_X1_answerFrom_48 : ab_at mX1_answerFrom 48 = some (.invokevirtual 58, 3, (3, 9, 1), [35]) := rfl
theorem at_X1_answerFrom_51 : ab_at mX1_answerFrom 51 = some (.iload 7, 2, (0, 99999, 0), []) := rfl
theorem at_X1_answerFrom_53 : ab_at mX1_answerFrom 53 = some (.lookupswitch 240 #[(10, 91), (11, 98), (12, 113), (20, 144), (30, 160), (40, 173), (50, 186), (51, 198), (60, 214), (70, 227)], 91, (0, 99999, 0), []) := rfl
theorem at_X1_answerFrom_7 : ab_at mX1_answerFrom 7 = some (.iload_n 1, 1, (0, 99999, 0), []) := rfl
theorem at_X1_answerFrom_8 : ab_at mX1_answerFrom 8 = some (.invokestatic 52, 3, (4, 46, 1), [33]) := rfl
theorem at_X1_answer_0 : ab_at mX1_answer 0 = some (.aload_n 0, 1, (0, 99999, 0), []) := rfl
theorem at_X1_answer_1 : ab_at mX1_answer 1 = some (.iconst 0, 1, (0, 99999, 0), []) := rfl
theorem at_X1_answer_10 : ab_at mX1_answer 10 = some (.iconst 3, 1, (0, 99999, 0), []) := rfl
theorem at_X1_answer_11 : ab_at mX1_answer 11 = some (.if_icmp .ge 11, 3, (0, 99999, 0), []) := rfl
theorem at_X1_answer_14 : ab_at mX1_answer 14 = some (.aload_n 1, 1, (0, 99999, 0), []) := rfl
theorem at_X1_answer_15 : ab_at mX1_answer 15 = some (.iload_n 2, 1, (0, 99999, 0), []) := rfl
theorem at_X1_answer_16 : ab_at mX1_answer 16 = some (.invokevirtual 28, 3, (3, 50, 1), [25]) := rfl
theorem at_X1_answer_19 : ab_at mX1_answer 19 = some (.ifCond .ne 5, 3, (0, 99999, 0), []) := rfl
theorem at_X1_answer_2 : ab_at mX1_answer 2 = some (.putfield 15, 3, (1, 1, 1), [19]) := rfl
theorem at_X1_answer_22 : ab_at mX1_answer 22 = some (.iconst 0, 1, (0, 99999, 0), []) := rfl
theorem at_X1_answer_23 : ab_at mX1_answer 23 = some (.ireturn, 1, (0, 99999, 0), []) := rfl
theorem at_X1_answer_24 : ab_at mX1_answer 24 = some (.aload_n 0, 1, (0, 99999, 0), []) := rfl
theorem at_X1_answer_25 : ab_at mX1_answer 25 = some (.iload_n 2, 1, (0, 99999, 0), []) := rfl
theorem at_X1_answer_26 : ab_at mX1_answer 26 = some (.putfield 19, 3, (1, 1, 2), [20]) := rfl
theorem at_X1_answer_29 : ab_at mX1_answer 29 = some (.aload_n 0, 1, (0, 99999, 0), []) := rfl
theorem at_X1_answer_30 : ab_at mX1_answer 30 = some (.aload_n 1, 1, (0, 99999, 0), []) := rfl
theorem at_X1_answer_31 : ab_at mX1_answer 31 = some (.getfield 34, 3, (1, 4, 0), [26]) := rfl
theorem at_X1_answer_34 : ab_at mX1_answer 34 = some (.iload_n 2, 1, (0, 99999, 0), []) := rfl
theorem at_X1_answer_35 : ab_at mX1_answer 35 = some (.iaload, 1, (0, 99999, 0), []) := rfl
theorem at_X1_answer_36 : ab_at mX1_answer 36 = some (.putfield 22, 3, (1, 1, 3), [21]) := rfl
theorem at_X1_answer_39 : ab_at mX1_answer 39 = some (.aload_n 0, 1, (0, 99999, 0), []) := rfl
theorem at_X1_answer_40 : ab_at mX1_answer 40 = some (.aload_n 1, 1, (0, 99999, 0), []) := rfl
theorem at_X1_answer_41 : ab_at mX1_answer 41 = some (.getfield 36, 3, (1, 4, 1), [27]) := rfl
theorem at_X1_answer_44 : ab_at mX1_answer 44 = some (.iload_n 2, 1, (0, 99999, 0), []) := rfl
theorem at_X1_answer_45 : ab_at mX1_answer 45 = some (.iaload, 1, (0, 99999, 0), []) := rfl
theorem at_X1_answer_46 : ab_at mX1_answer 46 = some (.putfield 25, 3, (1, 1, 4), [22]) := rfl
theorem at_X1_answer_49 : ab_at mX1_answer 49 = some (.aload_n 0, 1, (0, 99999, 0), []) := rfl
theorem at_X1_answer_5 : ab_at mX1_answer 5 = some (.iload_n 3, 1, (0, 99999, 0), []) := rfl
theorem at_X1_answer_50 : ab_at mX1_answer 50 = some (.aload_n 0, 1, (0, 99999, 0), []) := rfl
theorem at_X1_answer_51 : ab_at mX1_answer 51 = some (.getfield 22, 3, (1, 1, 3), [28]) := rfl
theorem at_X1_answer_54 : ab_at mX1_answer 54 = some (.iload_n 3, 1, (0, 99999, 0), []) := rfl
theorem at_X1_answer_55 : ab_at mX1_answer 55 = some (.iload 4, 2, (0, 99999, 0), []) := rfl
theorem at_X1_answer_57 : ab_at mX1_answer 57 = some (.iconst 0, 1, (0, 99999, 0), []) := rfl
theorem at_X1_answer_58 : ab_at mX1_answer 58 = some (.invokestatic 38, 3, (4, 12, 5), [29]) := rfl
theorem at_X1_answer_6 : ab_at mX1_answer 6 = some (.ifCond .lt 16, 3, (0, 99999, 0), []) := rfl
theorem at_X1_answer_61 : ab_at mX1_answer 61 = some (.ireturn, 1, (0, 99999, 0), []) := rfl
theorem at_X1_answer_9 : ab_at mX1_answer 9 = some (.iload_n 3, 1, (0, 99999, 0), []) := rfl
theorem at_X1_begin_0 : ab_at mX1_begin 0 = some (.aload_n 0, 1, (0, 99999, 0), []) := rfl
theorem at_X1_begin_1 : ab_at mX1_begin 1 = some (.getfield 15, 3, (1, 1, 1), [23]) := rfl
theorem at_X1_begin_10 : ab_at mX1_begin 10 = some (.getfield 11, 3, (1, 1, 0), [24]) := rfl
theorem at_X1_begin_13 : ab_at mX1_begin 13 = some (.aload_n 0, 1, (0, 99999, 0), []) := rfl
theorem at_X1_begin_14 : ab_at mX1_begin 14 = some (.getfield 15, 3, (1, 1, 1), [23]) := rfl
theorem at_X1_begin_17 : ab_at mX1_begin 17 = some (.iload_n 1, 1, (0, 99999, 0), []) := rfl
theorem at_X1_begin_18 : ab_at mX1_begin 18 = some (.iastore, 1, (0, 99999, 0), []) := rfl
theorem at_X1_begin_19 : ab_at mX1_begin 19 = some (.aload_n 0, 1, (0, 99999, 0), []) := rfl
theorem at_X1_begin_20 : ab_at mX1_begin 20 = some (.dup, 1, (0, 99999, 0), []) := rfl
theorem at_X1_begin_21 : ab_at mX1_begin 21 = some (.getfield 15, 3, (1, 1, 1), [23]) := rfl
theorem at_X1_begin_24 : ab_at mX1_begin 24 = some (.iconst 1, 1, (0, 99999, 0), []) := rfl
theorem at_X1_begin_25 : ab_at mX1_begin 25 = some (.iadd, 1, (0, 99999, 0), []) := rfl
theorem at_X1_begin_26 : ab_at mX1_begin 26 = some (.putfield 15, 3, (1, 1, 1), [19]) := rfl
theorem at_X1_begin_29 : ab_at mX1_begin 29 = some (.return_, 1, (0, 99999, 0), []) := rfl
theorem at_X1_begin_4 : ab_at mX1_begin 4 = some (.bipush 20, 2, (0, 99999, 0), []) := rfl
theorem at_X1_begin_6 : ab_at mX1_begin 6 = some (.if_icmp .ge 13, 3, (0, 99999, 0), []) := rfl
theorem at_X1_begin_9 : ab_at mX1_begin 9 = some (.aload_n 0, 1, (0, 99999, 0), []) := rfl
theorem at_X1_bodyAt_0 : ab_at mX1_bodyAt 0 = some (.iload_n 1, 1, (0, 99999, 0), []) := rfl
theorem at_X1_bodyAt_1 : ab_at mX1_bodyAt 1 = some (.ifCond .lt 26, 3, (0, 99999, 0), []) := rfl
theorem at_X1_bodyAt_27 : ab_at mX1_bodyAt 27 = some (.iconst (-1), 1, (0, 99999, 0), []) := rfl
theorem at_X1_bodyAt_28 : ab_at mX1_bodyAt 28 = some (.ireturn, 1, (0, 99999, 0), []) := rfl
theorem at_X1_bodyAt_4 : ab_at mX1_bodyAt 4 = some (.iload_n 1, 1, (0, 99999, 0), []) := rfl
theorem at_X1_bodyAt_5 : ab_at mX1_bodyAt 5 = some (.aload_n 0, 1, (0, 99999, 0), []) := rfl
theorem at_X1_bodyAt_6 : ab_at mX1_bodyAt 6 = some (.getfield 15, 3, (1, 1, 1), [23]) := rfl
theorem at_X1_bodyAt_9 : ab_at mX1_bodyAt 9 = some (.if_icmp .ge 18, 3, (0, 99999, 0), []) := rfl
theorem at_X1_bodyOf_0 : ab_at mX1_bodyOf 0 = some (.getstatic 42, 3, (13, 1, 0), [30]) := rfl
theorem at_X1_bodyOf_10 : ab_at mX1_bodyOf 10 = some (.ireturn, 1, (0, 99999, 0), []) := rfl
theorem at_X1_bodyOf_3 : ab_at mX1_bodyOf 3 = some (.iload_n 1, 1, (0, 99999, 0), []) := rfl
theorem at_X1_bodyOf_4 : ab_at mX1_bodyOf 4 = some (.bipush 7, 2, (0, 99999, 0), []) := rfl
theorem at_X1_bodyOf_6 : ab_at mX1_bodyOf 6 = some (.imul, 1, (0, 99999, 0), []) := rfl
theorem at_X1_bodyOf_7 : ab_at mX1_bodyOf 7 = some (.iload_n 0, 1, (0, 99999, 0), []) := rfl
theorem at_X1_bodyOf_8 : ab_at mX1_bodyOf 8 = some (.iadd, 1, (0, 99999, 0), []) := rfl
theorem at_X1_bodyOf_9 : ab_at mX1_bodyOf 9 = some (.iaload, 1, (0, 99999, 0), []) := rfl
theorem at_X1_kindWithBody_0 : ab_at mX1_kindWithBody 0 = some (.iload_n 0, 1, (0, 99999, 0), []) := rfl
theorem at_X1_kindWithBody_1 : ab_at mX1_kindWithBody 1 = some (.istore_n 2, 1, (0, 99999, 0), []) := rfl
theorem at_X1_kindWithBody_10 : ab_at mX1_kindWithBody 10 = some (.iload_n 2, 1, (0, 99999, 0), []) := rfl
theorem at_X1_kindWithBody_11 : ab_at mX1_kindWithBody 11 = some (.ifCond .le 23, 3, (0, 99999, 0), []) := rfl
theorem at_X1_kindWithBody_14 : ab_at mX1_kindWithBody 14 = some (.iload_n 2, 1, (0, 99999, 0), []) := rfl
theorem at_X1_kindWithBody_15 : ab_at mX1_kindWithBody 15 = some (.iload_n 1, 1, (0, 99999, 0), []) := rfl
theorem at_X1_kindWithBody_16 : ab_at mX1_kindWithBody 16 = some (.invokestatic 45, 3, (4, 10, 2), [31]) := rfl
theorem at_X1_kindWithBody_19 : ab_at mX1_kindWithBody 19 = some (.ifCond .ne 15, 3, (0, 99999, 0), []) := rfl
theorem at_X1_kindWithBody_2 : ab_at mX1_kindWithBody 2 = some (.iconst 0, 1, (0, 99999, 0), []) := rfl
theorem at_X1_kindWithBody_22 : ab_at mX1_kindWithBody 22 = some (.getstatic 49, 3, (13, 0, 0), [32]) := rfl
theorem at_X1_kindWithBody_25 : ab_at mX1_kindWithBody 25 = some (.iload_n 2, 1, (0, 99999, 0), []) := rfl
theorem at_X1_kindWithBody_26 : ab_at mX1_kindWithBody 26 = some (.iaload, 1, (0, 99999, 0), []) := rfl
theorem at_X1_kindWithBody_27 : ab_at mX1_kindWithBody 27 = some (.istore_n 2, 1, (0, 99999, 0), []) := rfl
theorem at_X1_kindWithBody_28 : ab_at mX1_kindWithBody 28 = some (.iinc 3 1, 3, (0, 99999, 0), []) := rfl
theorem at_X1_kindWithBody_3 : ab_at mX1_kindWithBody 3 = some (.istore_n 3, 1, (0, 99999, 0), []) := rfl
theorem at_X1_kindWithBody_31 : ab_at mX1_kindWithBody 31 = some (.goto (-27), 3, (0, 99999, 0), []) := rfl
theorem at_X1_kindWithBody_34 : ab_at mX1_kindWithBody 34 = some (.iload_n 2, 1, (0, 99999, 0), []) := rfl
theorem at_X1_kindWithBody_35 : ab_at mX1_kindWithBody 35 = some (.ireturn, 1, (0, 99999, 0), []) := rfl
theorem at_X1_kindWithBody_4 : ab_at mX1_kindWithBody 4 = some (.iload_n 3, 1, (0, 99999, 0), []) := rfl
theorem at_X1_kindWithBody_5 : ab_at mX1_kindWithBody 5 = some (.bipush 7, 2, (0, 99999, 0), []) := rfl
theorem at_X1_kindWithBody_7 : ab_at mX1_kindWithBody 7 = some (.if_icmp .ge 27, 3, (0, 99999, 0), []) := rfl
theorem at_X2_isDigit_0 : ab_at mX2_isDigit 0 = some (.iload_n 1, 1, (0, 99999, 0), []) := rfl
theorem at_X2_isDigit_1 : ab_at mX2_isDigit 1 = some (.ifCond .lt 37, 3, (0, 99999, 0), []) := rfl
theorem at_X2_isDigit_39 : ab_at mX2_isDigit 39 = some (.ireturn, 1, (0, 99999, 0), []) := rfl
theorem at_X2_isDigit_4 : ab_at mX2_isDigit 4 = some (.iload_n 1, 1, (0, 99999, 0), []) := rfl
theorem at_X2_isDigit_5 : ab_at mX2_isDigit 5 = some (.aload_n 0, 1, (0, 99999, 0), []) := rfl
theorem at_X2_isDigit_6 : ab_at mX2_isDigit 6 = some (.getfield 28, 3, (1, 2, 3), [52]) := rfl
theorem at_X2_isDigit_9 : ab_at mX2_isDigit 9 = some (.if_icmp .ge 29, 3, (0, 99999, 0), []) := rfl
theorem at_X2_lettersAsIn_0 : ab_at mX2_lettersAsIn 0 = some (.iconst 0, 1, (0, 99999, 0), []) := rfl
theorem at_X2_lettersAsIn_1 : ab_at mX2_lettersAsIn 1 = some (.istore_n 2, 1, (0, 99999, 0), []) := rfl
theorem at_X2_lettersAsIn_10 : ab_at mX2_lettersAsIn 10 = some (.aload_n 0, 1, (0, 99999, 0), []) := rfl
theorem at_X2_lettersAsIn_11 : ab_at mX2_lettersAsIn 11 = some (.aload_n 0, 1, (0, 99999, 0), []) := rfl
theorem at_X2_lettersAsIn_12 : ab_at mX2_lettersAsIn 12 = some (.getfield 31, 3, (1, 2, 4), [55]) := rfl
theorem at_X2_lettersAsIn_15 : ab_at mX2_lettersAsIn 15 = some (.iload_n 2, 1, (0, 99999, 0), []) := rfl
theorem at_X2_lettersAsIn_16 : ab_at mX2_lettersAsIn 16 = some (.iadd, 1, (0, 99999, 0), []) := rfl
theorem at_X2_lettersAsIn_17 : ab_at mX2_lettersAsIn 17 = some (.aload_n 1, 1, (0, 99999, 0), []) := rfl
theorem at_X2_lettersAsIn_18 : ab_at mX2_lettersAsIn 18 = some (.iload_n 2, 1, (0, 99999, 0), []) := rfl
theorem at_X2_lettersAsIn_19 : ab_at mX2_lettersAsIn 19 = some (.invokevirtual 136, 3, (18, 99999, 0), [85]) := rfl
theorem at_X2_lettersAsIn_2 : ab_at mX2_lettersAsIn 2 = some (.iload_n 2, 1, (0, 99999, 0), []) := rfl
theorem at_X2_lettersAsIn_22 : ab_at mX2_lettersAsIn 22 = some (.invokevirtual 140, 3, (3, 24, 2), [86]) := rfl
theorem at_X2_lettersAsIn_25 : ab_at mX2_lettersAsIn 25 = some (.ifCond .ne 5, 3, (0, 99999, 0), []) := rfl
theorem at_X2_lettersAsIn_28 : ab_at mX2_lettersAsIn 28 = some (.iload_n 2, 1, (0, 99999, 0), []) := rfl
theorem at_X2_lettersAsIn_29 : ab_at mX2_lettersAsIn 29 = some (.ireturn, 1, (0, 99999, 0), []) := rfl
theorem at_X2_lettersAsIn_3 : ab_at mX2_lettersAsIn 3 = some (.aload_n 1, 1, (0, 99999, 0), []) := rfl
theorem at_X2_lettersAsIn_30 : ab_at mX2_lettersAsIn 30 = some (.iinc 2 1, 3, (0, 99999, 0), []) := rfl
theorem at_X2_lettersAsIn_33 : ab_at mX2_lettersAsIn 33 = some (.goto (-31), 3, (0, 99999, 0), []) := rfl
theorem at_X2_lettersAsIn_36 : ab_at mX2_lettersAsIn 36 = some (.aload_n 1, 1, (0, 99999, 0), []) := rfl
theorem at_X2_lettersAsIn_37 : ab_at mX2_lettersAsIn 37 = some (.invokevirtual 113, 3, (17, 99999, 0), [76]) := rfl
theorem at_X2_lettersAsIn_4 : ab_at mX2_lettersAsIn 4 = some (.invokevirtual 113, 3, (17, 99999, 0), [76]) := rfl
theorem at_X2_lettersAsIn_40 : ab_at mX2_lettersAsIn 40 = some (.ireturn, 1, (0, 99999, 0), []) := rfl
theorem at_X2_lettersAsIn_7 : ab_at mX2_lettersAsIn 7 = some (.if_icmp .ge 29, 3, (0, 99999, 0), []) := rfl
theorem at_X2_readBack_0 : ab_at mX2_readBack 0 = some (.aload_n 0, 1, (0, 99999, 0), []) := rfl
theorem at_X2_readBack_1 : ab_at mX2_readBack 1 = some (.iconst 0, 1, (0, 99999, 0), []) := rfl
theorem at_X2_readBack_10 : ab_at mX2_readBack 10 = some (.isub, 1, (0, 99999, 0), []) := rfl
theorem at_X2_readBack_11 : ab_at mX2_readBack 11 = some (.invokevirtual 79, 3, (3, 26, 2), [65]) := rfl
theorem at_X2_readBack_14 : ab_at mX2_readBack 14 = some (.istore_n 1, 1, (0, 99999, 0), []) := rfl
theorem at_X2_readBack_15 : ab_at mX2_readBack 15 = some (.aload_n 0, 1, (0, 99999, 0), []) := rfl
theorem at_X2_readBack_16 : ab_at mX2_readBack 16 = some (.getfield 18, 3, (1, 2, 1), [54]) := rfl
theorem at_X2_readBack_19 : ab_at mX2_readBack 19 = some (.iconst (-1), 1, (0, 99999, 0), []) := rfl
theorem at_X2_readBack_2 : ab_at mX2_readBack 2 = some (.aload_n 0, 1, (0, 99999, 0), []) := rfl
theorem at_X2_readBack_20 : ab_at mX2_readBack 20 = some (.if_icmp .ne 25, 3, (0, 99999, 0), []) := rfl
theorem at_X2_readBack_3 : ab_at mX2_readBack 3 = some (.getfield 12, 3, (1, 2, 0), [48]) := rfl
theorem at_X2_readBack_45 : ab_at mX2_readBack 45 = some (.aload_n 0, 1, (0, 99999, 0), []) := rfl
theorem at_X2_readBack_46 : ab_at mX2_readBack 46 = some (.getfield 18, 3, (1, 2, 1), [54]) := rfl
theorem at_X2_readBack_49 : ab_at mX2_readBack 49 = some (.iconst (-1), 1, (0, 99999, 0), []) := rfl
theorem at_X2_readBack_50 : ab_at mX2_readBack 50 = some (.if_icmp .ne 14, 3, (0, 99999, 0), []) := rfl
theorem at_X2_readBack_6 : ab_at mX2_readBack 6 = some (.getfield 96, 3, (1, 4, 9), [70]) := rfl
theorem at_X2_readBack_64 : ab_at mX2_readBack 64 = some (.return_, 1, (0, 99999, 0), []) := rfl
theorem at_X2_readBack_9 : ab_at mX2_readBack 9 = some (.iconst 1, 1, (0, 99999, 0), []) := rfl
theorem at_X2_readCost_0 : ab_at mX2_readCost 0 = some (.aload_n 0, 1, (0, 99999, 0), []) := rfl
theorem at_X2_readCost_1 : ab_at mX2_readCost 1 = some (.iconst 0, 1, (0, 99999, 0), []) := rfl
theorem at_X2_readCost_10 : ab_at mX2_readCost 10 = some (.bipush 60, 2, (0, 99999, 0), []) := rfl
theorem at_X2_readCost_12 : ab_at mX2_readCost 12 = some (.invokevirtual 79, 3, (3, 26, 2), [65]) := rfl
theorem at_X2_readCost_15 : ab_at mX2_readCost 15 = some (.istore_n 2, 1, (0, 99999, 0), []) := rfl
theorem at_X2_readCost_16 : ab_at mX2_readCost 16 = some (.aload_n 0, 1, (0, 99999, 0), []) := rfl
theorem at_X2_readCost_17 : ab_at mX2_readCost 17 = some (.getfield 18, 3, (1, 2, 1), [54]) := rfl
theorem at_X2_readCost_2 : ab_at mX2_readCost 2 = some (.bipush 7, 2, (0, 99999, 0), []) := rfl
theorem at_X2_readCost_20 : ab_at mX2_readCost 20 = some (.iconst (-1), 1, (0, 99999, 0), []) := rfl
theorem at_X2_readCost_21 : ab_at mX2_readCost 21 = some (.if_icmp .ne 13, 3, (0, 99999, 0), []) := rfl
theorem at_X2_readCost_34 : ab_at mX2_readCost 34 = some (.return_, 1, (0, 99999, 0), []) := rfl
theorem at_X2_readCost_4 : ab_at mX2_readCost 4 = some (.invokevirtual 79, 3, (3, 26, 2), [65]) := rfl
theorem at_X2_readCost_7 : ab_at mX2_readCost 7 = some (.istore_n 1, 1, (0, 99999, 0), []) := rfl
theorem at_X2_readCost_8 : ab_at mX2_readCost 8 = some (.aload_n 0, 1, (0, 99999, 0), []) := rfl
theorem at_X2_readCost_9 : ab_at mX2_readCost 9 = some (.iconst 1, 1, (0, 99999, 0), []) := rfl
theorem at_X2_readHas_0 : ab_at mX2_readHas 0 = some (.aload_n 0, 1, (0, 99999, 0), []) := rfl
theorem at_X2_readHas_1 : ab_at mX2_readHas 1 = some (.iconst 0, 1, (0, 99999, 0), []) := rfl
theorem at_X2_readHas_10 : ab_at mX2_readHas 10 = some (.isub, 1, (0, 99999, 0), []) := rfl
theorem at_X2_readHas_11 : ab_at mX2_readHas 11 = some (.invokevirtual 79, 3, (3, 26, 2), [65]) := rfl
theorem at_X2_readHas_14 : ab_at mX2_readHas 14 = some (.istore_n 1, 1, (0, 99999, 0), []) := rfl
theorem at_X2_readHas_15 : ab_at mX2_readHas 15 = some (.aload_n 0, 1, (0, 99999, 0), []) := rfl
theorem at_X2_readHas_16 : ab_at mX2_readHas 16 = some (.getfield 18, 3, (1, 2, 1), [54]) := rfl
theorem at_X2_readHas_19 : ab_at mX2_readHas 19 = some (.iconst (-1), 1, (0, 99999, 0), []) := rfl
theorem at_X2_readHas_2 : ab_at mX2_readHas 2 = some (.aload_n 0, 1, (0, 99999, 0), []) := rfl
theorem at_X2_readHas_20 : ab_at mX2_readHas 20 = some (.if_icmp .ne 25, 3, (0, 99999, 0), []) := rfl
theorem at_X2_readHas_23 : ab_at mX2_readHas 23 = some (.aload_n 0, 1, (0, 99999, 0), []) := rfl
theorem at_X2_readHas_24 : ab_at mX2_readHas 24 = some (.getfield 12, 3, (1, 2, 0), [48]) := rfl
theorem at_X2_readHas_27 : ab_at mX2_readHas 27 = some (.getfield 99, 3, (1, 4, 3), [71]) := rfl
theorem at_X2_readHas_3 : ab_at mX2_readHas 3 = some (.getfield 12, 3, (1, 2, 0), [48]) := rfl
theorem at_X2_readHas_30 : ab_at mX2_readHas 30 = some (.iload_n 1, 1, (0, 99999, 0), []) := rfl
theorem at_X2_readHas_31 : ab_at mX2_readHas 31 = some (.iaload, 1, (0, 99999, 0), []) := rfl
theorem at_X2_readHas_32 : ab_at mX2_readHas 32 = some (.bipush 99, 2, (0, 99999, 0), []) := rfl
theorem at_X2_readHas_34 : ab_at mX2_readHas 34 = some (.if_icmp .eq 11, 3, (0, 99999, 0), []) := rfl
theorem at_X2_readHas_45 : ab_at mX2_readHas 45 = some (.aload_n 0, 1, (0, 99999, 0), []) := rfl
theorem at_X2_readHas_46 : ab_at mX2_readHas 46 = some (.iconst 0, 1, (0, 99999, 0), []) := rfl
theorem at_X2_readHas_47 : ab_at mX2_readHas 47 = some (.aload_n 0, 1, (0, 99999, 0), []) := rfl
theorem at_X2_readHas_48 : ab_at mX2_readHas 48 = some (.getfield 12, 3, (1, 2, 0), [48]) := rfl
theorem at_X2_readHas_51 : ab_at mX2_readHas 51 = some (.getfield 102, 3, (1, 4, 10), [73]) := rfl
theorem at_X2_readHas_54 : ab_at mX2_readHas 54 = some (.iconst 1, 1, (0, 99999, 0), []) := rfl
theorem at_X2_readHas_55 : ab_at mX2_readHas 55 = some (.isub, 1, (0, 99999, 0), []) := rfl
theorem at_X2_readHas_56 : ab_at mX2_readHas 56 = some (.invokevirtual 79, 3, (3, 26, 2), [65]) := rfl
theorem at_X2_readHas_59 : ab_at mX2_readHas 59 = some (.istore_n 2, 1, (0, 99999, 0), []) := rfl
theorem at_X2_readHas_6 : ab_at mX2_readHas 6 = some (.getfield 96, 3, (1, 4, 9), [70]) := rfl
theorem at_X2_readHas_60 : ab_at mX2_readHas 60 = some (.aload_n 0, 1, (0, 99999, 0), []) := rfl
theorem at_X2_readHas_61 : ab_at mX2_readHas 61 = some (.getfield 18, 3, (1, 2, 1), [54]) := rfl
theorem at_X2_readHas_64 : ab_at mX2_readHas 64 = some (.iconst (-1), 1, (0, 99999, 0), []) := rfl
theorem at_X2_readHas_65 : ab_at mX2_readHas 65 = some (.if_icmp .ne 13, 3, (0, 99999, 0), []) := rfl
theorem at_X2_readHas_78 : ab_at mX2_readHas 78 = some (.return_, 1, (0, 99999, 0), []) := rfl
theorem at_X2_readHas_9 : ab_at mX2_readHas 9 = some (.iconst 1, 1, (0, 99999, 0), []) := rfl
theorem at_X2_readItem_0 : ab_at mX2_readItem 0 = some (.aload_n 0, 1, (0, 99999, 0), []) := rfl
theorem at_X2_readItem_1 : ab_at mX2_readItem 1 = some (.getfield 31, 3, (1, 2, 4), [55]) := rfl
theorem at_X2_readItem_10 : ab_at mX2_readItem 10 = some (.aload_n 0, 1, (0, 99999, 0), []) := rfl
theorem at_X2_readItem_11 : ab_at mX2_readItem 11 = some (.getfield 18, 3, (1, 2, 1), [54]) := rfl
theorem at_X2_readItem_110 : ab_at mX2_readItem 110 = some (.return_, 1, (0, 99999, 0), []) := rfl
theorem at_X2_readItem_14 : ab_at mX2_readItem 14 = some (.iconst (-1), 1, (0, 99999, 0), []) := rfl
theorem at_X2_readItem_15 : ab_at mX2_readItem 15 = some (.if_icmp .eq 4, 3, (0, 99999, 0), []) := rfl
theorem at_X2_readItem_19 : ab_at mX2_readItem 19 = some (.iload_n 2, 1, (0, 99999, 0), []) := rfl
theorem at_X2_readItem_20 : ab_at mX2_readItem 20 = some (.tableswitch 73 0 4 #[36, 44, 52, 59, 66], 36, (0, 99999, 0), []) := rfl
theorem at_X2_readItem_4 : ab_at mX2_readItem 4 = some (.istore_n 1, 1, (0, 99999, 0), []) := rfl
theorem at_X2_readItem_5 : ab_at mX2_readItem 5 = some (.aload_n 0, 1, (0, 99999, 0), []) := rfl
theorem at_X2_readItem_56 : ab_at mX2_readItem 56 = some (.aload_n 0, 1, (0, 99999, 0), []) := rfl
theorem at_X2_readItem_57 : ab_at mX2_readItem 57 = some (.iload_n 1, 1, (0, 99999, 0), []) := rfl
theorem at_X2_readItem_58 : ab_at mX2_readItem 58 = some (.invokevirtual 56, 3, (3, 16, 1), [58]) := rfl
theorem at_X2_readItem_6 : ab_at mX2_readItem 6 = some (.invokevirtual 52, 3, (3, 21, 0), [57]) := rfl
theorem at_X2_readItem_61 : ab_at mX2_readItem 61 = some (.goto 49, 3, (0, 99999, 0), []) := rfl
theorem at_X2_readItem_64 : ab_at mX2_readItem 64 = some (.aload_n 0, 1, (0, 99999, 0), []) := rfl
theorem at_X2_readItem_65 : ab_at mX2_readItem 65 = some (.iload_n 1, 1, (0, 99999, 0), []) := rfl
theorem at_X2_readItem_66 : ab_at mX2_readItem 66 = some (.invokevirtual 60, 3, (3, 17, 1), [59]) := rfl
theorem at_X2_readItem_69 : ab_at mX2_readItem 69 = some (.goto 41, 3, (0, 99999, 0), []) := rfl
theorem at_X2_readItem_72 : ab_at mX2_readItem 72 = some (.aload_n 0, 1, (0, 99999, 0), []) := rfl
theorem at_X2_readItem_73 : ab_at mX2_readItem 73 = some (.invokevirtual 63, 3, (3, 18, 0), [60]) := rfl
theorem at_X2_readItem_76 : ab_at mX2_readItem 76 = some (.goto 34, 3, (0, 99999, 0), []) := rfl
theorem at_X2_readItem_79 : ab_at mX2_readItem 79 = some (.aload_n 0, 1, (0, 99999, 0), []) := rfl
theorem at_X2_readItem_80 : ab_at mX2_readItem 80 = some (.invokevirtual 66, 3, (3, 19, 0), [61]) := rfl
theorem at_X2_readItem_83 : ab_at mX2_readItem 83 = some (.goto 27, 3, (0, 99999, 0), []) := rfl
theorem at_X2_readItem_86 : ab_at mX2_readItem 86 = some (.aload_n 0, 1, (0, 99999, 0), []) := rfl
theorem at_X2_readItem_87 : ab_at mX2_readItem 87 = some (.invokevirtual 69, 3, (3, 20, 0), [62]) := rfl
theorem at_X2_readItem_9 : ab_at mX2_readItem 9 = some (.istore_n 2, 1, (0, 99999, 0), []) := rfl
theorem at_X2_readItem_90 : ab_at mX2_readItem 90 = some (.goto 20, 3, (0, 99999, 0), []) := rfl
theorem at_X2_readNumber_0 : ab_at mX2_readNumber 0 = some (.aload_n 0, 1, (0, 99999, 0), []) := rfl
theorem at_X2_readNumber_1 : ab_at mX2_readNumber 1 = some (.bipush 32, 2, (0, 99999, 0), []) := rfl
theorem at_X2_readNumber_10 : ab_at mX2_readNumber 10 = some (.iconst (-1), 1, (0, 99999, 0), []) := rfl
theorem at_X2_readNumber_11 : ab_at mX2_readNumber 11 = some (.if_icmp .eq 5, 3, (0, 99999, 0), []) := rfl
theorem at_X2_readNumber_16 : ab_at mX2_readNumber 16 = some (.aload_n 0, 1, (0, 99999, 0), []) := rfl
theorem at_X2_readNumber_17 : ab_at mX2_readNumber 17 = some (.aload_n 0, 1, (0, 99999, 0), []) := rfl
theorem at_X2_readNumber_18 : ab_at mX2_readNumber 18 = some (.getfield 31, 3, (1, 2, 4), [55]) := rfl
theorem at_X2_readNumber_21 : ab_at mX2_readNumber 21 = some (.invokevirtual 144, 3, (3, 27, 1), [87]) := rfl
theorem at_X2_readNumber_24 : ab_at mX2_readNumber 24 = some (.ifCond .ne 13, 3, (0, 99999, 0), []) := rfl
theorem at_X2_readNumber_3 : ab_at mX2_readNumber 3 = some (.invokevirtual 48, 3, (3, 25, 1), [56]) := rfl
theorem at_X2_readNumber_37 : ab_at mX2_readNumber 37 = some (.aload_n 0, 1, (0, 99999, 0), []) := rfl
theorem at_X2_readNumber_38 : ab_at mX2_readNumber 38 = some (.aload_n 0, 1, (0, 99999, 0), []) := rfl
theorem at_X2_readNumber_39 : ab_at mX2_readNumber 39 = some (.getfield 31, 3, (1, 2, 4), [55]) := rfl
theorem at_X2_readNumber_42 : ab_at mX2_readNumber 42 = some (.putfield 34, 3, (1, 2, 5), [47]) := rfl
theorem at_X2_readNumber_45 : ab_at mX2_readNumber 45 = some (.aload_n 0, 1, (0, 99999, 0), []) := rfl
theorem at_X2_readNumber_46 : ab_at mX2_readNumber 46 = some (.invokevirtual 148, 3, (3, 28, 0), [88]) := rfl
theorem at_X2_readNumber_49 : ab_at mX2_readNumber 49 = some (.istore_n 3, 1, (0, 99999, 0), []) := rfl
theorem at_X2_readNumber_50 : ab_at mX2_readNumber 50 = some (.aload_n 0, 1, (0, 99999, 0), []) := rfl
theorem at_X2_readNumber_51 : ab_at mX2_readNumber 51 = some (.aload_n 0, 1, (0, 99999, 0), []) := rfl
theorem at_X2_readNumber_52 : ab_at mX2_readNumber 52 = some (.getfield 31, 3, (1, 2, 4), [55]) := rfl
theorem at_X2_readNumber_55 : ab_at mX2_readNumber 55 = some (.invokevirtual 144, 3, (3, 27, 1), [87]) := rfl
theorem at_X2_readNumber_58 : ab_at mX2_readNumber 58 = some (.ifCond .eq 13, 3, (0, 99999, 0), []) := rfl
theorem at_X2_readNumber_6 : ab_at mX2_readNumber 6 = some (.aload_n 0, 1, (0, 99999, 0), []) := rfl
theorem at_X2_readNumber_61 : ab_at mX2_readNumber 61 = some (.iload_n 3, 1, (0, 99999, 0), []) := rfl
theorem at_X2_readNumber_62 : ab_at mX2_readNumber 62 = some (.bipush 10, 2, (0, 99999, 0), []) := rfl
theorem at_X2_readNumber_64 : ab_at mX2_readNumber 64 = some (.imul, 1, (0, 99999, 0), []) := rfl
theorem at_X2_readNumber_65 : ab_at mX2_readNumber 65 = some (.aload_n 0, 1, (0, 99999, 0), []) := rfl
theorem at_X2_readNumber_66 : ab_at mX2_readNumber 66 = some (.invokevirtual 148, 3, (3, 28, 0), [88]) := rfl
theorem at_X2_readNumber_69 : ab_at mX2_readNumber 69 = some (.iadd, 1, (0, 99999, 0), []) := rfl
theorem at_X2_readNumber_7 : ab_at mX2_readNumber 7 = some (.getfield 18, 3, (1, 2, 1), [54]) := rfl
theorem at_X2_readNumber_70 : ab_at mX2_readNumber 70 = some (.istore_n 3, 1, (0, 99999, 0), []) := rfl
theorem at_X2_readPerson_0 : ab_at mX2_readPerson 0 = some (.aload_n 0, 1, (0, 99999, 0), []) := rfl
theorem at_X2_readPerson_1 : ab_at mX2_readPerson 1 = some (.getfield 12, 3, (1, 2, 0), [48]) := rfl
theorem at_X2_readPerson_15 : ab_at mX2_readPerson 15 = some (.aload_n 0, 1, (0, 99999, 0), []) := rfl
theorem at_X2_readPerson_16 : ab_at mX2_readPerson 16 = some (.iconst 0, 1, (0, 99999, 0), []) := rfl
theorem at_X2_readPerson_17 : ab_at mX2_readPerson 17 = some (.bipush 99, 2, (0, 99999, 0), []) := rfl
theorem at_X2_readPerson_19 : ab_at mX2_readPerson 19 = some (.invokevirtual 79, 3, (3, 26, 2), [65]) := rfl
theorem at_X2_readPerson_22 : ab_at mX2_readPerson 22 = some (.istore_n 2, 1, (0, 99999, 0), []) := rfl
theorem at_X2_readPerson_23 : ab_at mX2_readPerson 23 = some (.aload_n 0, 1, (0, 99999, 0), []) := rfl
theorem at_X2_readPerson_24 : ab_at mX2_readPerson 24 = some (.iconst 0, 1, (0, 99999, 0), []) := rfl
theorem at_X2_readPerson_25 : ab_at mX2_readPerson 25 = some (.bipush 9, 2, (0, 99999, 0), []) := rfl
theorem at_X2_readPerson_27 : ab_at mX2_readPerson 27 = some (.invokevirtual 79, 3, (3, 26, 2), [65]) := rfl
theorem at_X2_readPerson_30 : ab_at mX2_readPerson 30 = some (.istore_n 3, 1, (0, 99999, 0), []) := rfl
theorem at_X2_readPerson_31 : ab_at mX2_readPerson 31 = some (.aload_n 0, 1, (0, 99999, 0), []) := rfl
theorem at_X2_readPerson_32 : ab_at mX2_readPerson 32 = some (.iconst 0, 1, (0, 99999, 0), []) := rfl
theorem at_X2_readPerson_33 : ab_at mX2_readPerson 33 = some (.bipush 7, 2, (0, 99999, 0), []) := rfl
theorem at_X2_readPerson_35 : ab_at mX2_readPerson 35 = some (.invokevirtual 79, 3, (3, 26, 2), [65]) := rfl
theorem at_X2_readPerson_38 : ab_at mX2_readPerson 38 = some (.istore 4, 2, (0, 99999, 0), []) := rfl
theorem at_X2_readPerson_4 : ab_at mX2_readPerson 4 = some (.invokevirtual 87, 3, (3, 53, 0), [67]) := rfl
theorem at_X2_readPerson_40 : ab_at mX2_readPerson 40 = some (.aload_n 0, 1, (0, 99999, 0), []) := rfl
theorem at_X2_readPerson_41 : ab_at mX2_readPerson 41 = some (.getfield 18, 3, (1, 2, 1), [54]) := rfl
theorem at_X2_readPerson_44 : ab_at mX2_readPerson 44 = some (.iconst (-1), 1, (0, 99999, 0), []) := rfl
theorem at_X2_readPerson_45 : ab_at mX2_readPerson 45 = some (.if_icmp .ne 15, 3, (0, 99999, 0), []) := rfl
theorem at_X2_readPerson_60 : ab_at mX2_readPerson 60 = some (.return_, 1, (0, 99999, 0), []) := rfl
theorem at_X2_readPerson_7 : ab_at mX2_readPerson 7 = some (.ifCond .ne 8, 3, (0, 99999, 0), []) := rfl
theorem at_X2_readPiece_0 : ab_at mX2_readPiece 0 = some (.aload_n 0, 1, (0, 99999, 0), []) := rfl
theorem at_X2_readPiece_1 : ab_at mX2_readPiece 1 = some (.getfield 12, 3, (1, 2, 0), [48]) := rfl
theorem at_X2_readPiece_15 : ab_at mX2_readPiece 15 = some (.aload_n 0, 1, (0, 99999, 0), []) := rfl
theorem at_X2_readPiece_16 : ab_at mX2_readPiece 16 = some (.iconst 0, 1, (0, 99999, 0), []) := rfl
theorem at_X2_readPiece_17 : ab_at mX2_readPiece 17 = some (.bipush 6, 2, (0, 99999, 0), []) := rfl
theorem at_X2_readPiece_19 : ab_at mX2_readPiece 19 = some (.invokevirtual 79, 3, (3, 26, 2), [65]) := rfl
theorem at_X2_readPiece_22 : ab_at mX2_readPiece 22 = some (.istore_n 2, 1, (0, 99999, 0), []) := rfl
theorem at_X2_readPiece_23 : ab_at mX2_readPiece 23 = some (.aload_n 0, 1, (0, 99999, 0), []) := rfl
theorem at_X2_readPiece_24 : ab_at mX2_readPiece 24 = some (.iconst 0, 1, (0, 99999, 0), []) := rfl
theorem at_X2_readPiece_25 : ab_at mX2_readPiece 25 = some (.bipush 9, 2, (0, 99999, 0), []) := rfl
theorem at_X2_readPiece_27 : ab_at mX2_readPiece 27 = some (.invokevirtual 79, 3, (3, 26, 2), [65]) := rfl
theorem at_X2_readPiece_30 : ab_at mX2_readPiece 30 = some (.istore_n 3, 1, (0, 99999, 0), []) := rfl
theorem at_X2_readPiece_31 : ab_at mX2_readPiece 31 = some (.aload_n 0, 1, (0, 99999, 0), []) := rfl
theorem at_X2_readPiece_32 : ab_at mX2_readPiece 32 = some (.iconst 1, 1, (0, 99999, 0), []) := rfl
theorem at_X2_readPiece_33 : ab_at mX2_readPiece 33 = some (.bipush 50, 2, (0, 99999, 0), []) := rfl
theorem at_X2_readPiece_35 : ab_at mX2_readPiece 35 = some (.invokevirtual 79, 3, (3, 26, 2), [65]) := rfl
theorem at_X2_readPiece_38 : ab_at mX2_readPiece 38 = some (.istore 4, 2, (0, 99999, 0), []) := rfl
theorem at_X2_readPiece_4 : ab_at mX2_readPiece 4 = some (.invokevirtual 75, 3, (3, 52, 0), [64]) := rfl
theorem at_X2_readPiece_40 : ab_at mX2_readPiece 40 = some (.aload_n 0, 1, (0, 99999, 0), []) := rfl
theorem at_X2_readPiece_41 : ab_at mX2_readPiece 41 = some (.getfield 18, 3, (1, 2, 1), [54]) := rfl
theorem at_X2_readPiece_44 : ab_at mX2_readPiece 44 = some (.iconst (-1), 1, (0, 99999, 0), []) := rfl
theorem at_X2_readPiece_45 : ab_at mX2_readPiece 45 = some (.if_icmp .ne 15, 3, (0, 99999, 0), []) := rfl
theorem at_X2_readPiece_60 : ab_at mX2_readPiece 60 = some (.return_, 1, (0, 99999, 0), []) := rfl
theorem at_X2_readPiece_7 : ab_at mX2_readPiece 7 = some (.ifCond .ne 8, 3, (0, 99999, 0), []) := rfl
theorem at_X2_readWord_0 : ab_at mX2_readWord 0 = some (.iconst 0, 1, (0, 99999, 0), []) := rfl
theorem at_X2_readWord_1 : ab_at mX2_readWord 1 = some (.istore_n 1, 1, (0, 99999, 0), []) := rfl
theorem at_X2_readWord_10 : ab_at mX2_readWord 10 = some (.iload_n 2, 1, (0, 99999, 0), []) := rfl
theorem at_X2_readWord_11 : ab_at mX2_readWord 11 = some (.invokestatic 105, 3, (4, 22, 1), [74]) := rfl
theorem at_X2_readWord_14 : ab_at mX2_readWord 14 = some (.astore_n 3, 1, (0, 99999, 0), []) := rfl
theorem at_X2_readWord_15 : ab_at mX2_readWord 15 = some (.aload_n 0, 1, (0, 99999, 0), []) := rfl
theorem at_X2_readWord_16 : ab_at mX2_readWord 16 = some (.aload_n 3, 1, (0, 99999, 0), []) := rfl
theorem at_X2_readWord_17 : ab_at mX2_readWord 17 = some (.invokevirtual 109, 3, (3, 23, 1), [75]) := rfl
theorem at_X2_readWord_2 : ab_at mX2_readWord 2 = some (.iconst 0, 1, (0, 99999, 0), []) := rfl
theorem at_X2_readWord_20 : ab_at mX2_readWord 20 = some (.istore 4, 2, (0, 99999, 0), []) := rfl
theorem at_X2_readWord_22 : ab_at mX2_readWord 22 = some (.iload 4, 2, (0, 99999, 0), []) := rfl
theorem at_X2_readWord_24 : ab_at mX2_readWord 24 = some (.aload_n 3, 1, (0, 99999, 0), []) := rfl
theorem at_X2_readWord_25 : ab_at mX2_readWord 25 = some (.invokevirtual 113, 3, (17, 99999, 0), [76]) := rfl
theorem at_X2_readWord_28 : ab_at mX2_readWord 28 = some (.if_icmp .ne 16, 3, (0, 99999, 0), []) := rfl
theorem at_X2_readWord_3 : ab_at mX2_readWord 3 = some (.istore_n 2, 1, (0, 99999, 0), []) := rfl
theorem at_X2_readWord_31 : ab_at mX2_readWord 31 = some (.aload_n 0, 1, (0, 99999, 0), []) := rfl
theorem at_X2_readWord_32 : ab_at mX2_readWord 32 = some (.dup, 1, (0, 99999, 0), []) := rfl
theorem at_X2_readWord_33 : ab_at mX2_readWord 33 = some (.getfield 31, 3, (1, 2, 4), [55]) := rfl
theorem at_X2_readWord_36 : ab_at mX2_readWord 36 = some (.iload 4, 2, (0, 99999, 0), []) := rfl
theorem at_X2_readWord_38 : ab_at mX2_readWord 38 = some (.iadd, 1, (0, 99999, 0), []) := rfl
theorem at_X2_readWord_39 : ab_at mX2_readWord 39 = some (.putfield 31, 3, (1, 2, 4), [46]) := rfl
theorem at_X2_readWord_4 : ab_at mX2_readWord 4 = some (.iload_n 2, 1, (0, 99999, 0), []) := rfl
theorem at_X2_readWord_42 : ab_at mX2_readWord 42 = some (.iload_n 2, 1, (0, 99999, 0), []) := rfl
theorem at_X2_readWord_43 : ab_at mX2_readWord 43 = some (.ireturn, 1, (0, 99999, 0), []) := rfl
theorem at_X2_readWord_44 : ab_at mX2_readWord 44 = some (.iload_n 1, 1, (0, 99999, 0), []) := rfl
theorem at_X2_readWord_45 : ab_at mX2_readWord 45 = some (.iload 4, 2, (0, 99999, 0), []) := rfl
theorem at_X2_readWord_47 : ab_at mX2_readWord 47 = some (.invokestatic 118, 3, (7, 99999, 0), [77]) := rfl
theorem at_X2_readWord_5 : ab_at mX2_readWord 5 = some (.bipush 7, 2, (0, 99999, 0), []) := rfl
theorem at_X2_readWord_50 : ab_at mX2_readWord 50 = some (.istore_n 1, 1, (0, 99999, 0), []) := rfl
theorem at_X2_readWord_51 : ab_at mX2_readWord 51 = some (.iinc 2 1, 3, (0, 99999, 0), []) := rfl
theorem at_X2_readWord_54 : ab_at mX2_readWord 54 = some (.goto (-50), 3, (0, 99999, 0), []) := rfl
theorem at_X2_readWord_7 : ab_at mX2_readWord 7 = some (.if_icmp .ge 50, 3, (0, 99999, 0), []) := rfl
theorem at_X2_read_32 : ab_at mX2_read 32 = some (.iload_n 3, 1, (0, 99999, 0), []) := rfl
theorem at_X2_read_33 : ab_at mX2_read 33 = some (.aload_n 0, 1, (0, 99999, 0), []) := rfl
theorem at_X2_read_34 : ab_at mX2_read 34 = some (.getfield 28, 3, (1, 2, 3), [52]) := rfl
theorem at_X2_read_37 : ab_at mX2_read 37 = some (.if_icmp .gt 50, 3, (0, 99999, 0), []) := rfl
theorem at_X2_read_40 : ab_at mX2_read 40 = some (.aload_n 0, 1, (0, 99999, 0), []) := rfl
theorem at_X2_read_41 : ab_at mX2_read 41 = some (.invokevirtual 45, 3, (3, 15, 0), [53]) := rfl
theorem at_X2_read_44 : ab_at mX2_read 44 = some (.aload_n 0, 1, (0, 99999, 0), []) := rfl
theorem at_X2_read_45 : ab_at mX2_read 45 = some (.getfield 18, 3, (1, 2, 1), [54]) := rfl
theorem at_X2_read_48 : ab_at mX2_read 48 = some (.iconst (-1), 1, (0, 99999, 0), []) := rfl
theorem at_X2_read_49 : ab_at mX2_read 49 = some (.if_icmp .ne 16, 3, (0, 99999, 0), []) := rfl
theorem at_X2_spelt_0 : ab_at mX2_spelt 0 = some (.iload_n 0, 1, (0, 99999, 0), []) := rfl
theorem at_X2_spelt_1 : ab_at mX2_spelt 1 = some (.tableswitch 57 0 5 #[39, 42, 45, 48, 51, 54], 39, (0, 99999, 0), []) := rfl
theorem at_X2_spelt_40 : ab_at mX2_spelt 40 = some (.ldc 123, 2, (16, 0, 0), [78]) := rfl
theorem at_X2_spelt_42 : ab_at mX2_spelt 42 = some (.areturn, 1, (0, 99999, 0), []) := rfl
theorem at_X2_spelt_43 : ab_at mX2_spelt 43 = some (.ldc 125, 2, (16, 1, 0), [79]) := rfl
theorem at_X2_spelt_45 : ab_at mX2_spelt 45 = some (.areturn, 1, (0, 99999, 0), []) := rfl
theorem at_X2_spelt_46 : ab_at mX2_spelt 46 = some (.ldc 127, 2, (16, 2, 0), [80]) := rfl
theorem at_X2_spelt_48 : ab_at mX2_spelt 48 = some (.areturn, 1, (0, 99999, 0), []) := rfl
theorem at_X2_spelt_49 : ab_at mX2_spelt 49 = some (.ldc 128, 2, (16, 3, 0), [81]) := rfl
theorem at_X2_spelt_51 : ab_at mX2_spelt 51 = some (.areturn, 1, (0, 99999, 0), []) := rfl
theorem at_X2_spelt_52 : ab_at mX2_spelt 52 = some (.ldc 130, 2, (16, 4, 0), [82]) := rfl
theorem at_X2_spelt_54 : ab_at mX2_spelt 54 = some (.areturn, 1, (0, 99999, 0), []) := rfl
theorem at_X3_hasElement_0 : ab_at mX3_hasElement 0 = some (.iload_n 1, 1, (0, 99999, 0), []) := rfl
theorem at_X3_hasElement_1 : ab_at mX3_hasElement 1 = some (.ifCond .lt 15, 3, (0, 99999, 0), []) := rfl
theorem at_X3_hasElement_12 : ab_at mX3_hasElement 12 = some (.iconst 1, 1, (0, 99999, 0), []) := rfl
theorem at_X3_hasElement_13 : ab_at mX3_hasElement 13 = some (.goto 4, 3, (0, 99999, 0), []) := rfl
theorem at_X3_hasElement_16 : ab_at mX3_hasElement 16 = some (.iconst 0, 1, (0, 99999, 0), []) := rfl
theorem at_X3_hasElement_17 : ab_at mX3_hasElement 17 = some (.ireturn, 1, (0, 99999, 0), []) := rfl
theorem at_X3_hasElement_4 : ab_at mX3_hasElement 4 = some (.iload_n 1, 1, (0, 99999, 0), []) := rfl
theorem at_X3_hasElement_5 : ab_at mX3_hasElement 5 = some (.aload_n 0, 1, (0, 99999, 0), []) := rfl
theorem at_X3_hasElement_6 : ab_at mX3_hasElement 6 = some (.getfield 19, 3, (1, 3, 2), [98]) := rfl
theorem at_X3_hasElement_9 : ab_at mX3_hasElement 9 = some (.if_icmp .ge 7, 3, (0, 99999, 0), []) := rfl
theorem at_X3_hasStretch_0 : ab_at mX3_hasStretch 0 = some (.iload_n 1, 1, (0, 99999, 0), []) := rfl
theorem at_X3_hasStretch_1 : ab_at mX3_hasStretch 1 = some (.ifCond .lt 29, 3, (0, 99999, 0), []) := rfl
theorem at_X3_hasStretch_12 : ab_at mX3_hasStretch 12 = some (.iload_n 2, 1, (0, 99999, 0), []) := rfl
theorem at_X3_hasStretch_13 : ab_at mX3_hasStretch 13 = some (.ifCond .lt 17, 3, (0, 99999, 0), []) := rfl
theorem at_X3_hasStretch_16 : ab_at mX3_hasStretch 16 = some (.iload_n 2, 1, (0, 99999, 0), []) := rfl
theorem at_X3_hasStretch_17 : ab_at mX3_hasStretch 17 = some (.aload_n 0, 1, (0, 99999, 0), []) := rfl
theorem at_X3_hasStretch_18 : ab_at mX3_hasStretch 18 = some (.getfield 19, 3, (1, 3, 2), [98]) := rfl
theorem at_X3_hasStretch_21 : ab_at mX3_hasStretch 21 = some (.iload_n 1, 1, (0, 99999, 0), []) := rfl
theorem at_X3_hasStretch_22 : ab_at mX3_hasStretch 22 = some (.isub, 1, (0, 99999, 0), []) := rfl
theorem at_X3_hasStretch_23 : ab_at mX3_hasStretch 23 = some (.if_icmp .gt 7, 3, (0, 99999, 0), []) := rfl
theorem at_X3_hasStretch_26 : ab_at mX3_hasStretch 26 = some (.iconst 1, 1, (0, 99999, 0), []) := rfl
theorem at_X3_hasStretch_27 : ab_at mX3_hasStretch 27 = some (.goto 4, 3, (0, 99999, 0), []) := rfl
theorem at_X3_hasStretch_30 : ab_at mX3_hasStretch 30 = some (.iconst 0, 1, (0, 99999, 0), []) := rfl
theorem at_X3_hasStretch_31 : ab_at mX3_hasStretch 31 = some (.ireturn, 1, (0, 99999, 0), []) := rfl
theorem at_X3_hasStretch_4 : ab_at mX3_hasStretch 4 = some (.iload_n 1, 1, (0, 99999, 0), []) := rfl
theorem at_X3_hasStretch_5 : ab_at mX3_hasStretch 5 = some (.aload_n 0, 1, (0, 99999, 0), []) := rfl
theorem at_X3_hasStretch_6 : ab_at mX3_hasStretch 6 = some (.getfield 19, 3, (1, 3, 2), [98]) := rfl
theorem at_X3_hasStretch_9 : ab_at mX3_hasStretch 9 = some (.if_icmp .gt 21, 3, (0, 99999, 0), []) := rfl
theorem at_X3_holdPiece_0 : ab_at mX3_holdPiece 0 = some (.aload_n 0, 1, (0, 99999, 0), []) := rfl
theorem at_X3_holdPiece_1 : ab_at mX3_holdPiece 1 = some (.iload_n 1, 1, (0, 99999, 0), []) := rfl
theorem at_X3_holdPiece_10 : ab_at mX3_holdPiece 10 = some (.return_, 1, (0, 99999, 0), []) := rfl
theorem at_X3_holdPiece_2 : ab_at mX3_holdPiece 2 = some (.putfield 15, 3, (1, 3, 1), [92]) := rfl
theorem at_X3_holdPiece_5 : ab_at mX3_holdPiece 5 = some (.aload_n 0, 1, (0, 99999, 0), []) := rfl
theorem at_X3_holdPiece_6 : ab_at mX3_holdPiece 6 = some (.iconst 0, 1, (0, 99999, 0), []) := rfl
theorem at_X3_holdPiece_7 : ab_at mX3_holdPiece 7 = some (.putfield 19, 3, (1, 3, 2), [93]) := rfl
theorem at_X3_isEmpty_0 : ab_at mX3_isEmpty 0 = some (.aload_n 0, 1, (0, 99999, 0), []) := rfl
theorem at_X3_isEmpty_1 : ab_at mX3_isEmpty 1 = some (.getfield 15, 3, (1, 3, 1), [96]) := rfl
theorem at_X3_isEmpty_12 : ab_at mX3_isEmpty 12 = some (.iconst 0, 1, (0, 99999, 0), []) := rfl
theorem at_X3_isEmpty_13 : ab_at mX3_isEmpty 13 = some (.ireturn, 1, (0, 99999, 0), []) := rfl
theorem at_X3_isEmpty_4 : ab_at mX3_isEmpty 4 = some (.iconst (-1), 1, (0, 99999, 0), []) := rfl
theorem at_X3_isEmpty_5 : ab_at mX3_isEmpty 5 = some (.if_icmp .ne 7, 3, (0, 99999, 0), []) := rfl
theorem at_X3_isEmpty_8 : ab_at mX3_isEmpty 8 = some (.iconst 1, 1, (0, 99999, 0), []) := rfl
theorem at_X3_isEmpty_9 : ab_at mX3_isEmpty 9 = some (.goto 4, 3, (0, 99999, 0), []) := rfl
theorem at_X3_isOfOtherSort_0 : ab_at mX3_isOfOtherSort 0 = some (.aload_n 0, 1, (0, 99999, 0), []) := rfl
theorem at_X3_isOfOtherSort_1 : ab_at mX3_isOfOtherSort 1 = some (.invokevirtual 28, 3, (3, 32, 0), [97]) := rfl
theorem at_X3_isOfOtherSort_11 : ab_at mX3_isOfOtherSort 11 = some (.ifCond .ne 18, 3, (0, 99999, 0), []) := rfl
theorem at_X3_isOfOtherSort_14 : ab_at mX3_isOfOtherSort 14 = some (.aload_n 0, 1, (0, 99999, 0), []) := rfl
theorem at_X3_isOfOtherSort_15 : ab_at mX3_isOfOtherSort 15 = some (.getfield 15, 3, (1, 3, 1), [96]) := rfl
theorem at_X3_isOfOtherSort_18 : ab_at mX3_isOfOtherSort 18 = some (.aload_n 1, 1, (0, 99999, 0), []) := rfl
theorem at_X3_isOfOtherSort_19 : ab_at mX3_isOfOtherSort 19 = some (.getfield 15, 3, (1, 3, 1), [96]) := rfl
theorem at_X3_isOfOtherSort_22 : ab_at mX3_isOfOtherSort 22 = some (.if_icmp .eq 7, 3, (0, 99999, 0), []) := rfl
theorem at_X3_isOfOtherSort_29 : ab_at mX3_isOfOtherSort 29 = some (.iconst 0, 1, (0, 99999, 0), []) := rfl
theorem at_X3_isOfOtherSort_30 : ab_at mX3_isOfOtherSort 30 = some (.ireturn, 1, (0, 99999, 0), []) := rfl
theorem at_X3_isOfOtherSort_4 : ab_at mX3_isOfOtherSort 4 = some (.ifCond .ne 25, 3, (0, 99999, 0), []) := rfl
theorem at_X3_isOfOtherSort_7 : ab_at mX3_isOfOtherSort 7 = some (.aload_n 1, 1, (0, 99999, 0), []) := rfl
theorem at_X3_isOfOtherSort_8 : ab_at mX3_isOfOtherSort 8 = some (.invokevirtual 28, 3, (3, 32, 0), [97]) := rfl
theorem at_X3_isOtherThanRow_0 : ab_at mX3_isOtherThanRow 0 = some (.aload_n 0, 1, (0, 99999, 0), []) := rfl
theorem at_X3_isOtherThanRow_1 : ab_at mX3_isOtherThanRow 1 = some (.getfield 15, 3, (1, 3, 1), [96]) := rfl
theorem at_X3_isOtherThanRow_11 : ab_at mX3_isOtherThanRow 11 = some (.bipush 100, 2, (0, 99999, 0), []) := rfl
theorem at_X3_isOtherThanRow_13 : ab_at mX3_isOtherThanRow 13 = some (.if_icmp .ge 7, 3, (0, 99999, 0), []) := rfl
theorem at_X3_isOtherThanRow_16 : ab_at mX3_isOtherThanRow 16 = some (.iconst 1, 1, (0, 99999, 0), []) := rfl
theorem at_X3_isOtherThanRow_17 : ab_at mX3_isOtherThanRow 17 = some (.goto 4, 3, (0, 99999, 0), []) := rfl
theorem at_X3_isOtherThanRow_20 : ab_at mX3_isOtherThanRow 20 = some (.iconst 0, 1, (0, 99999, 0), []) := rfl
theorem at_X3_isOtherThanRow_21 : ab_at mX3_isOtherThanRow 21 = some (.ireturn, 1, (0, 99999, 0), []) := rfl
theorem at_X3_isOtherThanRow_4 : ab_at mX3_isOtherThanRow 4 = some (.ifCond .lt 16, 3, (0, 99999, 0), []) := rfl
theorem at_X3_isOtherThanRow_7 : ab_at mX3_isOtherThanRow 7 = some (.aload_n 0, 1, (0, 99999, 0), []) := rfl
theorem at_X3_isOtherThanRow_8 : ab_at mX3_isOtherThanRow 8 = some (.getfield 15, 3, (1, 3, 1), [96]) := rfl
theorem at_X3_lowestBits_0 : ab_at mX3_lowestBits 0 = some (.aload_n 0, 1, (0, 99999, 0), []) := rfl
theorem at_X3_lowestBits_1 : ab_at mX3_lowestBits 1 = some (.getfield 15, 3, (1, 3, 1), [96]) := rfl
theorem at_X3_lowestBits_4 : ab_at mX3_lowestBits 4 = some (.bipush 100, 2, (0, 99999, 0), []) := rfl
theorem at_X3_lowestBits_6 : ab_at mX3_lowestBits 6 = some (.isub, 1, (0, 99999, 0), []) := rfl
theorem at_X3_lowestBits_7 : ab_at mX3_lowestBits 7 = some (.tableswitch 39 0 2 #[25, 30, 35], 25, (0, 99999, 0), []) := rfl
theorem at_X3_put_0 : ab_at mX3_put 0 = some (.aload_n 0, 1, (0, 99999, 0), []) := rfl
theorem at_X3_put_1 : ab_at mX3_put 1 = some (.iload_n 1, 1, (0, 99999, 0), []) := rfl
theorem at_X3_put_12 : ab_at mX3_put 12 = some (.iload_n 1, 1, (0, 99999, 0), []) := rfl
theorem at_X3_put_13 : ab_at mX3_put 13 = some (.aload_n 0, 1, (0, 99999, 0), []) := rfl
theorem at_X3_put_14 : ab_at mX3_put 14 = some (.lload_n 2, 1, (0, 99999, 0), []) := rfl
theorem at_X3_put_15 : ab_at mX3_put 15 = some (.invokevirtual 36, 3, (3, 38, 1), [100]) := rfl
theorem at_X3_put_18 : ab_at mX3_put 18 = some (.lastore, 1, (0, 99999, 0), []) := rfl
theorem at_X3_put_19 : ab_at mX3_put 19 = some (.return_, 1, (0, 99999, 0), []) := rfl
theorem at_X3_put_2 : ab_at mX3_put 2 = some (.invokevirtual 32, 3, (3, 35, 1), [99]) := rfl
theorem at_X3_put_5 : ab_at mX3_put 5 = some (.ifCond .eq 14, 3, (0, 99999, 0), []) := rfl
theorem at_X3_put_8 : ab_at mX3_put 8 = some (.aload_n 0, 1, (0, 99999, 0), []) := rfl
theorem at_X3_put_9 : ab_at mX3_put 9 = some (.getfield 11, 3, (1, 3, 0), [94]) := rfl
theorem at_X3_whole_0 : ab_at mX3_whole 0 = some (.aload_n 0, 1, (0, 99999, 0), []) := rfl
theorem at_X3_whole_1 : ab_at mX3_whole 1 = some (.iload_n 1, 1, (0, 99999, 0), []) := rfl
theorem at_X3_whole_12 : ab_at mX3_whole 12 = some (.iload_n 1, 1, (0, 99999, 0), []) := rfl
theorem at_X3_whole_13 : ab_at mX3_whole 13 = some (.laload, 1, (0, 99999, 0), []) := rfl
theorem at_X3_whole_14 : ab_at mX3_whole 14 = some (.goto 4, 3, (0, 99999, 0), []) := rfl
theorem at_X3_whole_17 : ab_at mX3_whole 17 = some (.lconst 0, 1, (0, 99999, 0), []) := rfl
theorem at_X3_whole_18 : ab_at mX3_whole 18 = some (.lreturn, 1, (0, 99999, 0), []) := rfl
theorem at_X3_whole_2 : ab_at mX3_whole 2 = some (.invokevirtual 32, 3, (3, 35, 1), [99]) := rfl
theorem at_X3_whole_5 : ab_at mX3_whole 5 = some (.ifCond .eq 12, 3, (0, 99999, 0), []) := rfl
theorem at_X3_whole_8 : ab_at mX3_whole 8 = some (.aload_n 0, 1, (0, 99999, 0), []) := rfl
theorem at_X3_whole_9 : ab_at mX3_whole 9 = some (.getfield 11, 3, (1, 3, 0), [94]) := rfl
theorem at_X4_bestThrow_0 : ab_at mX4_bestThrow 0 = some (.aload_n 0, 1, (0, 99999, 0), []) := rfl
theorem at_X4_bestThrow_1 : ab_at mX4_bestThrow 1 = some (.iload_n 1, 1, (0, 99999, 0), []) := rfl
theorem at_X4_bestThrow_11 : ab_at mX4_bestThrow 11 = some (.istore_n 2, 1, (0, 99999, 0), []) := rfl
theorem at_X4_bestThrow_12 : ab_at mX4_bestThrow 12 = some (.iload_n 2, 1, (0, 99999, 0), []) := rfl
theorem at_X4_bestThrow_13 : ab_at mX4_bestThrow 13 = some (.aload_n 0, 1, (0, 99999, 0), []) := rfl
theorem at_X4_bestThrow_14 : ab_at mX4_bestThrow 14 = some (.getfield 24, 3, (1, 4, 4), [133]) := rfl
theorem at_X4_bestThrow_17 : ab_at mX4_bestThrow 17 = some (.iload_n 1, 1, (0, 99999, 0), []) := rfl
theorem at_X4_bestThrow_18 : ab_at mX4_bestThrow 18 = some (.iaload, 1, (0, 99999, 0), []) := rfl
theorem at_X4_bestThrow_19 : ab_at mX4_bestThrow 19 = some (.if_icmp .gt 7, 3, (0, 99999, 0), []) := rfl
theorem at_X4_bestThrow_2 : ab_at mX4_bestThrow 2 = some (.aload_n 0, 1, (0, 99999, 0), []) := rfl
theorem at_X4_bestThrow_27 : ab_at mX4_bestThrow 27 = some (.ireturn, 1, (0, 99999, 0), []) := rfl
theorem at_X4_bestThrow_3 : ab_at mX4_bestThrow 3 = some (.getfield 30, 3, (1, 4, 6), [135]) := rfl
theorem at_X4_bestThrow_6 : ab_at mX4_bestThrow 6 = some (.iload_n 1, 1, (0, 99999, 0), []) := rfl
theorem at_X4_bestThrow_7 : ab_at mX4_bestThrow 7 = some (.iaload, 1, (0, 99999, 0), []) := rfl
theorem at_X4_bestThrow_8 : ab_at mX4_bestThrow 8 = some (.invokevirtual 105, 3, (3, 66, 2), [150]) := rfl
theorem at_X4_drawDay_0 : ab_at mX4_drawDay 0 = some (.aload_n 0, 1, (0, 99999, 0), []) := rfl
theorem at_X4_drawDay_1 : ab_at mX4_drawDay 1 = some (.dup, 1, (0, 99999, 0), []) := rfl
theorem at_X4_drawDay_10 : ab_at mX4_drawDay 10 = some (.aload_n 0, 1, (0, 99999, 0), []) := rfl
theorem at_X4_drawDay_11 : ab_at mX4_drawDay 11 = some (.aload_n 0, 1, (0, 99999, 0), []) := rfl
theorem at_X4_drawDay_12 : ab_at mX4_drawDay 12 = some (.getfield 43, 3, (1, 4, 10), [125]) := rfl
theorem at_X4_drawDay_15 : ab_at mX4_drawDay 15 = some (.invokevirtual 116, 3, (3, 72, 1), [154]) := rfl
theorem at_X4_drawDay_18 : ab_at mX4_drawDay 18 = some (.istore_n 1, 1, (0, 99999, 0), []) := rfl
theorem at_X4_drawDay_19 : ab_at mX4_drawDay 19 = some (.aload_n 0, 1, (0, 99999, 0), []) := rfl
theorem at_X4_drawDay_2 : ab_at mX4_drawDay 2 = some (.getfield 52, 3, (1, 4, 13), [139]) := rfl
theorem at_X4_drawDay_20 : ab_at mX4_drawDay 20 = some (.iload_n 1, 1, (0, 99999, 0), []) := rfl
theorem at_X4_drawDay_21 : ab_at mX4_drawDay 21 = some (.invokevirtual 119, 3, (3, 51, 1), [155]) := rfl
theorem at_X4_drawDay_24 : ab_at mX4_drawDay 24 = some (.ifCond .ne 4, 3, (0, 99999, 0), []) := rfl
theorem at_X4_drawDay_28 : ab_at mX4_drawDay 28 = some (.aload_n 0, 1, (0, 99999, 0), []) := rfl
theorem at_X4_drawDay_29 : ab_at mX4_drawDay 29 = some (.getfield 24, 3, (1, 4, 4), [133]) := rfl
theorem at_X4_drawDay_32 : ab_at mX4_drawDay 32 = some (.iload_n 1, 1, (0, 99999, 0), []) := rfl
theorem at_X4_drawDay_33 : ab_at mX4_drawDay 33 = some (.aload_n 0, 1, (0, 99999, 0), []) := rfl
theorem at_X4_drawDay_34 : ab_at mX4_drawDay 34 = some (.getfield 24, 3, (1, 4, 4), [133]) := rfl
theorem at_X4_drawDay_37 : ab_at mX4_drawDay 37 = some (.iload_n 1, 1, (0, 99999, 0), []) := rfl
theorem at_X4_drawDay_38 : ab_at mX4_drawDay 38 = some (.iaload, 1, (0, 99999, 0), []) := rfl
theorem at_X4_drawDay_39 : ab_at mX4_drawDay 39 = some (.aload_n 0, 1, (0, 99999, 0), []) := rfl
theorem at_X4_drawDay_40 : ab_at mX4_drawDay 40 = some (.bipush 20, 2, (0, 99999, 0), []) := rfl
theorem at_X4_drawDay_42 : ab_at mX4_drawDay 42 = some (.invokevirtual 116, 3, (3, 72, 1), [154]) := rfl
theorem at_X4_drawDay_45 : ab_at mX4_drawDay 45 = some (.iadd, 1, (0, 99999, 0), []) := rfl
theorem at_X4_drawDay_46 : ab_at mX4_drawDay 46 = some (.bipush 99, 2, (0, 99999, 0), []) := rfl
theorem at_X4_drawDay_48 : ab_at mX4_drawDay 48 = some (.invokestatic 122, 3, (8, 99999, 0), [156]) := rfl
theorem at_X4_drawDay_5 : ab_at mX4_drawDay 5 = some (.iconst 1, 1, (0, 99999, 0), []) := rfl
theorem at_X4_drawDay_51 : ab_at mX4_drawDay 51 = some (.iastore, 1, (0, 99999, 0), []) := rfl
theorem at_X4_drawDay_52 : ab_at mX4_drawDay 52 = some (.aload_n 0, 1, (0, 99999, 0), []) := rfl
theorem at_X4_drawDay_53 : ab_at mX4_drawDay 53 = some (.getfield 30, 3, (1, 4, 6), [135]) := rfl
theorem at_X4_drawDay_56 : ab_at mX4_drawDay 56 = some (.iload_n 1, 1, (0, 99999, 0), []) := rfl
theorem at_X4_drawDay_57 : ab_at mX4_drawDay 57 = some (.aload_n 0, 1, (0, 99999, 0), []) := rfl
theorem at_X4_drawDay_58 : ab_at mX4_drawDay 58 = some (.bipush 8, 2, (0, 99999, 0), []) := rfl
theorem at_X4_drawDay_6 : ab_at mX4_drawDay 6 = some (.iadd, 1, (0, 99999, 0), []) := rfl
theorem at_X4_drawDay_60 : ab_at mX4_drawDay 60 = some (.invokevirtual 116, 3, (3, 72, 1), [154]) := rfl
theorem at_X4_drawDay_63 : ab_at mX4_drawDay 63 = some (.iastore, 1, (0, 99999, 0), []) := rfl
theorem at_X4_drawDay_64 : ab_at mX4_drawDay 64 = some (.aload_n 0, 1, (0, 99999, 0), []) := rfl
theorem at_X4_drawDay_65 : ab_at mX4_drawDay 65 = some (.iload_n 1, 1, (0, 99999, 0), []) := rfl
theorem at_X4_drawDay_66 : ab_at mX4_drawDay 66 = some (.invokevirtual 125, 3, (3, 68, 1), [157]) := rfl
theorem at_X4_drawDay_69 : ab_at mX4_drawDay 69 = some (.istore_n 2, 1, (0, 99999, 0), []) := rfl
theorem at_X4_drawDay_7 : ab_at mX4_drawDay 7 = some (.putfield 52, 3, (1, 4, 13), [121]) := rfl
theorem at_X4_drawDay_70 : ab_at mX4_drawDay 70 = some (.iload_n 2, 1, (0, 99999, 0), []) := rfl
theorem at_X4_drawDay_71 : ab_at mX4_drawDay 71 = some (.iconst (-1), 1, (0, 99999, 0), []) := rfl
theorem at_X4_drawDay_72 : ab_at mX4_drawDay 72 = some (.if_icmp .eq 13, 3, (0, 99999, 0), []) := rfl
theorem at_X4_drawDay_98 : ab_at mX4_drawDay 98 = some (.return_, 1, (0, 99999, 0), []) := rfl
theorem at_X4_grant_0 : ab_at mX4_grant 0 = some (.aload_n 0, 1, (0, 99999, 0), []) := rfl
theorem at_X4_grant_1 : ab_at mX4_grant 1 = some (.getfield 24, 3, (1, 4, 4), [133]) := rfl
theorem at_X4_grant_10 : ab_at mX4_grant 10 = some (.aload_n 0, 1, (0, 99999, 0), []) := rfl
theorem at_X4_grant_11 : ab_at mX4_grant 11 = some (.getfield 33, 3, (1, 4, 7), [136]) := rfl
theorem at_X4_grant_14 : ab_at mX4_grant 14 = some (.iload_n 1, 1, (0, 99999, 0), []) := rfl
theorem at_X4_grant_15 : ab_at mX4_grant 15 = some (.dup2, 1, (0, 99999, 0), []) := rfl
theorem at_X4_grant_16 : ab_at mX4_grant 16 = some (.iaload, 1, (0, 99999, 0), []) := rfl
theorem at_X4_grant_17 : ab_at mX4_grant 17 = some (.iconst 1, 1, (0, 99999, 0), []) := rfl
theorem at_X4_grant_18 : ab_at mX4_grant 18 = some (.iadd, 1, (0, 99999, 0), []) := rfl
theorem at_X4_grant_19 : ab_at mX4_grant 19 = some (.iastore, 1, (0, 99999, 0), []) := rfl
theorem at_X4_grant_20 : ab_at mX4_grant 20 = some (.aload_n 0, 1, (0, 99999, 0), []) := rfl
theorem at_X4_grant_21 : ab_at mX4_grant 21 = some (.dup, 1, (0, 99999, 0), []) := rfl
theorem at_X4_grant_22 : ab_at mX4_grant 22 = some (.getfield 49, 3, (1, 4, 12), [138]) := rfl
theorem at_X4_grant_25 : ab_at mX4_grant 25 = some (.iload_n 2, 1, (0, 99999, 0), []) := rfl
theorem at_X4_grant_26 : ab_at mX4_grant 26 = some (.iadd, 1, (0, 99999, 0), []) := rfl
theorem at_X4_grant_27 : ab_at mX4_grant 27 = some (.putfield 49, 3, (1, 4, 12), [120]) := rfl
theorem at_X4_grant_30 : ab_at mX4_grant 30 = some (.iconst 0, 1, (0, 99999, 0), []) := rfl
theorem at_X4_grant_31 : ab_at mX4_grant 31 = some (.istore 4, 2, (0, 99999, 0), []) := rfl
theorem at_X4_grant_33 : ab_at mX4_grant 33 = some (.iload 4, 2, (0, 99999, 0), []) := rfl
theorem at_X4_grant_35 : ab_at mX4_grant 35 = some (.aload_n 0, 1, (0, 99999, 0), []) := rfl
theorem at_X4_grant_36 : ab_at mX4_grant 36 = some (.getfield 39, 3, (1, 4, 9), [124]) := rfl
theorem at_X4_grant_39 : ab_at mX4_grant 39 = some (.if_icmp .ge 26, 3, (0, 99999, 0), []) := rfl
theorem at_X4_grant_4 : ab_at mX4_grant 4 = some (.iload_n 1, 1, (0, 99999, 0), []) := rfl
theorem at_X4_grant_42 : ab_at mX4_grant 42 = some (.iload_n 3, 1, (0, 99999, 0), []) := rfl
theorem at_X4_grant_43 : ab_at mX4_grant 43 = some (.iload 4, 2, (0, 99999, 0), []) := rfl
theorem at_X4_grant_45 : ab_at mX4_grant 45 = some (.invokestatic 84, 3, (4, 49, 2), [144]) := rfl
theorem at_X4_grant_48 : ab_at mX4_grant 48 = some (.ifCond .eq 11, 3, (0, 99999, 0), []) := rfl
theorem at_X4_grant_5 : ab_at mX4_grant 5 = some (.dup2, 1, (0, 99999, 0), []) := rfl
theorem at_X4_grant_59 : ab_at mX4_grant 59 = some (.iinc 4 1, 3, (0, 99999, 0), []) := rfl
theorem at_X4_grant_6 : ab_at mX4_grant 6 = some (.iaload, 1, (0, 99999, 0), []) := rfl
theorem at_X4_grant_62 : ab_at mX4_grant 62 = some (.goto (-29), 3, (0, 99999, 0), []) := rfl
theorem at_X4_grant_7 : ab_at mX4_grant 7 = some (.iload_n 2, 1, (0, 99999, 0), []) := rfl
theorem at_X4_grant_8 : ab_at mX4_grant 8 = some (.isub, 1, (0, 99999, 0), []) := rfl
theorem at_X4_grant_9 : ab_at mX4_grant 9 = some (.iastore, 1, (0, 99999, 0), []) := rfl
theorem at_X4_hasRoomForPerson_0 : ab_at mX4_hasRoomForPerson 0 = some (.aload_n 0, 1, (0, 99999, 0), []) := rfl
theorem at_X4_hasRoomForPerson_1 : ab_at mX4_hasRoomForPerson 1 = some (.getfield 43, 3, (1, 4, 10), [125]) := rfl
theorem at_X4_hasRoomForPerson_10 : ab_at mX4_hasRoomForPerson 10 = some (.goto 4, 3, (0, 99999, 0), []) := rfl
theorem at_X4_hasRoomForPerson_14 : ab_at mX4_hasRoomForPerson 14 = some (.ireturn, 1, (0, 99999, 0), []) := rfl
theorem at_X4_hasRoomForPerson_4 : ab_at mX4_hasRoomForPerson 4 = some (.bipush 6, 2, (0, 99999, 0), []) := rfl
theorem at_X4_hasRoomForPerson_6 : ab_at mX4_hasRoomForPerson 6 = some (.if_icmp .ge 7, 3, (0, 99999, 0), []) := rfl
theorem at_X4_hasRoomForPerson_9 : ab_at mX4_hasRoomForPerson 9 = some (.iconst 1, 1, (0, 99999, 0), []) := rfl
theorem at_X4_hasRoomForPiece_0 : ab_at mX4_hasRoomForPiece 0 = some (.aload_n 0, 1, (0, 99999, 0), []) := rfl
theorem at_X4_hasRoomForPiece_1 : ab_at mX4_hasRoomForPiece 1 = some (.getfield 39, 3, (1, 4, 9), [124]) := rfl
theorem at_X4_hasRoomForPiece_10 : ab_at mX4_hasRoomForPiece 10 = some (.goto 4, 3, (0, 99999, 0), []) := rfl
theorem at_X4_hasRoomForPiece_14 : ab_at mX4_hasRoomForPiece 14 = some (.ireturn, 1, (0, 99999, 0), []) := rfl
theorem at_X4_hasRoomForPiece_4 : ab_at mX4_hasRoomForPiece 4 = some (.bipush 9, 2, (0, 99999, 0), []) := rfl
theorem at_X4_hasRoomForPiece_6 : ab_at mX4_hasRoomForPiece 6 = some (.if_icmp .ge 7, 3, (0, 99999, 0), []) := rfl
theorem at_X4_hasRoomForPiece_9 : ab_at mX4_hasRoomForPiece 9 = some (.iconst 1, 1, (0, 99999, 0), []) := rfl
theorem at_X4_isAmount_0 : ab_at mX4_isAmount 0 = some (.iload_n 0, 1, (0, 99999, 0), []) := rfl
theorem at_X4_isAmount_1 : ab_at mX4_isAmount 1 = some (.ifCond .lt 13, 3, (0, 99999, 0), []) := rfl
theorem at_X4_isAmount_10 : ab_at mX4_isAmount 10 = some (.iconst 1, 1, (0, 99999, 0), []) := rfl
theorem at_X4_isAmount_11 : ab_at mX4_isAmount 11 = some (.goto 4, 3, (0, 99999, 0), []) := rfl
theorem at_X4_isAmount_14 : ab_at mX4_isAmount 14 = some (.iconst 0, 1, (0, 99999, 0), []) := rfl
theorem at_X4_isAmount_15 : ab_at mX4_isAmount 15 = some (.ireturn, 1, (0, 99999, 0), []) := rfl
theorem at_X4_isAmount_4 : ab_at mX4_isAmount 4 = some (.iload_n 0, 1, (0, 99999, 0), []) := rfl
theorem at_X4_isAmount_5 : ab_at mX4_isAmount 5 = some (.bipush 100, 2, (0, 99999, 0), []) := rfl
theorem at_X4_isAmount_7 : ab_at mX4_isAmount 7 = some (.if_icmp .ge 7, 3, (0, 99999, 0), []) := rfl
theorem at_X4_isKind_0 : ab_at mX4_isKind 0 = some (.iload_n 0, 1, (0, 99999, 0), []) := rfl
theorem at_X4_isKind_1 : ab_at mX4_isKind 1 = some (.ifCond .lt 13, 3, (0, 99999, 0), []) := rfl
theorem at_X4_isKind_10 : ab_at mX4_isKind 10 = some (.iconst 1, 1, (0, 99999, 0), []) := rfl
theorem at_X4_isKind_11 : ab_at mX4_isKind 11 = some (.goto 4, 3, (0, 99999, 0), []) := rfl
theorem at_X4_isKind_14 : ab_at mX4_isKind 14 = some (.iconst 0, 1, (0, 99999, 0), []) := rfl
theorem at_X4_isKind_15 : ab_at mX4_isKind 15 = some (.ireturn, 1, (0, 99999, 0), []) := rfl
theorem at_X4_isKind_4 : ab_at mX4_isKind 4 = some (.iload_n 0, 1, (0, 99999, 0), []) := rfl
theorem at_X4_isKind_5 : ab_at mX4_isKind 5 = some (.bipush 7, 2, (0, 99999, 0), []) := rfl
theorem at_X4_isKind_7 : ab_at mX4_isKind 7 = some (.if_icmp .ge 7, 3, (0, 99999, 0), []) := rfl
theorem at_X4_isOfKind_0 : ab_at mX4_isOfKind 0 = some (.aload_n 0, 1, (0, 99999, 0), []) := rfl
theorem at_X4_isOfKind_1 : ab_at mX4_isOfKind 1 = some (.getfield 11, 3, (1, 4, 0), [126]) := rfl
theorem at_X4_isOfKind_10 : ab_at mX4_isOfKind 10 = some (.iload 4, 2, (0, 99999, 0), []) := rfl
theorem at_X4_isOfKind_12 : ab_at mX4_isOfKind 12 = some (.bipush 7, 2, (0, 99999, 0), []) := rfl
theorem at_X4_isOfKind_14 : ab_at mX4_isOfKind 14 = some (.if_icmp .ge 27, 3, (0, 99999, 0), []) := rfl
theorem at_X4_isOfKind_17 : ab_at mX4_isOfKind 17 = some (.iload_n 3, 1, (0, 99999, 0), []) := rfl
theorem at_X4_isOfKind_18 : ab_at mX4_isOfKind 18 = some (.iload_n 2, 1, (0, 99999, 0), []) := rfl
theorem at_X4_isOfKind_19 : ab_at mX4_isOfKind 19 = some (.if_icmp .eq 22, 3, (0, 99999, 0), []) := rfl
theorem at_X4_isOfKind_22 : ab_at mX4_isOfKind 22 = some (.iload_n 3, 1, (0, 99999, 0), []) := rfl
theorem at_X4_isOfKind_23 : ab_at mX4_isOfKind 23 = some (.invokestatic 58, 3, (4, 46, 1), [127]) := rfl
theorem at_X4_isOfKind_26 : ab_at mX4_isOfKind 26 = some (.ifCond .eq 15, 3, (0, 99999, 0), []) := rfl
theorem at_X4_isOfKind_29 : ab_at mX4_isOfKind 29 = some (.getstatic 62, 3, (13, 0, 0), [128]) := rfl
theorem at_X4_isOfKind_32 : ab_at mX4_isOfKind 32 = some (.iload_n 3, 1, (0, 99999, 0), []) := rfl
theorem at_X4_isOfKind_33 : ab_at mX4_isOfKind 33 = some (.iaload, 1, (0, 99999, 0), []) := rfl
theorem at_X4_isOfKind_34 : ab_at mX4_isOfKind 34 = some (.istore_n 3, 1, (0, 99999, 0), []) := rfl
theorem at_X4_isOfKind_35 : ab_at mX4_isOfKind 35 = some (.iinc 4 1, 3, (0, 99999, 0), []) := rfl
theorem at_X4_isOfKind_38 : ab_at mX4_isOfKind 38 = some (.goto (-28), 3, (0, 99999, 0), []) := rfl
theorem at_X4_isOfKind_4 : ab_at mX4_isOfKind 4 = some (.iload_n 1, 1, (0, 99999, 0), []) := rfl
theorem at_X4_isOfKind_41 : ab_at mX4_isOfKind 41 = some (.iload_n 3, 1, (0, 99999, 0), []) := rfl
theorem at_X4_isOfKind_42 : ab_at mX4_isOfKind 42 = some (.iload_n 2, 1, (0, 99999, 0), []) := rfl
theorem at_X4_isOfKind_43 : ab_at mX4_isOfKind 43 = some (.if_icmp .ne 7, 3, (0, 99999, 0), []) := rfl
theorem at_X4_isOfKind_46 : ab_at mX4_isOfKind 46 = some (.iconst 1, 1, (0, 99999, 0), []) := rfl
theorem at_X4_isOfKind_47 : ab_at mX4_isOfKind 47 = some (.goto 4, 3, (0, 99999, 0), []) := rfl
theorem at_X4_isOfKind_5 : ab_at mX4_isOfKind 5 = some (.iaload, 1, (0, 99999, 0), []) := rfl
theorem at_X4_isOfKind_50 : ab_at mX4_isOfKind 50 = some (.iconst 0, 1, (0, 99999, 0), []) := rfl
theorem at_X4_isOfKind_51 : ab_at mX4_isOfKind 51 = some (.ireturn, 1, (0, 99999, 0), []) := rfl
theorem at_X4_isOfKind_6 : ab_at mX4_isOfKind 6 = some (.istore_n 3, 1, (0, 99999, 0), []) := rfl
theorem at_X4_isOfKind_7 : ab_at mX4_isOfKind 7 = some (.iconst 0, 1, (0, 99999, 0), []) := rfl
theorem at_X4_isOfKind_8 : ab_at mX4_isOfKind 8 = some (.istore 4, 2, (0, 99999, 0), []) := rfl
theorem at_X4_isPerson_0 : ab_at mX4_isPerson 0 = some (.iload_n 1, 1, (0, 99999, 0), []) := rfl
theorem at_X4_isPerson_1 : ab_at mX4_isPerson 1 = some (.ifCond .lt 15, 3, (0, 99999, 0), []) := rfl
theorem at_X4_isPerson_12 : ab_at mX4_isPerson 12 = some (.iconst 1, 1, (0, 99999, 0), []) := rfl
theorem at_X4_isPerson_13 : ab_at mX4_isPerson 13 = some (.goto 4, 3, (0, 99999, 0), []) := rfl
theorem at_X4_isPerson_16 : ab_at mX4_isPerson 16 = some (.iconst 0, 1, (0, 99999, 0), []) := rfl
theorem at_X4_isPerson_17 : ab_at mX4_isPerson 17 = some (.ireturn, 1, (0, 99999, 0), []) := rfl
theorem at_X4_isPerson_4 : ab_at mX4_isPerson 4 = some (.iload_n 1, 1, (0, 99999, 0), []) := rfl
theorem at_X4_isPerson_5 : ab_at mX4_isPerson 5 = some (.aload_n 0, 1, (0, 99999, 0), []) := rfl
theorem at_X4_isPerson_6 : ab_at mX4_isPerson 6 = some (.getfield 43, 3, (1, 4, 10), [125]) := rfl
theorem at_X4_isPerson_9 : ab_at mX4_isPerson 9 = some (.if_icmp .ge 7, 3, (0, 99999, 0), []) := rfl
theorem at_X4_isPiece_0 : ab_at mX4_isPiece 0 = some (.iload_n 1, 1, (0, 99999, 0), []) := rfl
theorem at_X4_isPiece_1 : ab_at mX4_isPiece 1 = some (.ifCond .lt 15, 3, (0, 99999, 0), []) := rfl
theorem at_X4_isPiece_12 : ab_at mX4_isPiece 12 = some (.iconst 1, 1, (0, 99999, 0), []) := rfl
theorem at_X4_isPiece_13 : ab_at mX4_isPiece 13 = some (.goto 4, 3, (0, 99999, 0), []) := rfl
theorem at_X4_isPiece_16 : ab_at mX4_isPiece 16 = some (.iconst 0, 1, (0, 99999, 0), []) := rfl
theorem at_X4_isPiece_17 : ab_at mX4_isPiece 17 = some (.ireturn, 1, (0, 99999, 0), []) := rfl
theorem at_X4_isPiece_4 : ab_at mX4_isPiece 4 = some (.iload_n 1, 1, (0, 99999, 0), []) := rfl
theorem at_X4_isPiece_5 : ab_at mX4_isPiece 5 = some (.aload_n 0, 1, (0, 99999, 0), []) := rfl
theorem at_X4_isPiece_6 : ab_at mX4_isPiece 6 = some (.getfield 39, 3, (1, 4, 9), [124]) := rfl
theorem at_X4_isPiece_9 : ab_at mX4_isPiece 9 = some (.if_icmp .ge 7, 3, (0, 99999, 0), []) := rfl
theorem at_X4_take_0 : ab_at mX4_take 0 = some (.aload_n 1, 1, (0, 99999, 0), []) := rfl
theorem at_X4_take_1 : ab_at mX4_take 1 = some (.getfield 11, 3, (1, 4, 0), [126]) := rfl
theorem at_X4_take_10 : ab_at mX4_take 10 = some (.bipush 9, 2, (0, 99999, 0), []) := rfl
theorem at_X4_take_100 : ab_at mX4_take 100 = some (.bipush 6, 2, (0, 99999, 0), []) := rfl
theorem at_X4_take_102 : ab_at mX4_take 102 = some (.invokestatic 65, 3, (9, 99999, 0), [129]) := rfl
theorem at_X4_take_105 : ab_at mX4_take 105 = some (.aload_n 1, 1, (0, 99999, 0), []) := rfl
theorem at_X4_take_106 : ab_at mX4_take 106 = some (.getfield 33, 3, (1, 4, 7), [136]) := rfl
theorem at_X4_take_109 : ab_at mX4_take 109 = some (.iconst 0, 1, (0, 99999, 0), []) := rfl
theorem at_X4_take_110 : ab_at mX4_take 110 = some (.aload_n 0, 1, (0, 99999, 0), []) := rfl
theorem at_X4_take_111 : ab_at mX4_take 111 = some (.getfield 33, 3, (1, 4, 7), [136]) := rfl
theorem at_X4_take_114 : ab_at mX4_take 114 = some (.iconst 0, 1, (0, 99999, 0), []) := rfl
theorem at_X4_take_115 : ab_at mX4_take 115 = some (.bipush 6, 2, (0, 99999, 0), []) := rfl
theorem at_X4_take_117 : ab_at mX4_take 117 = some (.invokestatic 65, 3, (9, 99999, 0), [129]) := rfl
theorem at_X4_take_12 : ab_at mX4_take 12 = some (.invokestatic 65, 3, (9, 99999, 0), [129]) := rfl
theorem at_X4_take_120 : ab_at mX4_take 120 = some (.aload_n 1, 1, (0, 99999, 0), []) := rfl
theorem at_X4_take_121 : ab_at mX4_take 121 = some (.getfield 36, 3, (1, 4, 8), [123]) := rfl
theorem at_X4_take_124 : ab_at mX4_take 124 = some (.iconst 0, 1, (0, 99999, 0), []) := rfl
theorem at_X4_take_125 : ab_at mX4_take 125 = some (.aload_n 0, 1, (0, 99999, 0), []) := rfl
theorem at_X4_take_126 : ab_at mX4_take 126 = some (.getfield 36, 3, (1, 4, 8), [123]) := rfl
theorem at_X4_take_129 : ab_at mX4_take 129 = some (.iconst 0, 1, (0, 99999, 0), []) := rfl
theorem at_X4_take_130 : ab_at mX4_take 130 = some (.bipush 8, 2, (0, 99999, 0), []) := rfl
theorem at_X4_take_132 : ab_at mX4_take 132 = some (.invokestatic 65, 3, (9, 99999, 0), [129]) := rfl
theorem at_X4_take_135 : ab_at mX4_take 135 = some (.aload_n 0, 1, (0, 99999, 0), []) := rfl
theorem at_X4_take_136 : ab_at mX4_take 136 = some (.aload_n 1, 1, (0, 99999, 0), []) := rfl
theorem at_X4_take_137 : ab_at mX4_take 137 = some (.getfield 39, 3, (1, 4, 9), [124]) := rfl
theorem at_X4_take_140 : ab_at mX4_take 140 = some (.putfield 39, 3, (1, 4, 9), [117]) := rfl
theorem at_X4_take_143 : ab_at mX4_take 143 = some (.aload_n 0, 1, (0, 99999, 0), []) := rfl
theorem at_X4_take_144 : ab_at mX4_take 144 = some (.aload_n 1, 1, (0, 99999, 0), []) := rfl
theorem at_X4_take_145 : ab_at mX4_take 145 = some (.getfield 43, 3, (1, 4, 10), [125]) := rfl
theorem at_X4_take_148 : ab_at mX4_take 148 = some (.putfield 43, 3, (1, 4, 10), [118]) := rfl
theorem at_X4_take_15 : ab_at mX4_take 15 = some (.aload_n 1, 1, (0, 99999, 0), []) := rfl
theorem at_X4_take_151 : ab_at mX4_take 151 = some (.aload_n 0, 1, (0, 99999, 0), []) := rfl
theorem at_X4_take_152 : ab_at mX4_take 152 = some (.aload_n 1, 1, (0, 99999, 0), []) := rfl
theorem at_X4_take_153 : ab_at mX4_take 153 = some (.getfield 46, 3, (1, 4, 11), [137]) := rfl
theorem at_X4_take_156 : ab_at mX4_take 156 = some (.putfield 46, 3, (1, 4, 11), [119]) := rfl
theorem at_X4_take_159 : ab_at mX4_take 159 = some (.aload_n 0, 1, (0, 99999, 0), []) := rfl
theorem at_X4_take_16 : ab_at mX4_take 16 = some (.getfield 15, 3, (1, 4, 1), [130]) := rfl
theorem at_X4_take_160 : ab_at mX4_take 160 = some (.aload_n 1, 1, (0, 99999, 0), []) := rfl
theorem at_X4_take_161 : ab_at mX4_take 161 = some (.getfield 49, 3, (1, 4, 12), [138]) := rfl
theorem at_X4_take_164 : ab_at mX4_take 164 = some (.putfield 49, 3, (1, 4, 12), [120]) := rfl
theorem at_X4_take_167 : ab_at mX4_take 167 = some (.aload_n 0, 1, (0, 99999, 0), []) := rfl
theorem at_X4_take_168 : ab_at mX4_take 168 = some (.aload_n 1, 1, (0, 99999, 0), []) := rfl
theorem at_X4_take_169 : ab_at mX4_take 169 = some (.getfield 52, 3, (1, 4, 13), [139]) := rfl
theorem at_X4_take_172 : ab_at mX4_take 172 = some (.putfield 52, 3, (1, 4, 13), [121]) := rfl
theorem at_X4_take_175 : ab_at mX4_take 175 = some (.aload_n 0, 1, (0, 99999, 0), []) := rfl
theorem at_X4_take_176 : ab_at mX4_take 176 = some (.aload_n 1, 1, (0, 99999, 0), []) := rfl
theorem at_X4_take_177 : ab_at mX4_take 177 = some (.getfield 55, 3, (1, 4, 14), [140]) := rfl
theorem at_X4_take_180 : ab_at mX4_take 180 = some (.putfield 55, 3, (1, 4, 14), [122]) := rfl
theorem at_X4_take_183 : ab_at mX4_take 183 = some (.return_, 1, (0, 99999, 0), []) := rfl
theorem at_X4_take_19 : ab_at mX4_take 19 = some (.iconst 0, 1, (0, 99999, 0), []) := rfl
theorem at_X4_take_20 : ab_at mX4_take 20 = some (.aload_n 0, 1, (0, 99999, 0), []) := rfl
theorem at_X4_take_21 : ab_at mX4_take 21 = some (.getfield 15, 3, (1, 4, 1), [130]) := rfl
theorem at_X4_take_24 : ab_at mX4_take 24 = some (.iconst 0, 1, (0, 99999, 0), []) := rfl
theorem at_X4_take_25 : ab_at mX4_take 25 = some (.bipush 9, 2, (0, 99999, 0), []) := rfl
theorem at_X4_take_27 : ab_at mX4_take 27 = some (.invokestatic 65, 3, (9, 99999, 0), [129]) := rfl
theorem at_X4_take_30 : ab_at mX4_take 30 = some (.aload_n 1, 1, (0, 99999, 0), []) := rfl
theorem at_X4_take_31 : ab_at mX4_take 31 = some (.getfield 18, 3, (1, 4, 2), [131]) := rfl
theorem at_X4_take_34 : ab_at mX4_take 34 = some (.iconst 0, 1, (0, 99999, 0), []) := rfl
theorem at_X4_take_35 : ab_at mX4_take 35 = some (.aload_n 0, 1, (0, 99999, 0), []) := rfl
theorem at_X4_take_36 : ab_at mX4_take 36 = some (.getfield 18, 3, (1, 4, 2), [131]) := rfl
theorem at_X4_take_39 : ab_at mX4_take 39 = some (.iconst 0, 1, (0, 99999, 0), []) := rfl
theorem at_X4_take_4 : ab_at mX4_take 4 = some (.iconst 0, 1, (0, 99999, 0), []) := rfl
theorem at_X4_take_40 : ab_at mX4_take 40 = some (.bipush 9, 2, (0, 99999, 0), []) := rfl
theorem at_X4_take_42 : ab_at mX4_take 42 = some (.invokestatic 65, 3, (9, 99999, 0), [129]) := rfl
theorem at_X4_take_45 : ab_at mX4_take 45 = some (.aload_n 1, 1, (0, 99999, 0), []) := rfl
theorem at_X4_take_46 : ab_at mX4_take 46 = some (.getfield 21, 3, (1, 4, 3), [132]) := rfl
theorem at_X4_take_49 : ab_at mX4_take 49 = some (.iconst 0, 1, (0, 99999, 0), []) := rfl
theorem at_X4_take_5 : ab_at mX4_take 5 = some (.aload_n 0, 1, (0, 99999, 0), []) := rfl
theorem at_X4_take_50 : ab_at mX4_take 50 = some (.aload_n 0, 1, (0, 99999, 0), []) := rfl
theorem at_X4_take_51 : ab_at mX4_take 51 = some (.getfield 21, 3, (1, 4, 3), [132]) := rfl
theorem at_X4_take_54 : ab_at mX4_take 54 = some (.iconst 0, 1, (0, 99999, 0), []) := rfl
theorem at_X4_take_55 : ab_at mX4_take 55 = some (.bipush 9, 2, (0, 99999, 0), []) := rfl
theorem at_X4_take_57 : ab_at mX4_take 57 = some (.invokestatic 65, 3, (9, 99999, 0), [129]) := rfl
theorem at_X4_take_6 : ab_at mX4_take 6 = some (.getfield 11, 3, (1, 4, 0), [126]) := rfl
theorem at_X4_take_60 : ab_at mX4_take 60 = some (.aload_n 1, 1, (0, 99999, 0), []) := rfl
theorem at_X4_take_61 : ab_at mX4_take 61 = some (.getfield 24, 3, (1, 4, 4), [133]) := rfl
theorem at_X4_take_64 : ab_at mX4_take 64 = some (.iconst 0, 1, (0, 99999, 0), []) := rfl
theorem at_X4_take_65 : ab_at mX4_take 65 = some (.aload_n 0, 1, (0, 99999, 0), []) := rfl
theorem at_X4_take_66 : ab_at mX4_take 66 = some (.getfield 24, 3, (1, 4, 4), [133]) := rfl
theorem at_X4_take_69 : ab_at mX4_take 69 = some (.iconst 0, 1, (0, 99999, 0), []) := rfl
theorem at_X4_take_70 : ab_at mX4_take 70 = some (.bipush 6, 2, (0, 99999, 0), []) := rfl
theorem at_X4_take_72 : ab_at mX4_take 72 = some (.invokestatic 65, 3, (9, 99999, 0), [129]) := rfl
theorem at_X4_take_75 : ab_at mX4_take 75 = some (.aload_n 1, 1, (0, 99999, 0), []) := rfl
theorem at_X4_take_76 : ab_at mX4_take 76 = some (.getfield 27, 3, (1, 4, 5), [134]) := rfl
theorem at_X4_take_79 : ab_at mX4_take 79 = some (.iconst 0, 1, (0, 99999, 0), []) := rfl
theorem at_X4_take_80 : ab_at mX4_take 80 = some (.aload_n 0, 1, (0, 99999, 0), []) := rfl
theorem at_X4_take_81 : ab_at mX4_take 81 = some (.getfield 27, 3, (1, 4, 5), [134]) := rfl
theorem at_X4_take_84 : ab_at mX4_take 84 = some (.iconst 0, 1, (0, 99999, 0), []) := rfl
theorem at_X4_take_85 : ab_at mX4_take 85 = some (.bipush 6, 2, (0, 99999, 0), []) := rfl
theorem at_X4_take_87 : ab_at mX4_take 87 = some (.invokestatic 65, 3, (9, 99999, 0), [129]) := rfl
theorem at_X4_take_9 : ab_at mX4_take 9 = some (.iconst 0, 1, (0, 99999, 0), []) := rfl
theorem at_X4_take_90 : ab_at mX4_take 90 = some (.aload_n 1, 1, (0, 99999, 0), []) := rfl
theorem at_X4_take_91 : ab_at mX4_take 91 = some (.getfield 30, 3, (1, 4, 6), [135]) := rfl
theorem at_X4_take_94 : ab_at mX4_take 94 = some (.iconst 0, 1, (0, 99999, 0), []) := rfl
theorem at_X4_take_95 : ab_at mX4_take 95 = some (.aload_n 0, 1, (0, 99999, 0), []) := rfl
theorem at_X4_take_96 : ab_at mX4_take 96 = some (.getfield 30, 3, (1, 4, 6), [135]) := rfl
theorem at_X4_take_99 : ab_at mX4_take 99 = some (.iconst 0, 1, (0, 99999, 0), []) := rfl
theorem at_X5_act_0 : ab_at mX5_act 0 = some (.aload_n 0, 1, (0, 99999, 0), []) := rfl
theorem at_X5_act_1 : ab_at mX5_act 1 = some (.getfield 45, 3, (1, 5, 6), [262]) := rfl
theorem at_X5_act_10 : ab_at mX5_act 10 = some (.iload_n 3, 1, (0, 99999, 0), []) := rfl
theorem at_X5_act_11 : ab_at mX5_act 11 = some (.invokevirtual 299, 3, (3, 8, 4), [263]) := rfl
theorem at_X5_act_14 : ab_at mX5_act 14 = some (.ireturn, 1, (0, 99999, 0), []) := rfl
theorem at_X5_act_4 : ab_at mX5_act 4 = some (.aload_n 0, 1, (0, 99999, 0), []) := rfl
theorem at_X5_act_5 : ab_at mX5_act 5 = some (.getfield 10, 3, (1, 5, 0), [197]) := rfl
theorem at_X5_act_8 : ab_at mX5_act 8 = some (.iload_n 1, 1, (0, 99999, 0), []) := rfl
theorem at_X5_act_9 : ab_at mX5_act 9 = some (.iload_n 2, 1, (0, 99999, 0), []) := rfl
theorem at_X5_amounts_0 : ab_at mX5_amounts 0 = some (.iload_n 1, 1, (0, 99999, 0), []) := rfl
theorem at_X5_amounts_1 : ab_at mX5_amounts 1 = some (.ifCond .ne 22, 3, (0, 99999, 0), []) := rfl
theorem at_X5_areAllThere_0 : ab_at mX5_areAllThere 0 = some (.iconst 0, 1, (0, 99999, 0), []) := rfl
theorem at_X5_areAllThere_1 : ab_at mX5_areAllThere 1 = some (.istore_n 3, 1, (0, 99999, 0), []) := rfl
theorem at_X5_areAllThere_11 : ab_at mX5_areAllThere 11 = some (.aload_n 1, 1, (0, 99999, 0), []) := rfl
theorem at_X5_areAllThere_12 : ab_at mX5_areAllThere 12 = some (.iload_n 3, 1, (0, 99999, 0), []) := rfl
theorem at_X5_areAllThere_13 : ab_at mX5_areAllThere 13 = some (.invokevirtual 256, 3, (3, 43, 1), [247]) := rfl
theorem at_X5_areAllThere_16 : ab_at mX5_areAllThere 16 = some (.invokevirtual 161, 3, (3, 51, 1), [216]) := rfl
theorem at_X5_areAllThere_19 : ab_at mX5_areAllThere 19 = some (.ifCond .ne 5, 3, (0, 99999, 0), []) := rfl
theorem at_X5_areAllThere_2 : ab_at mX5_areAllThere 2 = some (.iload_n 3, 1, (0, 99999, 0), []) := rfl
theorem at_X5_areAllThere_3 : ab_at mX5_areAllThere 3 = some (.iload_n 2, 1, (0, 99999, 0), []) := rfl
theorem at_X5_areAllThere_4 : ab_at mX5_areAllThere 4 = some (.if_icmp .ge 26, 3, (0, 99999, 0), []) := rfl
theorem at_X5_areAllThere_7 : ab_at mX5_areAllThere 7 = some (.aload_n 0, 1, (0, 99999, 0), []) := rfl
theorem at_X5_areAllThere_8 : ab_at mX5_areAllThere 8 = some (.getfield 10, 3, (1, 5, 0), [197]) := rfl
theorem at_X5_back_0 : ab_at mX5_back 0 = some (.aload_n 0, 1, (0, 99999, 0), []) := rfl
theorem at_X5_back_1 : ab_at mX5_back 1 = some (.getfield 10, 3, (1, 5, 0), [197]) := rfl
theorem at_X5_back_4 : ab_at mX5_back 4 = some (.iload_n 1, 1, (0, 99999, 0), []) := rfl
theorem at_X5_back_5 : ab_at mX5_back 5 = some (.invokevirtual 107, 3, (3, 50, 1), [198]) := rfl
theorem at_X5_back_8 : ab_at mX5_back 8 = some (.ifCond .ne 9, 3, (0, 99999, 0), []) := rfl
theorem at_X5_behind_0 : ab_at mX5_behind 0 = some (.aload_n 0, 1, (0, 99999, 0), []) := rfl
theorem at_X5_behind_1 : ab_at mX5_behind 1 = some (.iload_n 1, 1, (0, 99999, 0), []) := rfl
theorem at_X5_behind_11 : ab_at mX5_behind 11 = some (.ifCond .ne 7, 3, (0, 99999, 0), []) := rfl
theorem at_X5_behind_14 : ab_at mX5_behind 14 = some (.iconst 1, 1, (0, 99999, 0), []) := rfl
theorem at_X5_behind_15 : ab_at mX5_behind 15 = some (.goto 4, 3, (0, 99999, 0), []) := rfl
theorem at_X5_behind_18 : ab_at mX5_behind 18 = some (.iconst 0, 1, (0, 99999, 0), []) := rfl
theorem at_X5_behind_19 : ab_at mX5_behind 19 = some (.invokevirtual 252, 3, (3, 120, 4), [246]) := rfl
theorem at_X5_behind_2 : ab_at mX5_behind 2 = some (.iload_n 2, 1, (0, 99999, 0), []) := rfl
theorem at_X5_behind_22 : ab_at mX5_behind 22 = some (.istore 4, 2, (0, 99999, 0), []) := rfl
theorem at_X5_behind_24 : ab_at mX5_behind 24 = some (.iload 4, 2, (0, 99999, 0), []) := rfl
theorem at_X5_behind_26 : ab_at mX5_behind 26 = some (.ifCond .ne 22, 3, (0, 99999, 0), []) := rfl
theorem at_X5_behind_29 : ab_at mX5_behind 29 = some (.aload_n 0, 1, (0, 99999, 0), []) := rfl
theorem at_X5_behind_3 : ab_at mX5_behind 3 = some (.bipush 20, 2, (0, 99999, 0), []) := rfl
theorem at_X5_behind_30 : ab_at mX5_behind 30 = some (.aload_n 0, 1, (0, 99999, 0), []) := rfl
theorem at_X5_behind_31 : ab_at mX5_behind 31 = some (.getfield 24, 3, (1, 5, 3), [182]) := rfl
theorem at_X5_behind_34 : ab_at mX5_behind 34 = some (.iload_n 1, 1, (0, 99999, 0), []) := rfl
theorem at_X5_behind_35 : ab_at mX5_behind 35 = some (.aaload, 1, (0, 99999, 0), []) := rfl
theorem at_X5_behind_36 : ab_at mX5_behind 36 = some (.iload_n 2, 1, (0, 99999, 0), []) := rfl
theorem at_X5_behind_37 : ab_at mX5_behind 37 = some (.invokevirtual 279, 3, (3, 123, 2), [254]) := rfl
theorem at_X5_behind_40 : ab_at mX5_behind 40 = some (.iconst (-1), 1, (0, 99999, 0), []) := rfl
theorem at_X5_behind_41 : ab_at mX5_behind 41 = some (.if_icmp .eq 7, 3, (0, 99999, 0), []) := rfl
theorem at_X5_behind_48 : ab_at mX5_behind 48 = some (.iload 4, 2, (0, 99999, 0), []) := rfl
theorem at_X5_behind_5 : ab_at mX5_behind 5 = some (.iload_n 3, 1, (0, 99999, 0), []) := rfl
theorem at_X5_behind_50 : ab_at mX5_behind 50 = some (.ifCond .eq 10, 3, (0, 99999, 0), []) := rfl
theorem at_X5_behind_53 : ab_at mX5_behind 53 = some (.aload_n 0, 1, (0, 99999, 0), []) := rfl
theorem at_X5_behind_54 : ab_at mX5_behind 54 = some (.iload 4, 2, (0, 99999, 0), []) := rfl
theorem at_X5_behind_56 : ab_at mX5_behind 56 = some (.invokevirtual 66, 3, (3, 118, 1), [186]) := rfl
theorem at_X5_behind_59 : ab_at mX5_behind 59 = some (.ireturn, 1, (0, 99999, 0), []) := rfl
theorem at_X5_behind_6 : ab_at mX5_behind 6 = some (.iconst 0, 1, (0, 99999, 0), []) := rfl
theorem at_X5_behind_7 : ab_at mX5_behind 7 = some (.iconst 2, 1, (0, 99999, 0), []) := rfl
theorem at_X5_behind_8 : ab_at mX5_behind 8 = some (.invokestatic 135, 3, (4, 115, 3), [207]) := rfl
theorem at_X5_best_0 : ab_at mX5_best 0 = some (.aload_n 0, 1, (0, 99999, 0), []) := rfl
theorem at_X5_best_1 : ab_at mX5_best 1 = some (.getfield 10, 3, (1, 5, 0), [197]) := rfl
theorem at_X5_best_20 : ab_at mX5_best 20 = some (.iload_n 2, 1, (0, 99999, 0), []) := rfl
theorem at_X5_best_21 : ab_at mX5_best 21 = some (.invokestatic 207, 3, (4, 116, 1), [232]) := rfl
theorem at_X5_best_24 : ab_at mX5_best 24 = some (.ifCond .ne 12, 3, (0, 99999, 0), []) := rfl
theorem at_X5_best_36 : ab_at mX5_best 36 = some (.aload_n 0, 1, (0, 99999, 0), []) := rfl
theorem at_X5_best_37 : ab_at mX5_best 37 = some (.getfield 10, 3, (1, 5, 0), [197]) := rfl
theorem at_X5_best_4 : ab_at mX5_best 4 = some (.iload_n 1, 1, (0, 99999, 0), []) := rfl
theorem at_X5_best_40 : ab_at mX5_best 40 = some (.iload_n 1, 1, (0, 99999, 0), []) := rfl
theorem at_X5_best_41 : ab_at mX5_best 41 = some (.invokevirtual 223, 3, (3, 68, 1), [238]) := rfl
theorem at_X5_best_44 : ab_at mX5_best 44 = some (.istore_n 3, 1, (0, 99999, 0), []) := rfl
theorem at_X5_best_45 : ab_at mX5_best 45 = some (.iload_n 2, 1, (0, 99999, 0), []) := rfl
theorem at_X5_best_46 : ab_at mX5_best 46 = some (.ifCond .eq 8, 3, (0, 99999, 0), []) := rfl
theorem at_X5_best_5 : ab_at mX5_best 5 = some (.invokevirtual 161, 3, (3, 51, 1), [216]) := rfl
theorem at_X5_best_59 : ab_at mX5_best 59 = some (.ireturn, 1, (0, 99999, 0), []) := rfl
theorem at_X5_best_8 : ab_at mX5_best 8 = some (.ifCond .ne 12, 3, (0, 99999, 0), []) := rfl
theorem at_X5_cast_0 : ab_at mX5_cast 0 = some (.aload_n 0, 1, (0, 99999, 0), []) := rfl
theorem at_X5_cast_1 : ab_at mX5_cast 1 = some (.getfield 10, 3, (1, 5, 0), [197]) := rfl
theorem at_X5_cast_11 : ab_at mX5_cast 11 = some (.aload_n 0, 1, (0, 99999, 0), []) := rfl
theorem at_X5_cast_12 : ab_at mX5_cast 12 = some (.iconst 1, 1, (0, 99999, 0), []) := rfl
theorem at_X5_cast_13 : ab_at mX5_cast 13 = some (.invokevirtual 66, 3, (3, 118, 1), [186]) := rfl
theorem at_X5_cast_16 : ab_at mX5_cast 16 = some (.ireturn, 1, (0, 99999, 0), []) := rfl
theorem at_X5_cast_17 : ab_at mX5_cast 17 = some (.aload_n 0, 1, (0, 99999, 0), []) := rfl
theorem at_X5_cast_18 : ab_at mX5_cast 18 = some (.aload_n 0, 1, (0, 99999, 0), []) := rfl
theorem at_X5_cast_19 : ab_at mX5_cast 19 = some (.getfield 10, 3, (1, 5, 0), [197]) := rfl
theorem at_X5_cast_22 : ab_at mX5_cast 22 = some (.iload_n 1, 1, (0, 99999, 0), []) := rfl
theorem at_X5_cast_23 : ab_at mX5_cast 23 = some (.iload_n 2, 1, (0, 99999, 0), []) := rfl
theorem at_X5_cast_24 : ab_at mX5_cast 24 = some (.invokevirtual 217, 3, (3, 122, 3), [236]) := rfl
theorem at_X5_cast_27 : ab_at mX5_cast 27 = some (.istore_n 3, 1, (0, 99999, 0), []) := rfl
theorem at_X5_cast_28 : ab_at mX5_cast 28 = some (.iload_n 3, 1, (0, 99999, 0), []) := rfl
theorem at_X5_cast_29 : ab_at mX5_cast 29 = some (.iconst (-1), 1, (0, 99999, 0), []) := rfl
theorem at_X5_cast_30 : ab_at mX5_cast 30 = some (.if_icmp .ne 10, 3, (0, 99999, 0), []) := rfl
theorem at_X5_cast_33 : ab_at mX5_cast 33 = some (.aload_n 0, 1, (0, 99999, 0), []) := rfl
theorem at_X5_cast_34 : ab_at mX5_cast 34 = some (.bipush 6, 2, (0, 99999, 0), []) := rfl
theorem at_X5_cast_36 : ab_at mX5_cast 36 = some (.invokevirtual 66, 3, (3, 118, 1), [186]) := rfl
theorem at_X5_cast_39 : ab_at mX5_cast 39 = some (.ireturn, 1, (0, 99999, 0), []) := rfl
theorem at_X5_cast_4 : ab_at mX5_cast 4 = some (.iload_n 1, 1, (0, 99999, 0), []) := rfl
theorem at_X5_cast_5 : ab_at mX5_cast 5 = some (.invokevirtual 161, 3, (3, 51, 1), [216]) := rfl
theorem at_X5_cast_8 : ab_at mX5_cast 8 = some (.ifCond .ne 9, 3, (0, 99999, 0), []) := rfl
theorem at_X5_change_0 : ab_at mX5_change 0 = some (.iload_n 2, 1, (0, 99999, 0), []) := rfl
theorem at_X5_change_1 : ab_at mX5_change 1 = some (.invokestatic 207, 3, (4, 116, 1), [232]) := rfl
theorem at_X5_change_16 : ab_at mX5_change 16 = some (.iload_n 1, 1, (0, 99999, 0), []) := rfl
theorem at_X5_change_17 : ab_at mX5_change 17 = some (.invokestatic 210, 3, (4, 48, 1), [233]) := rfl
theorem at_X5_change_20 : ab_at mX5_change 20 = some (.ifCond .ne 13, 3, (0, 99999, 0), []) := rfl
theorem at_X5_change_23 : ab_at mX5_change 23 = some (.aload_n 0, 1, (0, 99999, 0), []) := rfl
theorem at_X5_change_24 : ab_at mX5_change 24 = some (.bipush 6, 2, (0, 99999, 0), []) := rfl
theorem at_X5_change_26 : ab_at mX5_change 26 = some (.invokevirtual 66, 3, (3, 118, 1), [186]) := rfl
theorem at_X5_change_29 : ab_at mX5_change 29 = some (.bipush 10, 2, (0, 99999, 0), []) := rfl
theorem at_X5_change_31 : ab_at mX5_change 31 = some (.isub, 1, (0, 99999, 0), []) := rfl
theorem at_X5_change_32 : ab_at mX5_change 32 = some (.ireturn, 1, (0, 99999, 0), []) := rfl
theorem at_X5_change_4 : ab_at mX5_change 4 = some (.ifCond .ne 12, 3, (0, 99999, 0), []) := rfl
theorem at_X5_copy_0 : ab_at mX5_copy 0 = some (.iload_n 1, 1, (0, 99999, 0), []) := rfl
theorem at_X5_copy_1 : ab_at mX5_copy 1 = some (.invokestatic 62, 3, (4, 117, 1), [185]) := rfl
theorem at_X5_copy_101 : ab_at mX5_copy 101 = some (.aload 6, 2, (0, 99999, 0), []) := rfl
theorem at_X5_copy_103 : ab_at mX5_copy 103 = some (.iload_n 3, 1, (0, 99999, 0), []) := rfl
theorem at_X5_copy_104 : ab_at mX5_copy 104 = some (.iload 5, 2, (0, 99999, 0), []) := rfl
theorem at_X5_copy_106 : ab_at mX5_copy 106 = some (.invokevirtual 95, 3, (3, 36, 2), [194]) := rfl
theorem at_X5_copy_109 : ab_at mX5_copy 109 = some (.ifCond .eq 15, 3, (0, 99999, 0), []) := rfl
theorem at_X5_copy_11 : ab_at mX5_copy 11 = some (.ifCond .ne 9, 3, (0, 99999, 0), []) := rfl
theorem at_X5_copy_112 : ab_at mX5_copy 112 = some (.aload 7, 2, (0, 99999, 0), []) := rfl
theorem at_X5_copy_114 : ab_at mX5_copy 114 = some (.iload 4, 2, (0, 99999, 0), []) := rfl
theorem at_X5_copy_116 : ab_at mX5_copy 116 = some (.iload 5, 2, (0, 99999, 0), []) := rfl
theorem at_X5_copy_118 : ab_at mX5_copy 118 = some (.invokevirtual 95, 3, (3, 36, 2), [194]) := rfl
theorem at_X5_copy_121 : ab_at mX5_copy 121 = some (.ifCond .ne 9, 3, (0, 99999, 0), []) := rfl
theorem at_X5_copy_124 : ab_at mX5_copy 124 = some (.aload_n 0, 1, (0, 99999, 0), []) := rfl
theorem at_X5_copy_125 : ab_at mX5_copy 125 = some (.iconst 5, 1, (0, 99999, 0), []) := rfl
theorem at_X5_copy_126 : ab_at mX5_copy 126 = some (.invokevirtual 66, 3, (3, 118, 1), [186]) := rfl
theorem at_X5_copy_129 : ab_at mX5_copy 129 = some (.ireturn, 1, (0, 99999, 0), []) := rfl
theorem at_X5_copy_14 : ab_at mX5_copy 14 = some (.aload_n 0, 1, (0, 99999, 0), []) := rfl
theorem at_X5_copy_15 : ab_at mX5_copy 15 = some (.iconst 1, 1, (0, 99999, 0), []) := rfl
theorem at_X5_copy_16 : ab_at mX5_copy 16 = some (.invokevirtual 66, 3, (3, 118, 1), [186]) := rfl
theorem at_X5_copy_19 : ab_at mX5_copy 19 = some (.ireturn, 1, (0, 99999, 0), []) := rfl
theorem at_X5_copy_20 : ab_at mX5_copy 20 = some (.aload_n 0, 1, (0, 99999, 0), []) := rfl
theorem at_X5_copy_21 : ab_at mX5_copy 21 = some (.getfield 24, 3, (1, 5, 3), [182]) := rfl
theorem at_X5_copy_24 : ab_at mX5_copy 24 = some (.iload_n 1, 1, (0, 99999, 0), []) := rfl
theorem at_X5_copy_25 : ab_at mX5_copy 25 = some (.aaload, 1, (0, 99999, 0), []) := rfl
theorem at_X5_copy_26 : ab_at mX5_copy 26 = some (.astore 6, 2, (0, 99999, 0), []) := rfl
theorem at_X5_copy_28 : ab_at mX5_copy 28 = some (.aload_n 0, 1, (0, 99999, 0), []) := rfl
theorem at_X5_copy_29 : ab_at mX5_copy 29 = some (.getfield 24, 3, (1, 5, 3), [182]) := rfl
theorem at_X5_copy_32 : ab_at mX5_copy 32 = some (.iload_n 2, 1, (0, 99999, 0), []) := rfl
theorem at_X5_copy_33 : ab_at mX5_copy 33 = some (.aaload, 1, (0, 99999, 0), []) := rfl
theorem at_X5_copy_34 : ab_at mX5_copy 34 = some (.astore 7, 2, (0, 99999, 0), []) := rfl
theorem at_X5_copy_36 : ab_at mX5_copy 36 = some (.aload 6, 2, (0, 99999, 0), []) := rfl
theorem at_X5_copy_38 : ab_at mX5_copy 38 = some (.invokevirtual 84, 3, (3, 33, 0), [191]) := rfl
theorem at_X5_copy_4 : ab_at mX5_copy 4 = some (.ifCond .eq 10, 3, (0, 99999, 0), []) := rfl
theorem at_X5_copy_41 : ab_at mX5_copy 41 = some (.ifCond .ne 21, 3, (0, 99999, 0), []) := rfl
theorem at_X5_copy_44 : ab_at mX5_copy 44 = some (.aload 7, 2, (0, 99999, 0), []) := rfl
theorem at_X5_copy_46 : ab_at mX5_copy 46 = some (.invokevirtual 84, 3, (3, 33, 0), [191]) := rfl
theorem at_X5_copy_49 : ab_at mX5_copy 49 = some (.ifCond .ne 13, 3, (0, 99999, 0), []) := rfl
theorem at_X5_copy_52 : ab_at mX5_copy 52 = some (.aload 6, 2, (0, 99999, 0), []) := rfl
theorem at_X5_copy_54 : ab_at mX5_copy 54 = some (.aload 7, 2, (0, 99999, 0), []) := rfl
theorem at_X5_copy_56 : ab_at mX5_copy 56 = some (.invokevirtual 88, 3, (3, 34, 1), [192]) := rfl
theorem at_X5_copy_59 : ab_at mX5_copy 59 = some (.ifCond .eq 9, 3, (0, 99999, 0), []) := rfl
theorem at_X5_copy_62 : ab_at mX5_copy 62 = some (.aload_n 0, 1, (0, 99999, 0), []) := rfl
theorem at_X5_copy_63 : ab_at mX5_copy 63 = some (.iconst 2, 1, (0, 99999, 0), []) := rfl
theorem at_X5_copy_64 : ab_at mX5_copy 64 = some (.invokevirtual 66, 3, (3, 118, 1), [186]) := rfl
theorem at_X5_copy_67 : ab_at mX5_copy 67 = some (.ireturn, 1, (0, 99999, 0), []) := rfl
theorem at_X5_copy_68 : ab_at mX5_copy 68 = some (.aload 6, 2, (0, 99999, 0), []) := rfl
theorem at_X5_copy_7 : ab_at mX5_copy 7 = some (.iload_n 2, 1, (0, 99999, 0), []) := rfl
theorem at_X5_copy_70 : ab_at mX5_copy 70 = some (.invokevirtual 92, 3, (3, 32, 0), [193]) := rfl
theorem at_X5_copy_73 : ab_at mX5_copy 73 = some (.ifCond .ne 11, 3, (0, 99999, 0), []) := rfl
theorem at_X5_copy_76 : ab_at mX5_copy 76 = some (.aload 7, 2, (0, 99999, 0), []) := rfl
theorem at_X5_copy_78 : ab_at mX5_copy 78 = some (.invokevirtual 92, 3, (3, 32, 0), [193]) := rfl
theorem at_X5_copy_8 : ab_at mX5_copy 8 = some (.invokestatic 62, 3, (4, 117, 1), [185]) := rfl
theorem at_X5_copy_81 : ab_at mX5_copy 81 = some (.ifCond .eq 9, 3, (0, 99999, 0), []) := rfl
theorem at_X5_copy_90 : ab_at mX5_copy 90 = some (.iload 5, 2, (0, 99999, 0), []) := rfl
theorem at_X5_copy_92 : ab_at mX5_copy 92 = some (.ifCond .ge 9, 3, (0, 99999, 0), []) := rfl
theorem at_X5_cost_0 : ab_at mX5_cost 0 = some (.iload_n 1, 1, (0, 99999, 0), []) := rfl
theorem at_X5_cost_1 : ab_at mX5_cost 1 = some (.invokestatic 146, 3, (4, 47, 1), [210]) := rfl
theorem at_X5_cost_13 : ab_at mX5_cost 13 = some (.iload_n 2, 1, (0, 99999, 0), []) := rfl
theorem at_X5_cost_14 : ab_at mX5_cost 14 = some (.iconst 1, 1, (0, 99999, 0), []) := rfl
theorem at_X5_cost_15 : ab_at mX5_cost 15 = some (.bipush 60, 2, (0, 99999, 0), []) := rfl
theorem at_X5_cost_17 : ab_at mX5_cost 17 = some (.invokestatic 135, 3, (4, 115, 3), [207]) := rfl
theorem at_X5_cost_20 : ab_at mX5_cost 20 = some (.ifCond .ne 10, 3, (0, 99999, 0), []) := rfl
theorem at_X5_cost_4 : ab_at mX5_cost 4 = some (.ifCond .ne 9, 3, (0, 99999, 0), []) := rfl
theorem at_X5_costs_0 : ab_at mX5_costs 0 = some (.iload_n 3, 1, (0, 99999, 0), []) := rfl
theorem at_X5_costs_1 : ab_at mX5_costs 1 = some (.invokestatic 146, 3, (4, 47, 1), [210]) := rfl
theorem at_X5_costs_10 : ab_at mX5_costs 10 = some (.bipush 40, 2, (0, 99999, 0), []) := rfl
theorem at_X5_costs_12 : ab_at mX5_costs 12 = some (.iload 4, 2, (0, 99999, 0), []) := rfl
theorem at_X5_costs_14 : ab_at mX5_costs 14 = some (.invokestatic 207, 3, (4, 116, 1), [232]) := rfl
theorem at_X5_costs_17 : ab_at mX5_costs 17 = some (.ifCond .ne 7, 3, (0, 99999, 0), []) := rfl
theorem at_X5_costs_20 : ab_at mX5_costs 20 = some (.iconst 1, 1, (0, 99999, 0), []) := rfl
theorem at_X5_costs_21 : ab_at mX5_costs 21 = some (.goto 4, 3, (0, 99999, 0), []) := rfl
theorem at_X5_costs_24 : ab_at mX5_costs 24 = some (.iconst 0, 1, (0, 99999, 0), []) := rfl
theorem at_X5_costs_25 : ab_at mX5_costs 25 = some (.invokevirtual 252, 3, (3, 120, 4), [246]) := rfl
theorem at_X5_costs_28 : ab_at mX5_costs 28 = some (.goto 4, 3, (0, 99999, 0), []) := rfl
theorem at_X5_costs_31 : ab_at mX5_costs 31 = some (.iconst 1, 1, (0, 99999, 0), []) := rfl
theorem at_X5_costs_32 : ab_at mX5_costs 32 = some (.istore 5, 2, (0, 99999, 0), []) := rfl
theorem at_X5_costs_34 : ab_at mX5_costs 34 = some (.iload 5, 2, (0, 99999, 0), []) := rfl
theorem at_X5_costs_36 : ab_at mX5_costs 36 = some (.ifCond .ne 20, 3, (0, 99999, 0), []) := rfl
theorem at_X5_costs_39 : ab_at mX5_costs 39 = some (.aload_n 0, 1, (0, 99999, 0), []) := rfl
theorem at_X5_costs_4 : ab_at mX5_costs 4 = some (.ifCond .eq 27, 3, (0, 99999, 0), []) := rfl
theorem at_X5_costs_40 : ab_at mX5_costs 40 = some (.aload_n 0, 1, (0, 99999, 0), []) := rfl
theorem at_X5_costs_41 : ab_at mX5_costs 41 = some (.getfield 24, 3, (1, 5, 3), [182]) := rfl
theorem at_X5_costs_44 : ab_at mX5_costs 44 = some (.iload_n 1, 1, (0, 99999, 0), []) := rfl
theorem at_X5_costs_45 : ab_at mX5_costs 45 = some (.aaload, 1, (0, 99999, 0), []) := rfl
theorem at_X5_costs_46 : ab_at mX5_costs 46 = some (.iload_n 2, 1, (0, 99999, 0), []) := rfl
theorem at_X5_costs_47 : ab_at mX5_costs 47 = some (.invokevirtual 262, 3, (3, 124, 2), [249]) := rfl
theorem at_X5_costs_50 : ab_at mX5_costs 50 = some (.ifCond .ne 6, 3, (0, 99999, 0), []) := rfl
theorem at_X5_costs_56 : ab_at mX5_costs 56 = some (.iload 5, 2, (0, 99999, 0), []) := rfl
theorem at_X5_costs_58 : ab_at mX5_costs 58 = some (.ifCond .eq 13, 3, (0, 99999, 0), []) := rfl
theorem at_X5_costs_61 : ab_at mX5_costs 61 = some (.aload_n 0, 1, (0, 99999, 0), []) := rfl
theorem at_X5_costs_62 : ab_at mX5_costs 62 = some (.iload 5, 2, (0, 99999, 0), []) := rfl
theorem at_X5_costs_64 : ab_at mX5_costs 64 = some (.invokevirtual 66, 3, (3, 118, 1), [186]) := rfl
theorem at_X5_costs_67 : ab_at mX5_costs 67 = some (.bipush 10, 2, (0, 99999, 0), []) := rfl
theorem at_X5_costs_69 : ab_at mX5_costs 69 = some (.isub, 1, (0, 99999, 0), []) := rfl
theorem at_X5_costs_7 : ab_at mX5_costs 7 = some (.aload_n 0, 1, (0, 99999, 0), []) := rfl
theorem at_X5_costs_70 : ab_at mX5_costs 70 = some (.ireturn, 1, (0, 99999, 0), []) := rfl
theorem at_X5_costs_8 : ab_at mX5_costs 8 = some (.iload_n 1, 1, (0, 99999, 0), []) := rfl
theorem at_X5_costs_81 : ab_at mX5_costs 81 = some (.iload 8, 2, (0, 99999, 0), []) := rfl
theorem at_X5_costs_83 : ab_at mX5_costs 83 = some (.ifCond .le 33, 3, (0, 99999, 0), []) := rfl
theorem at_X5_costs_9 : ab_at mX5_costs 9 = some (.iload_n 2, 1, (0, 99999, 0), []) := rfl
theorem at_X5_days_0 : ab_at mX5_days 0 = some (.aload_n 0, 1, (0, 99999, 0), []) := rfl
theorem at_X5_days_1 : ab_at mX5_days 1 = some (.getfield 10, 3, (1, 5, 0), [197]) := rfl
theorem at_X5_days_16 : ab_at mX5_days 16 = some (.iload_n 1, 1, (0, 99999, 0), []) := rfl
theorem at_X5_days_17 : ab_at mX5_days 17 = some (.iconst 1, 1, (0, 99999, 0), []) := rfl
theorem at_X5_days_18 : ab_at mX5_days 18 = some (.bipush 40, 2, (0, 99999, 0), []) := rfl
theorem at_X5_days_20 : ab_at mX5_days 20 = some (.invokestatic 135, 3, (4, 115, 3), [207]) := rfl
theorem at_X5_days_23 : ab_at mX5_days 23 = some (.ifCond .ne 10, 3, (0, 99999, 0), []) := rfl
theorem at_X5_days_4 : ab_at mX5_days 4 = some (.getfield 249, 3, (1, 4, 10), [245]) := rfl
theorem at_X5_days_7 : ab_at mX5_days 7 = some (.ifCond .ne 9, 3, (0, 99999, 0), []) := rfl
theorem at_X5_dear_0 : ab_at mX5_dear 0 = some (.iload_n 1, 1, (0, 99999, 0), []) := rfl
theorem at_X5_dear_1 : ab_at mX5_dear 1 = some (.lookupswitch 37 #[(0, 27), (1, 32)], 27, (0, 99999, 0), []) := rfl
theorem at_X5_dearest_16 : ab_at mX5_dearest 16 = some (.iload 4, 2, (0, 99999, 0), []) := rfl
theorem at_X5_dearest_18 : ab_at mX5_dearest 18 = some (.aload_n 0, 1, (0, 99999, 0), []) := rfl
theorem at_X5_dearest_19 : ab_at mX5_dearest 19 = some (.getfield 10, 3, (1, 5, 0), [197]) := rfl
theorem at_X5_dearest_22 : ab_at mX5_dearest 22 = some (.getfield 306, 3, (1, 4, 9), [266]) := rfl
theorem at_X5_dearest_25 : ab_at mX5_dearest 25 = some (.if_icmp .ge 54, 3, (0, 99999, 0), []) := rfl
theorem at_X5_dearest_28 : ab_at mX5_dearest 28 = some (.iload_n 3, 1, (0, 99999, 0), []) := rfl
theorem at_X5_dearest_29 : ab_at mX5_dearest 29 = some (.iload 4, 2, (0, 99999, 0), []) := rfl
theorem at_X5_dearest_31 : ab_at mX5_dearest 31 = some (.invokestatic 321, 3, (4, 49, 2), [273]) := rfl
theorem at_X5_dearest_34 : ab_at mX5_dearest 34 = some (.ifCond .ne 6, 3, (0, 99999, 0), []) := rfl
theorem at_X5_dearest_73 : ab_at mX5_dearest 73 = some (.iinc 4 1, 3, (0, 99999, 0), []) := rfl
theorem at_X5_dearest_76 : ab_at mX5_dearest 76 = some (.goto (-60), 3, (0, 99999, 0), []) := rfl
theorem at_X5_done_0 : ab_at mX5_done 0 = some (.aload_n 0, 1, (0, 99999, 0), []) := rfl
theorem at_X5_done_1 : ab_at mX5_done 1 = some (.iload_n 1, 1, (0, 99999, 0), []) := rfl
theorem at_X5_done_10 : ab_at mX5_done 10 = some (.iload_n 3, 1, (0, 99999, 0), []) := rfl
theorem at_X5_done_11 : ab_at mX5_done 11 = some (.ifCond .ne 21, 3, (0, 99999, 0), []) := rfl
theorem at_X5_done_2 : ab_at mX5_done 2 = some (.iload_n 2, 1, (0, 99999, 0), []) := rfl
theorem at_X5_done_3 : ab_at mX5_done 3 = some (.bipush 20, 2, (0, 99999, 0), []) := rfl
theorem at_X5_done_32 : ab_at mX5_done 32 = some (.iload_n 3, 1, (0, 99999, 0), []) := rfl
theorem at_X5_done_33 : ab_at mX5_done 33 = some (.ifCond .eq 9, 3, (0, 99999, 0), []) := rfl
theorem at_X5_done_36 : ab_at mX5_done 36 = some (.aload_n 0, 1, (0, 99999, 0), []) := rfl
theorem at_X5_done_37 : ab_at mX5_done 37 = some (.iload_n 3, 1, (0, 99999, 0), []) := rfl
theorem at_X5_done_38 : ab_at mX5_done 38 = some (.invokevirtual 66, 3, (3, 118, 1), [186]) := rfl
theorem at_X5_done_41 : ab_at mX5_done 41 = some (.ireturn, 1, (0, 99999, 0), []) := rfl
theorem at_X5_done_5 : ab_at mX5_done 5 = some (.iconst 0, 1, (0, 99999, 0), []) := rfl
theorem at_X5_done_6 : ab_at mX5_done 6 = some (.invokevirtual 252, 3, (3, 120, 4), [246]) := rfl
theorem at_X5_done_9 : ab_at mX5_done 9 = some (.istore_n 3, 1, (0, 99999, 0), []) := rfl
theorem at_X5_draftDay_13 : ab_at mX5_draftDay 13 = some (.iload_n 3, 1, (0, 99999, 0), []) := rfl
theorem at_X5_draftDay_14 : ab_at mX5_draftDay 14 = some (.iload_n 2, 1, (0, 99999, 0), []) := rfl
theorem at_X5_draftDay_15 : ab_at mX5_draftDay 15 = some (.if_icmp .ge 57, 3, (0, 99999, 0), []) := rfl
theorem at_X5_draftDay_18 : ab_at mX5_draftDay 18 = some (.aload_n 1, 1, (0, 99999, 0), []) := rfl
theorem at_X5_draftDay_19 : ab_at mX5_draftDay 19 = some (.iload_n 3, 1, (0, 99999, 0), []) := rfl
theorem at_X5_draftDay_20 : ab_at mX5_draftDay 20 = some (.invokevirtual 256, 3, (3, 43, 1), [247]) := rfl
theorem at_X5_draftDay_23 : ab_at mX5_draftDay 23 = some (.istore 4, 2, (0, 99999, 0), []) := rfl
theorem at_X5_draftDay_25 : ab_at mX5_draftDay 25 = some (.aload_n 0, 1, (0, 99999, 0), []) := rfl
theorem at_X5_draftDay_26 : ab_at mX5_draftDay 26 = some (.aload_n 0, 1, (0, 99999, 0), []) := rfl
theorem at_X5_draftDay_27 : ab_at mX5_draftDay 27 = some (.getfield 16, 3, (1, 5, 1), [255]) := rfl
theorem at_X5_draftDay_30 : ab_at mX5_draftDay 30 = some (.iload 4, 2, (0, 99999, 0), []) := rfl
theorem at_X5_draftDay_32 : ab_at mX5_draftDay 32 = some (.aload_n 1, 1, (0, 99999, 0), []) := rfl
theorem at_X5_draftDay_33 : ab_at mX5_draftDay 33 = some (.iload_n 3, 1, (0, 99999, 0), []) := rfl
theorem at_X5_draftDay_34 : ab_at mX5_draftDay 34 = some (.invokevirtual 259, 3, (3, 44, 1), [248]) := rfl
theorem at_X5_draftDay_37 : ab_at mX5_draftDay 37 = some (.invokevirtual 217, 3, (3, 122, 3), [236]) := rfl
theorem at_X5_draftDay_40 : ab_at mX5_draftDay 40 = some (.istore 5, 2, (0, 99999, 0), []) := rfl
theorem at_X5_draftDay_42 : ab_at mX5_draftDay 42 = some (.iload 5, 2, (0, 99999, 0), []) := rfl
theorem at_X5_draftDay_44 : ab_at mX5_draftDay 44 = some (.iconst (-1), 1, (0, 99999, 0), []) := rfl
theorem at_X5_draftDay_45 : ab_at mX5_draftDay 45 = some (.if_icmp .ne 5, 3, (0, 99999, 0), []) := rfl
theorem at_X5_draftDay_48 : ab_at mX5_draftDay 48 = some (.iload_n 3, 1, (0, 99999, 0), []) := rfl
theorem at_X5_draftDay_49 : ab_at mX5_draftDay 49 = some (.ireturn, 1, (0, 99999, 0), []) := rfl
theorem at_X5_element_0 : ab_at mX5_element 0 = some (.iload_n 1, 1, (0, 99999, 0), []) := rfl
theorem at_X5_element_1 : ab_at mX5_element 1 = some (.invokestatic 62, 3, (4, 117, 1), [185]) := rfl
theorem at_X5_element_11 : ab_at mX5_element 11 = some (.iload_n 1, 1, (0, 99999, 0), []) := rfl
theorem at_X5_element_12 : ab_at mX5_element 12 = some (.aaload, 1, (0, 99999, 0), []) := rfl
theorem at_X5_element_13 : ab_at mX5_element 13 = some (.iload_n 2, 1, (0, 99999, 0), []) := rfl
theorem at_X5_element_14 : ab_at mX5_element 14 = some (.invokevirtual 103, 3, (3, 40, 1), [196]) := rfl
theorem at_X5_element_17 : ab_at mX5_element 17 = some (.goto 4, 3, (0, 99999, 0), []) := rfl
theorem at_X5_element_21 : ab_at mX5_element 21 = some (.lreturn, 1, (0, 99999, 0), []) := rfl
theorem at_X5_element_4 : ab_at mX5_element 4 = some (.ifCond .eq 16, 3, (0, 99999, 0), []) := rfl
theorem at_X5_element_7 : ab_at mX5_element 7 = some (.aload_n 0, 1, (0, 99999, 0), []) := rfl
theorem at_X5_element_8 : ab_at mX5_element 8 = some (.getfield 24, 3, (1, 5, 3), [182]) := rfl
theorem at_X5_fails_0 : ab_at mX5_fails 0 = some (.iload_n 1, 1, (0, 99999, 0), []) := rfl
theorem at_X5_fails_1 : ab_at mX5_fails 1 = some (.invokestatic 207, 3, (4, 116, 1), [232]) := rfl
theorem at_X5_fails_101 : ab_at mX5_fails 101 = some (.iconst 0, 1, (0, 99999, 0), []) := rfl
theorem at_X5_fails_102 : ab_at mX5_fails 102 = some (.istore 6, 2, (0, 99999, 0), []) := rfl
theorem at_X5_fails_104 : ab_at mX5_fails 104 = some (.iload_n 1, 1, (0, 99999, 0), []) := rfl
theorem at_X5_fails_105 : ab_at mX5_fails 105 = some (.ifCond .ne 11, 3, (0, 99999, 0), []) := rfl
theorem at_X5_fails_108 : ab_at mX5_fails 108 = some (.iload 5, 2, (0, 99999, 0), []) := rfl
theorem at_X5_fails_110 : ab_at mX5_fails 110 = some (.ifCond .eq 13, 3, (0, 99999, 0), []) := rfl
theorem at_X5_fails_116 : ab_at mX5_fails 116 = some (.iload 6, 2, (0, 99999, 0), []) := rfl
theorem at_X5_fails_118 : ab_at mX5_fails 118 = some (.ifCond .eq 5, 3, (0, 99999, 0), []) := rfl
theorem at_X5_fails_123 : ab_at mX5_fails 123 = some (.iinc 2 1, 3, (0, 99999, 0), []) := rfl
theorem at_X5_fails_126 : ab_at mX5_fails 126 = some (.goto (-90), 3, (0, 99999, 0), []) := rfl
theorem at_X5_fails_36 : ab_at mX5_fails 36 = some (.iload_n 2, 1, (0, 99999, 0), []) := rfl
theorem at_X5_fails_37 : ab_at mX5_fails 37 = some (.bipush 100, 2, (0, 99999, 0), []) := rfl
theorem at_X5_fails_39 : ab_at mX5_fails 39 = some (.if_icmp .ge 90, 3, (0, 99999, 0), []) := rfl
theorem at_X5_fails_4 : ab_at mX5_fails 4 = some (.ifCond .ne 12, 3, (0, 99999, 0), []) := rfl
theorem at_X5_fails_42 : ab_at mX5_fails 42 = some (.aload_n 0, 1, (0, 99999, 0), []) := rfl
theorem at_X5_fails_43 : ab_at mX5_fails 43 = some (.getfield 31, 3, (1, 5, 4), [234]) := rfl
theorem at_X5_fails_46 : ab_at mX5_fails 46 = some (.iload_n 2, 1, (0, 99999, 0), []) := rfl
theorem at_X5_fails_47 : ab_at mX5_fails 47 = some (.invokevirtual 234, 3, (3, 4, 1), [241]) := rfl
theorem at_X5_fails_50 : ab_at mX5_fails 50 = some (.istore_n 3, 1, (0, 99999, 0), []) := rfl
theorem at_X5_fails_51 : ab_at mX5_fails 51 = some (.aload_n 0, 1, (0, 99999, 0), []) := rfl
theorem at_X5_fails_52 : ab_at mX5_fails 52 = some (.getfield 10, 3, (1, 5, 0), [197]) := rfl
theorem at_X5_fails_55 : ab_at mX5_fails 55 = some (.iload_n 2, 1, (0, 99999, 0), []) := rfl
theorem at_X5_fails_56 : ab_at mX5_fails 56 = some (.invokevirtual 237, 3, (3, 69, 1), [242]) := rfl
theorem at_X5_fails_59 : ab_at mX5_fails 59 = some (.istore 4, 2, (0, 99999, 0), []) := rfl
theorem at_X5_fails_61 : ab_at mX5_fails 61 = some (.iload_n 3, 1, (0, 99999, 0), []) := rfl
theorem at_X5_fails_62 : ab_at mX5_fails 62 = some (.iconst (-1), 1, (0, 99999, 0), []) := rfl
theorem at_X5_fails_63 : ab_at mX5_fails 63 = some (.if_icmp .eq 13, 3, (0, 99999, 0), []) := rfl
theorem at_X5_fails_66 : ab_at mX5_fails 66 = some (.iload 4, 2, (0, 99999, 0), []) := rfl
theorem at_X5_fails_68 : ab_at mX5_fails 68 = some (.iconst (-1), 1, (0, 99999, 0), []) := rfl
theorem at_X5_fails_69 : ab_at mX5_fails 69 = some (.if_icmp .ne 7, 3, (0, 99999, 0), []) := rfl
theorem at_X5_fails_76 : ab_at mX5_fails 76 = some (.iconst 0, 1, (0, 99999, 0), []) := rfl
theorem at_X5_fails_77 : ab_at mX5_fails 77 = some (.istore 5, 2, (0, 99999, 0), []) := rfl
theorem at_X5_fails_79 : ab_at mX5_fails 79 = some (.iload 4, 2, (0, 99999, 0), []) := rfl
theorem at_X5_fails_81 : ab_at mX5_fails 81 = some (.iconst (-1), 1, (0, 99999, 0), []) := rfl
theorem at_X5_fails_82 : ab_at mX5_fails 82 = some (.if_icmp .eq 19, 3, (0, 99999, 0), []) := rfl
theorem at_X5_fails_85 : ab_at mX5_fails 85 = some (.iload 4, 2, (0, 99999, 0), []) := rfl
theorem at_X5_fails_87 : ab_at mX5_fails 87 = some (.invokestatic 240, 3, (4, 213, 1), [243]) := rfl
theorem at_X5_fails_90 : ab_at mX5_fails 90 = some (.iload_n 3, 1, (0, 99999, 0), []) := rfl
theorem at_X5_fails_91 : ab_at mX5_fails 91 = some (.invokestatic 240, 3, (4, 213, 1), [243]) := rfl
theorem at_X5_fails_94 : ab_at mX5_fails 94 = some (.if_icmp .le 7, 3, (0, 99999, 0), []) := rfl
theorem at_X5_harm_0 : ab_at mX5_harm 0 = some (.aload_n 0, 1, (0, 99999, 0), []) := rfl
theorem at_X5_harm_1 : ab_at mX5_harm 1 = some (.getfield 10, 3, (1, 5, 0), [197]) := rfl
theorem at_X5_harm_11 : ab_at mX5_harm 11 = some (.aload_n 0, 1, (0, 99999, 0), []) := rfl
theorem at_X5_harm_12 : ab_at mX5_harm 12 = some (.iconst 1, 1, (0, 99999, 0), []) := rfl
theorem at_X5_harm_13 : ab_at mX5_harm 13 = some (.invokevirtual 66, 3, (3, 118, 1), [186]) := rfl
theorem at_X5_harm_16 : ab_at mX5_harm 16 = some (.bipush 10, 2, (0, 99999, 0), []) := rfl
theorem at_X5_harm_18 : ab_at mX5_harm 18 = some (.isub, 1, (0, 99999, 0), []) := rfl
theorem at_X5_harm_19 : ab_at mX5_harm 19 = some (.ireturn, 1, (0, 99999, 0), []) := rfl
theorem at_X5_harm_20 : ab_at mX5_harm 20 = some (.iload_n 2, 1, (0, 99999, 0), []) := rfl
theorem at_X5_harm_21 : ab_at mX5_harm 21 = some (.invokestatic 210, 3, (4, 48, 1), [233]) := rfl
theorem at_X5_harm_24 : ab_at mX5_harm 24 = some (.ifCond .ne 13, 3, (0, 99999, 0), []) := rfl
theorem at_X5_harm_27 : ab_at mX5_harm 27 = some (.aload_n 0, 1, (0, 99999, 0), []) := rfl
theorem at_X5_harm_28 : ab_at mX5_harm 28 = some (.bipush 6, 2, (0, 99999, 0), []) := rfl
theorem at_X5_harm_30 : ab_at mX5_harm 30 = some (.invokevirtual 66, 3, (3, 118, 1), [186]) := rfl
theorem at_X5_harm_33 : ab_at mX5_harm 33 = some (.bipush 10, 2, (0, 99999, 0), []) := rfl
theorem at_X5_harm_35 : ab_at mX5_harm 35 = some (.isub, 1, (0, 99999, 0), []) := rfl
theorem at_X5_harm_36 : ab_at mX5_harm 36 = some (.ireturn, 1, (0, 99999, 0), []) := rfl
theorem at_X5_harm_37 : ab_at mX5_harm 37 = some (.aload_n 0, 1, (0, 99999, 0), []) := rfl
theorem at_X5_harm_38 : ab_at mX5_harm 38 = some (.aload_n 0, 1, (0, 99999, 0), []) := rfl
theorem at_X5_harm_39 : ab_at mX5_harm 39 = some (.getfield 10, 3, (1, 5, 0), [197]) := rfl
theorem at_X5_harm_4 : ab_at mX5_harm 4 = some (.iload_n 1, 1, (0, 99999, 0), []) := rfl
theorem at_X5_harm_42 : ab_at mX5_harm 42 = some (.iload_n 1, 1, (0, 99999, 0), []) := rfl
theorem at_X5_harm_43 : ab_at mX5_harm 43 = some (.iload_n 2, 1, (0, 99999, 0), []) := rfl
theorem at_X5_harm_44 : ab_at mX5_harm 44 = some (.invokevirtual 217, 3, (3, 122, 3), [236]) := rfl
theorem at_X5_harm_47 : ab_at mX5_harm 47 = some (.istore_n 3, 1, (0, 99999, 0), []) := rfl
theorem at_X5_harm_48 : ab_at mX5_harm 48 = some (.iload_n 3, 1, (0, 99999, 0), []) := rfl
theorem at_X5_harm_49 : ab_at mX5_harm 49 = some (.iconst (-1), 1, (0, 99999, 0), []) := rfl
theorem at_X5_harm_5 : ab_at mX5_harm 5 = some (.invokevirtual 161, 3, (3, 51, 1), [216]) := rfl
theorem at_X5_harm_50 : ab_at mX5_harm 50 = some (.if_icmp .ne 7, 3, (0, 99999, 0), []) := rfl
theorem at_X5_harm_53 : ab_at mX5_harm 53 = some (.iconst (-1), 1, (0, 99999, 0), []) := rfl
theorem at_X5_harm_54 : ab_at mX5_harm 54 = some (.goto 11, 3, (0, 99999, 0), []) := rfl
theorem at_X5_harm_65 : ab_at mX5_harm 65 = some (.ireturn, 1, (0, 99999, 0), []) := rfl
theorem at_X5_harm_8 : ab_at mX5_harm 8 = some (.ifCond .ne 12, 3, (0, 99999, 0), []) := rfl
theorem at_X5_holds_0 : ab_at mX5_holds 0 = some (.iload_n 1, 1, (0, 99999, 0), []) := rfl
theorem at_X5_holds_1 : ab_at mX5_holds 1 = some (.invokestatic 62, 3, (4, 117, 1), [185]) := rfl
theorem at_X5_holds_20 : ab_at mX5_holds 20 = some (.ireturn, 1, (0, 99999, 0), []) := rfl
theorem at_X5_holds_4 : ab_at mX5_holds 4 = some (.ifCond .eq 15, 3, (0, 99999, 0), []) := rfl
theorem at_X5_isFrom_0 : ab_at mX5_isFrom 0 = some (.iload_n 0, 1, (0, 99999, 0), []) := rfl
theorem at_X5_isFrom_1 : ab_at mX5_isFrom 1 = some (.iload_n 1, 1, (0, 99999, 0), []) := rfl
theorem at_X5_isFrom_10 : ab_at mX5_isFrom 10 = some (.iconst 1, 1, (0, 99999, 0), []) := rfl
theorem at_X5_isFrom_11 : ab_at mX5_isFrom 11 = some (.goto 4, 3, (0, 99999, 0), []) := rfl
theorem at_X5_isFrom_14 : ab_at mX5_isFrom 14 = some (.iconst 0, 1, (0, 99999, 0), []) := rfl
theorem at_X5_isFrom_15 : ab_at mX5_isFrom 15 = some (.ireturn, 1, (0, 99999, 0), []) := rfl
theorem at_X5_isFrom_2 : ab_at mX5_isFrom 2 = some (.if_icmp .lt 12, 3, (0, 99999, 0), []) := rfl
theorem at_X5_isFrom_5 : ab_at mX5_isFrom 5 = some (.iload_n 0, 1, (0, 99999, 0), []) := rfl
theorem at_X5_isFrom_6 : ab_at mX5_isFrom 6 = some (.iload_n 2, 1, (0, 99999, 0), []) := rfl
theorem at_X5_isFrom_7 : ab_at mX5_isFrom 7 = some (.if_icmp .gt 7, 3, (0, 99999, 0), []) := rfl
theorem at_X5_isOneOfTwo_0 : ab_at mX5_isOneOfTwo 0 = some (.iload_n 0, 1, (0, 99999, 0), []) := rfl
theorem at_X5_isOneOfTwo_1 : ab_at mX5_isOneOfTwo 1 = some (.ifCond .eq 8, 3, (0, 99999, 0), []) := rfl
theorem at_X5_isOneOfTwo_14 : ab_at mX5_isOneOfTwo 14 = some (.ireturn, 1, (0, 99999, 0), []) := rfl
theorem at_X5_judge_0 : ab_at mX5_judge 0 = some (.aload_n 0, 1, (0, 99999, 0), []) := rfl
theorem at_X5_judge_1 : ab_at mX5_judge 1 = some (.iload_n 1, 1, (0, 99999, 0), []) := rfl
theorem at_X5_judge_10 : ab_at mX5_judge 10 = some (.iload_n 3, 1, (0, 99999, 0), []) := rfl
theorem at_X5_judge_11 : ab_at mX5_judge 11 = some (.ifCond .eq 12, 3, (0, 99999, 0), []) := rfl
theorem at_X5_judge_14 : ab_at mX5_judge 14 = some (.aload_n 0, 1, (0, 99999, 0), []) := rfl
theorem at_X5_judge_15 : ab_at mX5_judge 15 = some (.iload_n 3, 1, (0, 99999, 0), []) := rfl
theorem at_X5_judge_16 : ab_at mX5_judge 16 = some (.invokevirtual 66, 3, (3, 118, 1), [186]) := rfl
theorem at_X5_judge_19 : ab_at mX5_judge 19 = some (.bipush 10, 2, (0, 99999, 0), []) := rfl
theorem at_X5_judge_2 : ab_at mX5_judge 2 = some (.iload_n 2, 1, (0, 99999, 0), []) := rfl
theorem at_X5_judge_21 : ab_at mX5_judge 21 = some (.isub, 1, (0, 99999, 0), []) := rfl
theorem at_X5_judge_22 : ab_at mX5_judge 22 = some (.ireturn, 1, (0, 99999, 0), []) := rfl
theorem at_X5_judge_3 : ab_at mX5_judge 3 = some (.bipush 20, 2, (0, 99999, 0), []) := rfl
theorem at_X5_judge_5 : ab_at mX5_judge 5 = some (.iconst 0, 1, (0, 99999, 0), []) := rfl
theorem at_X5_judge_6 : ab_at mX5_judge 6 = some (.invokevirtual 252, 3, (3, 120, 4), [246]) := rfl
theorem at_X5_judge_9 : ab_at mX5_judge 9 = some (.istore_n 3, 1, (0, 99999, 0), []) := rfl
theorem at_X5_personOf_0 : ab_at mX5_personOf 0 = some (.aload_n 0, 1, (0, 99999, 0), []) := rfl
theorem at_X5_personOf_1 : ab_at mX5_personOf 1 = some (.getfield 10, 3, (1, 5, 0), [197]) := rfl
theorem at_X5_personOf_17 : ab_at mX5_personOf 17 = some (.iload_n 2, 1, (0, 99999, 0), []) := rfl
theorem at_X5_personOf_18 : ab_at mX5_personOf 18 = some (.tableswitch 83 0 4 #[34, 44, 54, 64, 74], 34, (0, 99999, 0), []) := rfl
theorem at_X5_personOf_4 : ab_at mX5_personOf 4 = some (.iload_n 1, 1, (0, 99999, 0), []) := rfl
theorem at_X5_personOf_5 : ab_at mX5_personOf 5 = some (.invokevirtual 161, 3, (3, 51, 1), [216]) := rfl
theorem at_X5_personOf_8 : ab_at mX5_personOf 8 = some (.ifCond .ne 9, 3, (0, 99999, 0), []) := rfl
theorem at_X5_person_0 : ab_at mX5_person 0 = some (.iload_n 3, 1, (0, 99999, 0), []) := rfl
theorem at_X5_person_1 : ab_at mX5_person 1 = some (.invokestatic 146, 3, (4, 47, 1), [210]) := rfl
theorem at_X5_person_13 : ab_at mX5_person 13 = some (.iload_n 1, 1, (0, 99999, 0), []) := rfl
theorem at_X5_person_14 : ab_at mX5_person 14 = some (.iconst 0, 1, (0, 99999, 0), []) := rfl
theorem at_X5_person_15 : ab_at mX5_person 15 = some (.bipush 99, 2, (0, 99999, 0), []) := rfl
theorem at_X5_person_17 : ab_at mX5_person 17 = some (.invokestatic 135, 3, (4, 115, 3), [207]) := rfl
theorem at_X5_person_20 : ab_at mX5_person 20 = some (.ifCond .eq 13, 3, (0, 99999, 0), []) := rfl
theorem at_X5_person_23 : ab_at mX5_person 23 = some (.iload_n 2, 1, (0, 99999, 0), []) := rfl
theorem at_X5_person_24 : ab_at mX5_person 24 = some (.iconst 0, 1, (0, 99999, 0), []) := rfl
theorem at_X5_person_25 : ab_at mX5_person 25 = some (.bipush 9, 2, (0, 99999, 0), []) := rfl
theorem at_X5_person_27 : ab_at mX5_person 27 = some (.invokestatic 135, 3, (4, 115, 3), [207]) := rfl
theorem at_X5_person_30 : ab_at mX5_person 30 = some (.ifCond .ne 10, 3, (0, 99999, 0), []) := rfl
theorem at_X5_person_33 : ab_at mX5_person 33 = some (.aload_n 0, 1, (0, 99999, 0), []) := rfl
theorem at_X5_person_34 : ab_at mX5_person 34 = some (.bipush 6, 2, (0, 99999, 0), []) := rfl
theorem at_X5_person_36 : ab_at mX5_person 36 = some (.invokevirtual 66, 3, (3, 118, 1), [186]) := rfl
theorem at_X5_person_39 : ab_at mX5_person 39 = some (.ireturn, 1, (0, 99999, 0), []) := rfl
theorem at_X5_person_4 : ab_at mX5_person 4 = some (.ifCond .ne 9, 3, (0, 99999, 0), []) := rfl
theorem at_X5_pieceOf_0 : ab_at mX5_pieceOf 0 = some (.aload_n 0, 1, (0, 99999, 0), []) := rfl
theorem at_X5_pieceOf_1 : ab_at mX5_pieceOf 1 = some (.getfield 10, 3, (1, 5, 0), [197]) := rfl
theorem at_X5_pieceOf_17 : ab_at mX5_pieceOf 17 = some (.iload_n 2, 1, (0, 99999, 0), []) := rfl
theorem at_X5_pieceOf_18 : ab_at mX5_pieceOf 18 = some (.tableswitch 96 0 5 #[38, 48, 58, 68, 77, 86], 38, (0, 99999, 0), []) := rfl
theorem at_X5_pieceOf_4 : ab_at mX5_pieceOf 4 = some (.iload_n 1, 1, (0, 99999, 0), []) := rfl
theorem at_X5_pieceOf_5 : ab_at mX5_pieceOf 5 = some (.invokevirtual 107, 3, (3, 50, 1), [198]) := rfl
theorem at_X5_pieceOf_8 : ab_at mX5_pieceOf 8 = some (.ifCond .ne 9, 3, (0, 99999, 0), []) := rfl
theorem at_X5_piece_0 : ab_at mX5_piece 0 = some (.iload_n 1, 1, (0, 99999, 0), []) := rfl
theorem at_X5_piece_1 : ab_at mX5_piece 1 = some (.invokestatic 117, 3, (4, 46, 1), [201]) := rfl
theorem at_X5_piece_13 : ab_at mX5_piece 13 = some (.iload_n 2, 1, (0, 99999, 0), []) := rfl
theorem at_X5_piece_14 : ab_at mX5_piece 14 = some (.iconst 0, 1, (0, 99999, 0), []) := rfl
theorem at_X5_piece_15 : ab_at mX5_piece 15 = some (.bipush 9, 2, (0, 99999, 0), []) := rfl
theorem at_X5_piece_17 : ab_at mX5_piece 17 = some (.invokestatic 135, 3, (4, 115, 3), [207]) := rfl
theorem at_X5_piece_20 : ab_at mX5_piece 20 = some (.ifCond .eq 13, 3, (0, 99999, 0), []) := rfl
theorem at_X5_piece_23 : ab_at mX5_piece 23 = some (.iload_n 3, 1, (0, 99999, 0), []) := rfl
theorem at_X5_piece_24 : ab_at mX5_piece 24 = some (.iconst 1, 1, (0, 99999, 0), []) := rfl
theorem at_X5_piece_25 : ab_at mX5_piece 25 = some (.bipush 50, 2, (0, 99999, 0), []) := rfl
theorem at_X5_piece_27 : ab_at mX5_piece 27 = some (.invokestatic 135, 3, (4, 115, 3), [207]) := rfl
theorem at_X5_piece_30 : ab_at mX5_piece 30 = some (.ifCond .ne 10, 3, (0, 99999, 0), []) := rfl
theorem at_X5_piece_33 : ab_at mX5_piece 33 = some (.aload_n 0, 1, (0, 99999, 0), []) := rfl
theorem at_X5_piece_34 : ab_at mX5_piece 34 = some (.bipush 6, 2, (0, 99999, 0), []) := rfl
theorem at_X5_piece_36 : ab_at mX5_piece 36 = some (.invokevirtual 66, 3, (3, 118, 1), [186]) := rfl
theorem at_X5_piece_39 : ab_at mX5_piece 39 = some (.ireturn, 1, (0, 99999, 0), []) := rfl
theorem at_X5_piece_4 : ab_at mX5_piece 4 = some (.ifCond .ne 9, 3, (0, 99999, 0), []) := rfl
theorem at_X5_price_0 : ab_at mX5_price 0 = some (.aload_n 0, 1, (0, 99999, 0), []) := rfl
theorem at_X5_price_1 : ab_at mX5_price 1 = some (.getfield 10, 3, (1, 5, 0), [197]) := rfl
theorem at_X5_price_18 : ab_at mX5_price 18 = some (.aload_n 0, 1, (0, 99999, 0), []) := rfl
theorem at_X5_price_19 : ab_at mX5_price 19 = some (.iconst 1, 1, (0, 99999, 0), []) := rfl
theorem at_X5_price_20 : ab_at mX5_price 20 = some (.invokevirtual 66, 3, (3, 118, 1), [186]) := rfl
theorem at_X5_price_23 : ab_at mX5_price 23 = some (.ireturn, 1, (0, 99999, 0), []) := rfl
theorem at_X5_price_4 : ab_at mX5_price 4 = some (.iload_n 1, 1, (0, 99999, 0), []) := rfl
theorem at_X5_price_5 : ab_at mX5_price 5 = some (.invokevirtual 161, 3, (3, 51, 1), [216]) := rfl
theorem at_X5_price_8 : ab_at mX5_price 8 = some (.ifCond .eq 10, 3, (0, 99999, 0), []) := rfl
theorem at_X5_refuse_0 : ab_at mX5_refuse 0 = some (.iload_n 1, 1, (0, 99999, 0), []) := rfl
theorem at_X5_refuse_1 : ab_at mX5_refuse 1 = some (.iconst 1, 1, (0, 99999, 0), []) := rfl
theorem at_X5_refuse_10 : ab_at mX5_refuse 10 = some (.aload_n 0, 1, (0, 99999, 0), []) := rfl
theorem at_X5_refuse_11 : ab_at mX5_refuse 11 = some (.getfield 49, 3, (1, 5, 7), [270]) := rfl
theorem at_X5_refuse_14 : ab_at mX5_refuse 14 = some (.iload_n 1, 1, (0, 99999, 0), []) := rfl
theorem at_X5_refuse_15 : ab_at mX5_refuse 15 = some (.dup2, 1, (0, 99999, 0), []) := rfl
theorem at_X5_refuse_16 : ab_at mX5_refuse 16 = some (.iaload, 1, (0, 99999, 0), []) := rfl
theorem at_X5_refuse_17 : ab_at mX5_refuse 17 = some (.iconst 1, 1, (0, 99999, 0), []) := rfl
theorem at_X5_refuse_18 : ab_at mX5_refuse 18 = some (.iadd, 1, (0, 99999, 0), []) := rfl
theorem at_X5_refuse_19 : ab_at mX5_refuse 19 = some (.iastore, 1, (0, 99999, 0), []) := rfl
theorem at_X5_refuse_2 : ab_at mX5_refuse 2 = some (.bipush 7, 2, (0, 99999, 0), []) := rfl
theorem at_X5_refuse_20 : ab_at mX5_refuse 20 = some (.iload_n 1, 1, (0, 99999, 0), []) := rfl
theorem at_X5_refuse_21 : ab_at mX5_refuse 21 = some (.ineg, 1, (0, 99999, 0), []) := rfl
theorem at_X5_refuse_22 : ab_at mX5_refuse 22 = some (.ireturn, 1, (0, 99999, 0), []) := rfl
theorem at_X5_refuse_4 : ab_at mX5_refuse 4 = some (.invokestatic 135, 3, (4, 115, 3), [207]) := rfl
theorem at_X5_refuse_7 : ab_at mX5_refuse 7 = some (.ifCond .eq 13, 3, (0, 99999, 0), []) := rfl
theorem at_X5_row_0 : ab_at mX5_row 0 = some (.iload_n 1, 1, (0, 99999, 0), []) := rfl
theorem at_X5_row_1 : ab_at mX5_row 1 = some (.invokestatic 62, 3, (4, 117, 1), [185]) := rfl
theorem at_X5_row_13 : ab_at mX5_row 13 = some (.iload_n 3, 1, (0, 99999, 0), []) := rfl
theorem at_X5_row_14 : ab_at mX5_row 14 = some (.ifCond .ge 9, 3, (0, 99999, 0), []) := rfl
theorem at_X5_row_23 : ab_at mX5_row 23 = some (.iload_n 2, 1, (0, 99999, 0), []) := rfl
theorem at_X5_row_24 : ab_at mX5_row 24 = some (.ifCond .lt 8, 3, (0, 99999, 0), []) := rfl
theorem at_X5_row_27 : ab_at mX5_row 27 = some (.iload_n 2, 1, (0, 99999, 0), []) := rfl
theorem at_X5_row_28 : ab_at mX5_row 28 = some (.iconst 3, 1, (0, 99999, 0), []) := rfl
theorem at_X5_row_29 : ab_at mX5_row 29 = some (.if_icmp .le 10, 3, (0, 99999, 0), []) := rfl
theorem at_X5_row_39 : ab_at mX5_row 39 = some (.iload_n 3, 1, (0, 99999, 0), []) := rfl
theorem at_X5_row_4 : ab_at mX5_row 4 = some (.ifCond .ne 9, 3, (0, 99999, 0), []) := rfl
theorem at_X5_row_40 : ab_at mX5_row 40 = some (.sipush 160, 3, (0, 99999, 0), []) := rfl
theorem at_X5_row_43 : ab_at mX5_row 43 = some (.if_icmp .le 10, 3, (0, 99999, 0), []) := rfl
theorem at_X5_rule_0 : ab_at mX5_rule 0 = some (.iload_n 1, 1, (0, 99999, 0), []) := rfl
theorem at_X5_rule_1 : ab_at mX5_rule 1 = some (.ifCond .eq 15, 3, (0, 99999, 0), []) := rfl
theorem at_X5_rules_0 : ab_at mX5_rules 0 = some (.aload_n 0, 1, (0, 99999, 0), []) := rfl
theorem at_X5_rules_1 : ab_at mX5_rules 1 = some (.iload_n 1, 1, (0, 99999, 0), []) := rfl
theorem at_X5_rules_10 : ab_at mX5_rules 10 = some (.iload_n 3, 1, (0, 99999, 0), []) := rfl
theorem at_X5_rules_101 : ab_at mX5_rules 101 = some (.aload_n 0, 1, (0, 99999, 0), []) := rfl
theorem at_X5_rules_102 : ab_at mX5_rules 102 = some (.getfield 31, 3, (1, 5, 4), [234]) := rfl
theorem at_X5_rules_105 : ab_at mX5_rules 105 = some (.aload 4, 2, (0, 99999, 0), []) := rfl
theorem at_X5_rules_107 : ab_at mX5_rules 107 = some (.iload 7, 2, (0, 99999, 0), []) := rfl
theorem at_X5_rules_109 : ab_at mX5_rules 109 = some (.invokevirtual 256, 3, (3, 43, 1), [247]) := rfl
theorem at_X5_rules_11 : ab_at mX5_rules 11 = some (.ifCond .eq 9, 3, (0, 99999, 0), []) := rfl
theorem at_X5_rules_112 : ab_at mX5_rules 112 = some (.invokevirtual 234, 3, (3, 4, 1), [241]) := rfl
theorem at_X5_rules_115 : ab_at mX5_rules 115 = some (.aload 4, 2, (0, 99999, 0), []) := rfl
theorem at_X5_rules_117 : ab_at mX5_rules 117 = some (.iload 7, 2, (0, 99999, 0), []) := rfl
theorem at_X5_rules_119 : ab_at mX5_rules 119 = some (.invokevirtual 259, 3, (3, 44, 1), [248]) := rfl
theorem at_X5_rules_122 : ab_at mX5_rules 122 = some (.if_icmp .ne 7, 3, (0, 99999, 0), []) := rfl
theorem at_X5_rules_129 : ab_at mX5_rules 129 = some (.iconst 0, 1, (0, 99999, 0), []) := rfl
theorem at_X5_rules_130 : ab_at mX5_rules 130 = some (.istore 5, 2, (0, 99999, 0), []) := rfl
theorem at_X5_rules_132 : ab_at mX5_rules 132 = some (.iload 6, 2, (0, 99999, 0), []) := rfl
theorem at_X5_rules_134 : ab_at mX5_rules 134 = some (.ifCond .eq 31, 3, (0, 99999, 0), []) := rfl
theorem at_X5_rules_137 : ab_at mX5_rules 137 = some (.aload_n 0, 1, (0, 99999, 0), []) := rfl
theorem at_X5_rules_138 : ab_at mX5_rules 138 = some (.getfield 10, 3, (1, 5, 0), [197]) := rfl
theorem at_X5_rules_14 : ab_at mX5_rules 14 = some (.aload_n 0, 1, (0, 99999, 0), []) := rfl
theorem at_X5_rules_141 : ab_at mX5_rules 141 = some (.aload 4, 2, (0, 99999, 0), []) := rfl
theorem at_X5_rules_143 : ab_at mX5_rules 143 = some (.iload 7, 2, (0, 99999, 0), []) := rfl
theorem at_X5_rules_145 : ab_at mX5_rules 145 = some (.invokevirtual 256, 3, (3, 43, 1), [247]) := rfl
theorem at_X5_rules_148 : ab_at mX5_rules 148 = some (.invokevirtual 237, 3, (3, 69, 1), [242]) := rfl
theorem at_X5_rules_15 : ab_at mX5_rules 15 = some (.iload_n 3, 1, (0, 99999, 0), []) := rfl
theorem at_X5_rules_151 : ab_at mX5_rules 151 = some (.aload 4, 2, (0, 99999, 0), []) := rfl
theorem at_X5_rules_153 : ab_at mX5_rules 153 = some (.iload 7, 2, (0, 99999, 0), []) := rfl
theorem at_X5_rules_155 : ab_at mX5_rules 155 = some (.invokevirtual 259, 3, (3, 44, 1), [248]) := rfl
theorem at_X5_rules_158 : ab_at mX5_rules 158 = some (.if_icmp .ne 7, 3, (0, 99999, 0), []) := rfl
theorem at_X5_rules_16 : ab_at mX5_rules 16 = some (.invokevirtual 66, 3, (3, 118, 1), [186]) := rfl
theorem at_X5_rules_165 : ab_at mX5_rules 165 = some (.iconst 0, 1, (0, 99999, 0), []) := rfl
theorem at_X5_rules_166 : ab_at mX5_rules 166 = some (.istore 6, 2, (0, 99999, 0), []) := rfl
theorem at_X5_rules_168 : ab_at mX5_rules 168 = some (.iinc 7 1, 3, (0, 99999, 0), []) := rfl
theorem at_X5_rules_171 : ab_at mX5_rules 171 = some (.goto (-81), 3, (0, 99999, 0), []) := rfl
theorem at_X5_rules_19 : ab_at mX5_rules 19 = some (.ireturn, 1, (0, 99999, 0), []) := rfl
theorem at_X5_rules_2 : ab_at mX5_rules 2 = some (.iload_n 2, 1, (0, 99999, 0), []) := rfl
theorem at_X5_rules_20 : ab_at mX5_rules 20 = some (.aload_n 0, 1, (0, 99999, 0), []) := rfl
theorem at_X5_rules_21 : ab_at mX5_rules 21 = some (.getfield 24, 3, (1, 5, 3), [182]) := rfl
theorem at_X5_rules_24 : ab_at mX5_rules 24 = some (.iload_n 1, 1, (0, 99999, 0), []) := rfl
theorem at_X5_rules_25 : ab_at mX5_rules 25 = some (.aaload, 1, (0, 99999, 0), []) := rfl
theorem at_X5_rules_26 : ab_at mX5_rules 26 = some (.astore 4, 2, (0, 99999, 0), []) := rfl
theorem at_X5_rules_28 : ab_at mX5_rules 28 = some (.iconst 0, 1, (0, 99999, 0), []) := rfl
theorem at_X5_rules_29 : ab_at mX5_rules 29 = some (.istore 5, 2, (0, 99999, 0), []) := rfl
theorem at_X5_rules_3 : ab_at mX5_rules 3 = some (.bipush 40, 2, (0, 99999, 0), []) := rfl
theorem at_X5_rules_31 : ab_at mX5_rules 31 = some (.iload 5, 2, (0, 99999, 0), []) := rfl
theorem at_X5_rules_33 : ab_at mX5_rules 33 = some (.iload_n 2, 1, (0, 99999, 0), []) := rfl
theorem at_X5_rules_34 : ab_at mX5_rules 34 = some (.if_icmp .ge 29, 3, (0, 99999, 0), []) := rfl
theorem at_X5_rules_37 : ab_at mX5_rules 37 = some (.aload 4, 2, (0, 99999, 0), []) := rfl
theorem at_X5_rules_39 : ab_at mX5_rules 39 = some (.iload 5, 2, (0, 99999, 0), []) := rfl
theorem at_X5_rules_41 : ab_at mX5_rules 41 = some (.invokevirtual 256, 3, (3, 43, 1), [247]) := rfl
theorem at_X5_rules_44 : ab_at mX5_rules 44 = some (.invokestatic 210, 3, (4, 48, 1), [233]) := rfl
theorem at_X5_rules_47 : ab_at mX5_rules 47 = some (.ifCond .ne 10, 3, (0, 99999, 0), []) := rfl
theorem at_X5_rules_5 : ab_at mX5_rules 5 = some (.iconst 0, 1, (0, 99999, 0), []) := rfl
theorem at_X5_rules_6 : ab_at mX5_rules 6 = some (.invokevirtual 252, 3, (3, 120, 4), [246]) := rfl
theorem at_X5_rules_9 : ab_at mX5_rules 9 = some (.istore_n 3, 1, (0, 99999, 0), []) := rfl
theorem at_X5_rules_90 : ab_at mX5_rules 90 = some (.iload 7, 2, (0, 99999, 0), []) := rfl
theorem at_X5_rules_92 : ab_at mX5_rules 92 = some (.iload_n 2, 1, (0, 99999, 0), []) := rfl
theorem at_X5_rules_93 : ab_at mX5_rules 93 = some (.if_icmp .ge 81, 3, (0, 99999, 0), []) := rfl
theorem at_X5_rules_96 : ab_at mX5_rules 96 = some (.iload 5, 2, (0, 99999, 0), []) := rfl
theorem at_X5_rules_98 : ab_at mX5_rules 98 = some (.ifCond .eq 31, 3, (0, 99999, 0), []) := rfl
theorem at_X5_run_0 : ab_at mX5_run 0 = some (.iload_n 1, 1, (0, 99999, 0), []) := rfl
theorem at_X5_run_1 : ab_at mX5_run 1 = some (.iconst (-1), 1, (0, 99999, 0), []) := rfl
theorem at_X5_run_2 : ab_at mX5_run 2 = some (.if_icmp .lt 14, 3, (0, 99999, 0), []) := rfl
theorem at_X5_says_0 : ab_at mX5_says 0 = some (.iload_n 1, 1, (0, 99999, 0), []) := rfl
theorem at_X5_says_1 : ab_at mX5_says 1 = some (.invokestatic 62, 3, (4, 117, 1), [185]) := rfl
theorem at_X5_says_11 : ab_at mX5_says 11 = some (.ifCond .ne 9, 3, (0, 99999, 0), []) := rfl
theorem at_X5_says_127 : ab_at mX5_says 127 = some (.aload_n 0, 1, (0, 99999, 0), []) := rfl
theorem at_X5_says_128 : ab_at mX5_says 128 = some (.getfield 10, 3, (1, 5, 0), [197]) := rfl
theorem at_X5_says_131 : ab_at mX5_says 131 = some (.iload 4, 2, (0, 99999, 0), []) := rfl
theorem at_X5_says_133 : ab_at mX5_says 133 = some (.invokevirtual 126, 3, (3, 59, 1), [204]) := rfl
theorem at_X5_says_136 : ab_at mX5_says 136 = some (.ireturn, 1, (0, 99999, 0), []) := rfl
theorem at_X5_says_137 : ab_at mX5_says 137 = some (.aload_n 0, 1, (0, 99999, 0), []) := rfl
theorem at_X5_says_138 : ab_at mX5_says 138 = some (.getfield 10, 3, (1, 5, 0), [197]) := rfl
theorem at_X5_says_14 : ab_at mX5_says 14 = some (.aload_n 0, 1, (0, 99999, 0), []) := rfl
theorem at_X5_says_141 : ab_at mX5_says 141 = some (.iload 4, 2, (0, 99999, 0), []) := rfl
theorem at_X5_says_143 : ab_at mX5_says 143 = some (.invokevirtual 129, 3, (3, 58, 1), [205]) := rfl
theorem at_X5_says_146 : ab_at mX5_says 146 = some (.ireturn, 1, (0, 99999, 0), []) := rfl
theorem at_X5_says_147 : ab_at mX5_says 147 = some (.aload_n 0, 1, (0, 99999, 0), []) := rfl
theorem at_X5_says_148 : ab_at mX5_says 148 = some (.getfield 10, 3, (1, 5, 0), [197]) := rfl
theorem at_X5_says_15 : ab_at mX5_says 15 = some (.iconst 1, 1, (0, 99999, 0), []) := rfl
theorem at_X5_says_151 : ab_at mX5_says 151 = some (.getfield 132, 3, (1, 4, 1), [206]) := rfl
theorem at_X5_says_154 : ab_at mX5_says 154 = some (.iload 4, 2, (0, 99999, 0), []) := rfl
theorem at_X5_says_156 : ab_at mX5_says 156 = some (.iaload, 1, (0, 99999, 0), []) := rfl
theorem at_X5_says_157 : ab_at mX5_says 157 = some (.ireturn, 1, (0, 99999, 0), []) := rfl
theorem at_X5_says_16 : ab_at mX5_says 16 = some (.invokevirtual 66, 3, (3, 118, 1), [186]) := rfl
theorem at_X5_says_19 : ab_at mX5_says 19 = some (.ireturn, 1, (0, 99999, 0), []) := rfl
theorem at_X5_says_20 : ab_at mX5_says 20 = some (.aload_n 0, 1, (0, 99999, 0), []) := rfl
theorem at_X5_says_21 : ab_at mX5_says 21 = some (.getfield 24, 3, (1, 5, 3), [182]) := rfl
theorem at_X5_says_24 : ab_at mX5_says 24 = some (.iload_n 1, 1, (0, 99999, 0), []) := rfl
theorem at_X5_says_25 : ab_at mX5_says 25 = some (.aaload, 1, (0, 99999, 0), []) := rfl
theorem at_X5_says_26 : ab_at mX5_says 26 = some (.astore_n 3, 1, (0, 99999, 0), []) := rfl
theorem at_X5_says_27 : ab_at mX5_says 27 = some (.aload_n 3, 1, (0, 99999, 0), []) := rfl
theorem at_X5_says_28 : ab_at mX5_says 28 = some (.invokevirtual 92, 3, (3, 32, 0), [193]) := rfl
theorem at_X5_says_31 : ab_at mX5_says 31 = some (.ifCond .eq 9, 3, (0, 99999, 0), []) := rfl
theorem at_X5_says_4 : ab_at mX5_says 4 = some (.ifCond .eq 10, 3, (0, 99999, 0), []) := rfl
theorem at_X5_says_40 : ab_at mX5_says 40 = some (.aload_n 3, 1, (0, 99999, 0), []) := rfl
theorem at_X5_says_41 : ab_at mX5_says 41 = some (.getfield 114, 3, (1, 3, 1), [200]) := rfl
theorem at_X5_says_44 : ab_at mX5_says 44 = some (.istore 4, 2, (0, 99999, 0), []) := rfl
theorem at_X5_says_46 : ab_at mX5_says 46 = some (.aload_n 0, 1, (0, 99999, 0), []) := rfl
theorem at_X5_says_47 : ab_at mX5_says 47 = some (.getfield 10, 3, (1, 5, 0), [197]) := rfl
theorem at_X5_says_50 : ab_at mX5_says 50 = some (.iload 4, 2, (0, 99999, 0), []) := rfl
theorem at_X5_says_52 : ab_at mX5_says 52 = some (.invokevirtual 107, 3, (3, 50, 1), [198]) := rfl
theorem at_X5_says_55 : ab_at mX5_says 55 = some (.ifCond .eq 16, 3, (0, 99999, 0), []) := rfl
theorem at_X5_says_58 : ab_at mX5_says 58 = some (.aload_n 0, 1, (0, 99999, 0), []) := rfl
theorem at_X5_says_59 : ab_at mX5_says 59 = some (.getfield 10, 3, (1, 5, 0), [197]) := rfl
theorem at_X5_says_62 : ab_at mX5_says 62 = some (.iload 4, 2, (0, 99999, 0), []) := rfl
theorem at_X5_says_64 : ab_at mX5_says 64 = some (.iload_n 2, 1, (0, 99999, 0), []) := rfl
theorem at_X5_says_65 : ab_at mX5_says 65 = some (.invokevirtual 120, 3, (3, 54, 2), [202]) := rfl
theorem at_X5_says_68 : ab_at mX5_says 68 = some (.ifCond .ne 9, 3, (0, 99999, 0), []) := rfl
theorem at_X5_says_7 : ab_at mX5_says 7 = some (.iload_n 2, 1, (0, 99999, 0), []) := rfl
theorem at_X5_says_71 : ab_at mX5_says 71 = some (.aload_n 0, 1, (0, 99999, 0), []) := rfl
theorem at_X5_says_72 : ab_at mX5_says 72 = some (.iconst 2, 1, (0, 99999, 0), []) := rfl
theorem at_X5_says_73 : ab_at mX5_says 73 = some (.invokevirtual 66, 3, (3, 118, 1), [186]) := rfl
theorem at_X5_says_76 : ab_at mX5_says 76 = some (.ireturn, 1, (0, 99999, 0), []) := rfl
theorem at_X5_says_77 : ab_at mX5_says 77 = some (.iload_n 2, 1, (0, 99999, 0), []) := rfl
theorem at_X5_says_78 : ab_at mX5_says 78 = some (.tableswitch 69 0 5 #[38, 49, 59, 49, 69, 59], 38, (0, 99999, 0), []) := rfl
theorem at_X5_says_8 : ab_at mX5_says 8 = some (.invokestatic 117, 3, (4, 46, 1), [201]) := rfl
theorem at_X5_set_0 : ab_at mX5_set 0 = some (.aload_n 0, 1, (0, 99999, 0), []) := rfl
theorem at_X5_set_1 : ab_at mX5_set 1 = some (.iload_n 1, 1, (0, 99999, 0), []) := rfl
theorem at_X5_set_12 : ab_at mX5_set 12 = some (.aload_n 0, 1, (0, 99999, 0), []) := rfl
theorem at_X5_set_13 : ab_at mX5_set 13 = some (.iload 5, 2, (0, 99999, 0), []) := rfl
theorem at_X5_set_15 : ab_at mX5_set 15 = some (.invokevirtual 66, 3, (3, 118, 1), [186]) := rfl
theorem at_X5_set_18 : ab_at mX5_set 18 = some (.ireturn, 1, (0, 99999, 0), []) := rfl
theorem at_X5_set_19 : ab_at mX5_set 19 = some (.aload_n 0, 1, (0, 99999, 0), []) := rfl
theorem at_X5_set_2 : ab_at mX5_set 2 = some (.invokevirtual 74, 3, (3, 119, 1), [188]) := rfl
theorem at_X5_set_20 : ab_at mX5_set 20 = some (.getfield 24, 3, (1, 5, 3), [182]) := rfl
theorem at_X5_set_23 : ab_at mX5_set 23 = some (.iload_n 1, 1, (0, 99999, 0), []) := rfl
theorem at_X5_set_24 : ab_at mX5_set 24 = some (.aaload, 1, (0, 99999, 0), []) := rfl
theorem at_X5_set_25 : ab_at mX5_set 25 = some (.iload_n 2, 1, (0, 99999, 0), []) := rfl
theorem at_X5_set_26 : ab_at mX5_set 26 = some (.invokevirtual 77, 3, (3, 35, 1), [189]) := rfl
theorem at_X5_set_29 : ab_at mX5_set 29 = some (.ifCond .ne 9, 3, (0, 99999, 0), []) := rfl
theorem at_X5_set_38 : ab_at mX5_set 38 = some (.aload_n 0, 1, (0, 99999, 0), []) := rfl
theorem at_X5_set_39 : ab_at mX5_set 39 = some (.getfield 24, 3, (1, 5, 3), [182]) := rfl
theorem at_X5_set_42 : ab_at mX5_set 42 = some (.iload_n 1, 1, (0, 99999, 0), []) := rfl
theorem at_X5_set_43 : ab_at mX5_set 43 = some (.aaload, 1, (0, 99999, 0), []) := rfl
theorem at_X5_set_44 : ab_at mX5_set 44 = some (.iload_n 2, 1, (0, 99999, 0), []) := rfl
theorem at_X5_set_45 : ab_at mX5_set 45 = some (.lload_n 3, 1, (0, 99999, 0), []) := rfl
theorem at_X5_set_46 : ab_at mX5_set 46 = some (.invokevirtual 80, 3, (3, 37, 2), [190]) := rfl
theorem at_X5_set_49 : ab_at mX5_set 49 = some (.iconst 1, 1, (0, 99999, 0), []) := rfl
theorem at_X5_set_5 : ab_at mX5_set 5 = some (.istore 5, 2, (0, 99999, 0), []) := rfl
theorem at_X5_set_50 : ab_at mX5_set 50 = some (.ireturn, 1, (0, 99999, 0), []) := rfl
theorem at_X5_set_7 : ab_at mX5_set 7 = some (.iload 5, 2, (0, 99999, 0), []) := rfl
theorem at_X5_set_9 : ab_at mX5_set 9 = some (.ifCond .eq 10, 3, (0, 99999, 0), []) := rfl
theorem at_X5_show_0 : ab_at mX5_show 0 = some (.iload_n 1, 1, (0, 99999, 0), []) := rfl
theorem at_X5_show_1 : ab_at mX5_show 1 = some (.invokestatic 62, 3, (4, 117, 1), [185]) := rfl
theorem at_X5_show_12 : ab_at mX5_show 12 = some (.aload_n 0, 1, (0, 99999, 0), []) := rfl
theorem at_X5_show_13 : ab_at mX5_show 13 = some (.getfield 10, 3, (1, 5, 0), [197]) := rfl
theorem at_X5_show_16 : ab_at mX5_show 16 = some (.iload_n 2, 1, (0, 99999, 0), []) := rfl
theorem at_X5_show_17 : ab_at mX5_show 17 = some (.invokevirtual 107, 3, (3, 50, 1), [198]) := rfl
theorem at_X5_show_20 : ab_at mX5_show 20 = some (.ifCond .ne 9, 3, (0, 99999, 0), []) := rfl
theorem at_X5_show_23 : ab_at mX5_show 23 = some (.aload_n 0, 1, (0, 99999, 0), []) := rfl
theorem at_X5_show_24 : ab_at mX5_show 24 = some (.iconst 1, 1, (0, 99999, 0), []) := rfl
theorem at_X5_show_25 : ab_at mX5_show 25 = some (.invokevirtual 66, 3, (3, 118, 1), [186]) := rfl
theorem at_X5_show_28 : ab_at mX5_show 28 = some (.ireturn, 1, (0, 99999, 0), []) := rfl
theorem at_X5_show_29 : ab_at mX5_show 29 = some (.aload_n 0, 1, (0, 99999, 0), []) := rfl
theorem at_X5_show_30 : ab_at mX5_show 30 = some (.getfield 24, 3, (1, 5, 3), [182]) := rfl
theorem at_X5_show_33 : ab_at mX5_show 33 = some (.iload_n 1, 1, (0, 99999, 0), []) := rfl
theorem at_X5_show_34 : ab_at mX5_show 34 = some (.aaload, 1, (0, 99999, 0), []) := rfl
theorem at_X5_show_35 : ab_at mX5_show 35 = some (.iload_n 2, 1, (0, 99999, 0), []) := rfl
theorem at_X5_show_36 : ab_at mX5_show 36 = some (.invokevirtual 110, 3, (3, 31, 1), [199]) := rfl
theorem at_X5_show_39 : ab_at mX5_show 39 = some (.iload_n 2, 1, (0, 99999, 0), []) := rfl
theorem at_X5_show_4 : ab_at mX5_show 4 = some (.ifCond .eq 19, 3, (0, 99999, 0), []) := rfl
theorem at_X5_show_40 : ab_at mX5_show 40 = some (.iconst (-1), 1, (0, 99999, 0), []) := rfl
theorem at_X5_show_41 : ab_at mX5_show 41 = some (.if_icmp .ne 7, 3, (0, 99999, 0), []) := rfl
theorem at_X5_show_49 : ab_at mX5_show 49 = some (.ireturn, 1, (0, 99999, 0), []) := rfl
theorem at_X5_show_7 : ab_at mX5_show 7 = some (.iload_n 2, 1, (0, 99999, 0), []) := rfl
theorem at_X5_show_8 : ab_at mX5_show 8 = some (.iconst (-1), 1, (0, 99999, 0), []) := rfl
theorem at_X5_show_9 : ab_at mX5_show 9 = some (.if_icmp .eq 20, 3, (0, 99999, 0), []) := rfl
theorem at_X5_square_0 : ab_at mX5_square 0 = some (.aload_n 0, 1, (0, 99999, 0), []) := rfl
theorem at_X5_square_1 : ab_at mX5_square 1 = some (.iload_n 1, 1, (0, 99999, 0), []) := rfl
theorem at_X5_square_10 : ab_at mX5_square 10 = some (.aload_n 0, 1, (0, 99999, 0), []) := rfl
theorem at_X5_square_11 : ab_at mX5_square 11 = some (.iload_n 2, 1, (0, 99999, 0), []) := rfl
theorem at_X5_square_12 : ab_at mX5_square 12 = some (.invokevirtual 66, 3, (3, 118, 1), [186]) := rfl
theorem at_X5_square_15 : ab_at mX5_square 15 = some (.ireturn, 1, (0, 99999, 0), []) := rfl
theorem at_X5_square_2 : ab_at mX5_square 2 = some (.invokevirtual 74, 3, (3, 119, 1), [188]) := rfl
theorem at_X5_square_5 : ab_at mX5_square 5 = some (.istore_n 2, 1, (0, 99999, 0), []) := rfl
theorem at_X5_square_6 : ab_at mX5_square 6 = some (.iload_n 2, 1, (0, 99999, 0), []) := rfl
theorem at_X5_square_7 : ab_at mX5_square 7 = some (.ifCond .eq 9, 3, (0, 99999, 0), []) := rfl
theorem at_X5_status_0 : ab_at mX5_status 0 = some (.iload_n 1, 1, (0, 99999, 0), []) := rfl
theorem at_X5_status_1 : ab_at mX5_status 1 = some (.tableswitch 145 0 9 #[55, 63, 71, 82, 97, 105, 113, 121, 129, 137], 55, (0, 99999, 0), []) := rfl
theorem at_X5_status_146 : ab_at mX5_status 146 = some (.iload_n 1, 1, (0, 99999, 0), []) := rfl
theorem at_X5_status_147 : ab_at mX5_status 147 = some (.bipush 11, 2, (0, 99999, 0), []) := rfl
theorem at_X5_status_149 : ab_at mX5_status 149 = some (.bipush 17, 2, (0, 99999, 0), []) := rfl
theorem at_X5_status_151 : ab_at mX5_status 151 = some (.invokestatic 135, 3, (4, 115, 3), [207]) := rfl
theorem at_X5_status_154 : ab_at mX5_status 154 = some (.ifCond .eq 15, 3, (0, 99999, 0), []) := rfl
theorem at_X5_status_170 : ab_at mX5_status 170 = some (.ireturn, 1, (0, 99999, 0), []) := rfl
theorem at_X5_tellOne_0 : ab_at mX5_tellOne 0 = some (.iload_n 3, 1, (0, 99999, 0), []) := rfl
theorem at_X5_tellOne_1 : ab_at mX5_tellOne 1 = some (.iconst 0, 1, (0, 99999, 0), []) := rfl
theorem at_X5_tellOne_10 : ab_at mX5_tellOne 10 = some (.aload_n 0, 1, (0, 99999, 0), []) := rfl
theorem at_X5_tellOne_11 : ab_at mX5_tellOne 11 = some (.bipush 6, 2, (0, 99999, 0), []) := rfl
theorem at_X5_tellOne_13 : ab_at mX5_tellOne 13 = some (.invokevirtual 66, 3, (3, 118, 1), [186]) := rfl
theorem at_X5_tellOne_16 : ab_at mX5_tellOne 16 = some (.ireturn, 1, (0, 99999, 0), []) := rfl
theorem at_X5_tellOne_2 : ab_at mX5_tellOne 2 = some (.iload 4, 2, (0, 99999, 0), []) := rfl
theorem at_X5_tellOne_4 : ab_at mX5_tellOne 4 = some (.invokestatic 135, 3, (4, 115, 3), [207]) := rfl
theorem at_X5_tellOne_7 : ab_at mX5_tellOne 7 = some (.ifCond .ne 10, 3, (0, 99999, 0), []) := rfl
theorem at_X5_tell_0 : ab_at mX5_tell 0 = some (.aload_n 0, 1, (0, 99999, 0), []) := rfl
theorem at_X5_tell_1 : ab_at mX5_tell 1 = some (.getfield 10, 3, (1, 5, 0), [197]) := rfl
theorem at_X5_tell_11 : ab_at mX5_tell 11 = some (.iload_n 2, 1, (0, 99999, 0), []) := rfl
theorem at_X5_tell_12 : ab_at mX5_tell 12 = some (.iconst 2, 1, (0, 99999, 0), []) := rfl
theorem at_X5_tell_13 : ab_at mX5_tell 13 = some (.if_icmp .ne 16, 3, (0, 99999, 0), []) := rfl
theorem at_X5_tell_23 : ab_at mX5_tell 23 = some (.aload_n 0, 1, (0, 99999, 0), []) := rfl
theorem at_X5_tell_24 : ab_at mX5_tell 24 = some (.iconst 1, 1, (0, 99999, 0), []) := rfl
theorem at_X5_tell_25 : ab_at mX5_tell 25 = some (.invokevirtual 66, 3, (3, 118, 1), [186]) := rfl
theorem at_X5_tell_28 : ab_at mX5_tell 28 = some (.ireturn, 1, (0, 99999, 0), []) := rfl
theorem at_X5_tell_29 : ab_at mX5_tell 29 = some (.iload_n 2, 1, (0, 99999, 0), []) := rfl
theorem at_X5_tell_30 : ab_at mX5_tell 30 = some (.tableswitch 74 0 2 #[26, 42, 58], 26, (0, 99999, 0), []) := rfl
theorem at_X5_tell_4 : ab_at mX5_tell 4 = some (.iload_n 1, 1, (0, 99999, 0), []) := rfl
theorem at_X5_tell_5 : ab_at mX5_tell 5 = some (.invokevirtual 161, 3, (3, 51, 1), [216]) := rfl
theorem at_X5_tell_8 : ab_at mX5_tell 8 = some (.ifCond .eq 15, 3, (0, 99999, 0), []) := rfl
theorem at_X5_throwBy_0 : ab_at mX5_throwBy 0 = some (.aload_n 1, 1, (0, 99999, 0), []) := rfl
theorem at_X5_throwBy_1 : ab_at mX5_throwBy 1 = some (.iload_n 2, 1, (0, 99999, 0), []) := rfl
theorem at_X5_throwBy_10 : ab_at mX5_throwBy 10 = some (.getfield 164, 3, (1, 4, 4), [217]) := rfl
theorem at_X5_throwBy_13 : ab_at mX5_throwBy 13 = some (.iload_n 2, 1, (0, 99999, 0), []) := rfl
theorem at_X5_throwBy_14 : ab_at mX5_throwBy 14 = some (.iaload, 1, (0, 99999, 0), []) := rfl
theorem at_X5_throwBy_15 : ab_at mX5_throwBy 15 = some (.if_icmp .le 5, 3, (0, 99999, 0), []) := rfl
theorem at_X5_throwBy_18 : ab_at mX5_throwBy 18 = some (.iconst (-1), 1, (0, 99999, 0), []) := rfl
theorem at_X5_throwBy_19 : ab_at mX5_throwBy 19 = some (.ireturn, 1, (0, 99999, 0), []) := rfl
theorem at_X5_throwBy_2 : ab_at mX5_throwBy 2 = some (.invokevirtual 161, 3, (3, 51, 1), [216]) := rfl
theorem at_X5_throwBy_20 : ab_at mX5_throwBy 20 = some (.aload_n 1, 1, (0, 99999, 0), []) := rfl
theorem at_X5_throwBy_21 : ab_at mX5_throwBy 21 = some (.iload_n 2, 1, (0, 99999, 0), []) := rfl
theorem at_X5_throwBy_22 : ab_at mX5_throwBy 22 = some (.aload_n 1, 1, (0, 99999, 0), []) := rfl
theorem at_X5_throwBy_23 : ab_at mX5_throwBy 23 = some (.getfield 174, 3, (1, 4, 6), [220]) := rfl
theorem at_X5_throwBy_26 : ab_at mX5_throwBy 26 = some (.iload_n 2, 1, (0, 99999, 0), []) := rfl
theorem at_X5_throwBy_27 : ab_at mX5_throwBy 27 = some (.iaload, 1, (0, 99999, 0), []) := rfl
theorem at_X5_throwBy_28 : ab_at mX5_throwBy 28 = some (.invokevirtual 203, 3, (3, 66, 2), [231]) := rfl
theorem at_X5_throwBy_31 : ab_at mX5_throwBy 31 = some (.istore 4, 2, (0, 99999, 0), []) := rfl
theorem at_X5_throwBy_33 : ab_at mX5_throwBy 33 = some (.iload_n 3, 1, (0, 99999, 0), []) := rfl
theorem at_X5_throwBy_34 : ab_at mX5_throwBy 34 = some (.iload 4, 2, (0, 99999, 0), []) := rfl
theorem at_X5_throwBy_36 : ab_at mX5_throwBy 36 = some (.if_icmp .ge 7, 3, (0, 99999, 0), []) := rfl
theorem at_X5_throwBy_39 : ab_at mX5_throwBy 39 = some (.iconst (-1), 1, (0, 99999, 0), []) := rfl
theorem at_X5_throwBy_40 : ab_at mX5_throwBy 40 = some (.goto 19, 3, (0, 99999, 0), []) := rfl
theorem at_X5_throwBy_43 : ab_at mX5_throwBy 43 = some (.aload_n 0, 1, (0, 99999, 0), []) := rfl
theorem at_X5_throwBy_44 : ab_at mX5_throwBy 44 = some (.getfield 31, 3, (1, 5, 4), [234]) := rfl
theorem at_X5_throwBy_47 : ab_at mX5_throwBy 47 = some (.aload_n 1, 1, (0, 99999, 0), []) := rfl
theorem at_X5_throwBy_48 : ab_at mX5_throwBy 48 = some (.aload_n 1, 1, (0, 99999, 0), []) := rfl
theorem at_X5_throwBy_49 : ab_at mX5_throwBy 49 = some (.getfield 158, 3, (1, 4, 11), [214]) := rfl
theorem at_X5_throwBy_5 : ab_at mX5_throwBy 5 = some (.ifCond .eq 13, 3, (0, 99999, 0), []) := rfl
theorem at_X5_throwBy_52 : ab_at mX5_throwBy 52 = some (.iload_n 3, 1, (0, 99999, 0), []) := rfl
theorem at_X5_throwBy_53 : ab_at mX5_throwBy 53 = some (.iload 4, 2, (0, 99999, 0), []) := rfl
theorem at_X5_throwBy_55 : ab_at mX5_throwBy 55 = some (.isub, 1, (0, 99999, 0), []) := rfl
theorem at_X5_throwBy_56 : ab_at mX5_throwBy 56 = some (.invokevirtual 213, 3, (3, 1, 3), [235]) := rfl
theorem at_X5_throwBy_59 : ab_at mX5_throwBy 59 = some (.ireturn, 1, (0, 99999, 0), []) := rfl
theorem at_X5_throwBy_8 : ab_at mX5_throwBy 8 = some (.iload_n 3, 1, (0, 99999, 0), []) := rfl
theorem at_X5_throwBy_9 : ab_at mX5_throwBy 9 = some (.aload_n 1, 1, (0, 99999, 0), []) := rfl
theorem at_X5_trace_0 : ab_at mX5_trace 0 = some (.aload_n 0, 1, (0, 99999, 0), []) := rfl
theorem at_X5_trace_1 : ab_at mX5_trace 1 = some (.getfield 45, 3, (1, 5, 6), [262]) := rfl
theorem at_X5_trace_4 : ab_at mX5_trace 4 = some (.iload_n 1, 1, (0, 99999, 0), []) := rfl
theorem at_X5_trace_5 : ab_at mX5_trace 5 = some (.invokevirtual 303, 3, (3, 7, 1), [264]) := rfl
theorem at_X5_trace_8 : ab_at mX5_trace 8 = some (.ireturn, 1, (0, 99999, 0), []) := rfl
theorem at_X5_whyNoRow_0 : ab_at mX5_whyNoRow 0 = some (.iload_n 1, 1, (0, 99999, 0), []) := rfl
theorem at_X5_whyNoRow_1 : ab_at mX5_whyNoRow 1 = some (.invokestatic 62, 3, (4, 117, 1), [185]) := rfl
theorem at_X5_whyNoRow_10 : ab_at mX5_whyNoRow 10 = some (.getfield 24, 3, (1, 5, 3), [182]) := rfl
theorem at_X5_whyNoRow_13 : ab_at mX5_whyNoRow 13 = some (.iload_n 1, 1, (0, 99999, 0), []) := rfl
theorem at_X5_whyNoRow_14 : ab_at mX5_whyNoRow 14 = some (.aaload, 1, (0, 99999, 0), []) := rfl
theorem at_X5_whyNoRow_15 : ab_at mX5_whyNoRow 15 = some (.invokevirtual 84, 3, (3, 33, 0), [191]) := rfl
theorem at_X5_whyNoRow_18 : ab_at mX5_whyNoRow 18 = some (.ifCond .eq 5, 3, (0, 99999, 0), []) := rfl
theorem at_X5_whyNoRow_21 : ab_at mX5_whyNoRow 21 = some (.iconst 2, 1, (0, 99999, 0), []) := rfl
theorem at_X5_whyNoRow_22 : ab_at mX5_whyNoRow 22 = some (.ireturn, 1, (0, 99999, 0), []) := rfl
theorem at_X5_whyNoRow_23 : ab_at mX5_whyNoRow 23 = some (.aload_n 0, 1, (0, 99999, 0), []) := rfl
theorem at_X5_whyNoRow_24 : ab_at mX5_whyNoRow 24 = some (.getfield 24, 3, (1, 5, 3), [182]) := rfl
theorem at_X5_whyNoRow_27 : ab_at mX5_whyNoRow 27 = some (.iload_n 1, 1, (0, 99999, 0), []) := rfl
theorem at_X5_whyNoRow_28 : ab_at mX5_whyNoRow 28 = some (.aaload, 1, (0, 99999, 0), []) := rfl
theorem at_X5_whyNoRow_29 : ab_at mX5_whyNoRow 29 = some (.invokevirtual 92, 3, (3, 32, 0), [193]) := rfl
theorem at_X5_whyNoRow_32 : ab_at mX5_whyNoRow 32 = some (.ifCond .eq 7, 3, (0, 99999, 0), []) := rfl
theorem at_X5_whyNoRow_35 : ab_at mX5_whyNoRow 35 = some (.iconst 3, 1, (0, 99999, 0), []) := rfl
theorem at_X5_whyNoRow_36 : ab_at mX5_whyNoRow 36 = some (.goto 4, 3, (0, 99999, 0), []) := rfl
theorem at_X5_whyNoRow_39 : ab_at mX5_whyNoRow 39 = some (.iconst 0, 1, (0, 99999, 0), []) := rfl
theorem at_X5_whyNoRow_4 : ab_at mX5_whyNoRow 4 = some (.ifCond .ne 5, 3, (0, 99999, 0), []) := rfl
theorem at_X5_whyNoRow_40 : ab_at mX5_whyNoRow 40 = some (.ireturn, 1, (0, 99999, 0), []) := rfl
theorem at_X5_whyNoRow_7 : ab_at mX5_whyNoRow 7 = some (.iconst 1, 1, (0, 99999, 0), []) := rfl
theorem at_X5_whyNoRow_8 : ab_at mX5_whyNoRow 8 = some (.ireturn, 1, (0, 99999, 0), []) := rfl
theorem at_X5_whyNoRow_9 : ab_at mX5_whyNoRow 9 = some (.aload_n 0, 1, (0, 99999, 0), []) := rfl
theorem at_X5_whyNoTwos_0 : ab_at mX5_whyNoTwos 0 = some (.aload_n 0, 1, (0, 99999, 0), []) := rfl
theorem at_X5_whyNoTwos_1 : ab_at mX5_whyNoTwos 1 = some (.iload_n 1, 1, (0, 99999, 0), []) := rfl
theorem at_X5_whyNoTwos_12 : ab_at mX5_whyNoTwos 12 = some (.iload 5, 2, (0, 99999, 0), []) := rfl
theorem at_X5_whyNoTwos_14 : ab_at mX5_whyNoTwos 14 = some (.ireturn, 1, (0, 99999, 0), []) := rfl
theorem at_X5_whyNoTwos_15 : ab_at mX5_whyNoTwos 15 = some (.iload_n 2, 1, (0, 99999, 0), []) := rfl
theorem at_X5_whyNoTwos_16 : ab_at mX5_whyNoTwos 16 = some (.ifCond .ge 5, 3, (0, 99999, 0), []) := rfl
theorem at_X5_whyNoTwos_19 : ab_at mX5_whyNoTwos 19 = some (.iconst 4, 1, (0, 99999, 0), []) := rfl
theorem at_X5_whyNoTwos_2 : ab_at mX5_whyNoTwos 2 = some (.invokevirtual 74, 3, (3, 119, 1), [188]) := rfl
theorem at_X5_whyNoTwos_20 : ab_at mX5_whyNoTwos 20 = some (.ireturn, 1, (0, 99999, 0), []) := rfl
theorem at_X5_whyNoTwos_21 : ab_at mX5_whyNoTwos 21 = some (.iload 4, 2, (0, 99999, 0), []) := rfl
theorem at_X5_whyNoTwos_23 : ab_at mX5_whyNoTwos 23 = some (.ifCond .ne 18, 3, (0, 99999, 0), []) := rfl
theorem at_X5_whyNoTwos_26 : ab_at mX5_whyNoTwos 26 = some (.iload_n 2, 1, (0, 99999, 0), []) := rfl
theorem at_X5_whyNoTwos_27 : ab_at mX5_whyNoTwos 27 = some (.aload_n 0, 1, (0, 99999, 0), []) := rfl
theorem at_X5_whyNoTwos_28 : ab_at mX5_whyNoTwos 28 = some (.getfield 24, 3, (1, 5, 3), [182]) := rfl
theorem at_X5_whyNoTwos_31 : ab_at mX5_whyNoTwos 31 = some (.iload_n 1, 1, (0, 99999, 0), []) := rfl
theorem at_X5_whyNoTwos_32 : ab_at mX5_whyNoTwos 32 = some (.aaload, 1, (0, 99999, 0), []) := rfl
theorem at_X5_whyNoTwos_33 : ab_at mX5_whyNoTwos 33 = some (.getfield 315, 3, (1, 3, 2), [271]) := rfl
theorem at_X5_whyNoTwos_36 : ab_at mX5_whyNoTwos 36 = some (.iconst 2, 1, (0, 99999, 0), []) := rfl
theorem at_X5_whyNoTwos_37 : ab_at mX5_whyNoTwos 37 = some (.idiv, 1, (0, 99999, 0), []) := rfl
theorem at_X5_whyNoTwos_38 : ab_at mX5_whyNoTwos 38 = some (.if_icmp .le 5, 3, (0, 99999, 0), []) := rfl
theorem at_X5_whyNoTwos_41 : ab_at mX5_whyNoTwos 41 = some (.iconst 5, 1, (0, 99999, 0), []) := rfl
theorem at_X5_whyNoTwos_42 : ab_at mX5_whyNoTwos 42 = some (.ireturn, 1, (0, 99999, 0), []) := rfl
theorem at_X5_whyNoTwos_43 : ab_at mX5_whyNoTwos 43 = some (.iload_n 2, 1, (0, 99999, 0), []) := rfl
theorem at_X5_whyNoTwos_44 : ab_at mX5_whyNoTwos 44 = some (.iload_n 3, 1, (0, 99999, 0), []) := rfl
theorem at_X5_whyNoTwos_45 : ab_at mX5_whyNoTwos 45 = some (.if_icmp .le 8, 3, (0, 99999, 0), []) := rfl
theorem at_X5_whyNoTwos_48 : ab_at mX5_whyNoTwos 48 = some (.bipush 6, 2, (0, 99999, 0), []) := rfl
theorem at_X5_whyNoTwos_5 : ab_at mX5_whyNoTwos 5 = some (.istore 5, 2, (0, 99999, 0), []) := rfl
theorem at_X5_whyNoTwos_50 : ab_at mX5_whyNoTwos 50 = some (.goto 4, 3, (0, 99999, 0), []) := rfl
theorem at_X5_whyNoTwos_53 : ab_at mX5_whyNoTwos 53 = some (.iconst 0, 1, (0, 99999, 0), []) := rfl
theorem at_X5_whyNoTwos_54 : ab_at mX5_whyNoTwos 54 = some (.ireturn, 1, (0, 99999, 0), []) := rfl
theorem at_X5_whyNoTwos_7 : ab_at mX5_whyNoTwos 7 = some (.iload 5, 2, (0, 99999, 0), []) := rfl
theorem at_X5_whyNoTwos_9 : ab_at mX5_whyNoTwos 9 = some (.ifCond .eq 6, 3, (0, 99999, 0), []) := rfl
theorem at_X6_act_0 : ab_at mX6_act 0 = some (.aload_n 0, 1, (0, 99999, 0), []) := rfl
theorem at_X6_act_1 : ab_at mX6_act 1 = some (.iconst 0, 1, (0, 99999, 0), []) := rfl
theorem at_X6_act_10 : ab_at mX6_act 10 = some (.ifCond .eq 12, 3, (0, 99999, 0), []) := rfl
theorem at_X6_act_13 : ab_at mX6_act 13 = some (.iload_n 2, 1, (0, 99999, 0), []) := rfl
theorem at_X6_act_14 : ab_at mX6_act 14 = some (.ifCond .lt 8, 3, (0, 99999, 0), []) := rfl
theorem at_X6_act_17 : ab_at mX6_act 17 = some (.iload_n 2, 1, (0, 99999, 0), []) := rfl
theorem at_X6_act_18 : ab_at mX6_act 18 = some (.iconst 2, 1, (0, 99999, 0), []) := rfl
theorem at_X6_act_19 : ab_at mX6_act 19 = some (.if_icmp .le 5, 3, (0, 99999, 0), []) := rfl
theorem at_X6_act_2 : ab_at mX6_act 2 = some (.putfield 291, 3, (1, 6, 47), [414]) := rfl
theorem at_X6_act_22 : ab_at mX6_act 22 = some (.iconst 0, 1, (0, 99999, 0), []) := rfl
theorem at_X6_act_23 : ab_at mX6_act 23 = some (.ireturn, 1, (0, 99999, 0), []) := rfl
theorem at_X6_act_24 : ab_at mX6_act 24 = some (.iload_n 2, 1, (0, 99999, 0), []) := rfl
theorem at_X6_act_25 : ab_at mX6_act 25 = some (.ifCond .ne 12, 3, (0, 99999, 0), []) := rfl
theorem at_X6_act_28 : ab_at mX6_act 28 = some (.aload_n 0, 1, (0, 99999, 0), []) := rfl
theorem at_X6_act_29 : ab_at mX6_act 29 = some (.iload_n 1, 1, (0, 99999, 0), []) := rfl
theorem at_X6_act_30 : ab_at mX6_act 30 = some (.iload_n 3, 1, (0, 99999, 0), []) := rfl
theorem at_X6_act_31 : ab_at mX6_act 31 = some (.invokevirtual 297, 3, (3, 205, 2), [416]) := rfl
theorem at_X6_act_34 : ab_at mX6_act 34 = some (.goto 23, 3, (0, 99999, 0), []) := rfl
theorem at_X6_act_37 : ab_at mX6_act 37 = some (.iload_n 2, 1, (0, 99999, 0), []) := rfl
theorem at_X6_act_38 : ab_at mX6_act 38 = some (.iconst 1, 1, (0, 99999, 0), []) := rfl
theorem at_X6_act_39 : ab_at mX6_act 39 = some (.if_icmp .ne 12, 3, (0, 99999, 0), []) := rfl
theorem at_X6_act_42 : ab_at mX6_act 42 = some (.aload_n 0, 1, (0, 99999, 0), []) := rfl
theorem at_X6_act_43 : ab_at mX6_act 43 = some (.iload_n 1, 1, (0, 99999, 0), []) := rfl
theorem at_X6_act_44 : ab_at mX6_act 44 = some (.iload_n 3, 1, (0, 99999, 0), []) := rfl
theorem at_X6_act_45 : ab_at mX6_act 45 = some (.invokevirtual 300, 3, (3, 206, 2), [417]) := rfl
theorem at_X6_act_48 : ab_at mX6_act 48 = some (.goto 9, 3, (0, 99999, 0), []) := rfl
theorem at_X6_act_5 : ab_at mX6_act 5 = some (.aload_n 0, 1, (0, 99999, 0), []) := rfl
theorem at_X6_act_51 : ab_at mX6_act 51 = some (.aload_n 0, 1, (0, 99999, 0), []) := rfl
theorem at_X6_act_52 : ab_at mX6_act 52 = some (.iload_n 1, 1, (0, 99999, 0), []) := rfl
theorem at_X6_act_53 : ab_at mX6_act 53 = some (.iload_n 3, 1, (0, 99999, 0), []) := rfl
theorem at_X6_act_54 : ab_at mX6_act 54 = some (.invokevirtual 303, 3, (3, 207, 2), [418]) := rfl
theorem at_X6_act_57 : ab_at mX6_act 57 = some (.ireturn, 1, (0, 99999, 0), []) := rfl
theorem at_X6_act_6 : ab_at mX6_act 6 = some (.iload_n 1, 1, (0, 99999, 0), []) := rfl
theorem at_X6_act_7 : ab_at mX6_act 7 = some (.invokevirtual 119, 3, (3, 132, 1), [319]) := rfl
theorem at_X6_all_0 : ab_at mX6_all 0 = some (.aload_n 0, 1, (0, 99999, 0), []) := rfl
theorem at_X6_all_1 : ab_at mX6_all 1 = some (.aload_n 0, 1, (0, 99999, 0), []) := rfl
theorem at_X6_all_10 : ab_at mX6_all 10 = some (.invokevirtual 184, 3, (3, 163, 5), [358]) := rfl
theorem at_X6_all_100 : ab_at mX6_all 100 = some (.getfield 41, 3, (1, 6, 15), [331]) := rfl
theorem at_X6_all_103 : ab_at mX6_all 103 = some (.bipush 6, 2, (0, 99999, 0), []) := rfl
theorem at_X6_all_105 : ab_at mX6_all 105 = some (.aload_n 1, 1, (0, 99999, 0), []) := rfl
theorem at_X6_all_106 : ab_at mX6_all 106 = some (.iload_n 3, 1, (0, 99999, 0), []) := rfl
theorem at_X6_all_107 : ab_at mX6_all 107 = some (.iload_n 2, 1, (0, 99999, 0), []) := rfl
theorem at_X6_all_108 : ab_at mX6_all 108 = some (.invokevirtual 184, 3, (3, 163, 5), [358]) := rfl
theorem at_X6_all_111 : ab_at mX6_all 111 = some (.istore_n 3, 1, (0, 99999, 0), []) := rfl
theorem at_X6_all_112 : ab_at mX6_all 112 = some (.aload_n 0, 1, (0, 99999, 0), []) := rfl
theorem at_X6_all_113 : ab_at mX6_all 113 = some (.aload_n 0, 1, (0, 99999, 0), []) := rfl
theorem at_X6_all_114 : ab_at mX6_all 114 = some (.getfield 44, 3, (1, 6, 16), [336]) := rfl
theorem at_X6_all_117 : ab_at mX6_all 117 = some (.bipush 8, 2, (0, 99999, 0), []) := rfl
theorem at_X6_all_119 : ab_at mX6_all 119 = some (.aload_n 1, 1, (0, 99999, 0), []) := rfl
theorem at_X6_all_120 : ab_at mX6_all 120 = some (.iload_n 3, 1, (0, 99999, 0), []) := rfl
theorem at_X6_all_121 : ab_at mX6_all 121 = some (.iload_n 2, 1, (0, 99999, 0), []) := rfl
theorem at_X6_all_122 : ab_at mX6_all 122 = some (.invokevirtual 184, 3, (3, 163, 5), [358]) := rfl
theorem at_X6_all_125 : ab_at mX6_all 125 = some (.istore_n 3, 1, (0, 99999, 0), []) := rfl
theorem at_X6_all_126 : ab_at mX6_all 126 = some (.iload_n 2, 1, (0, 99999, 0), []) := rfl
theorem at_X6_all_127 : ab_at mX6_all 127 = some (.ifCond .eq 58, 3, (0, 99999, 0), []) := rfl
theorem at_X6_all_13 : ab_at mX6_all 13 = some (.istore_n 3, 1, (0, 99999, 0), []) := rfl
theorem at_X6_all_14 : ab_at mX6_all 14 = some (.aload_n 0, 1, (0, 99999, 0), []) := rfl
theorem at_X6_all_15 : ab_at mX6_all 15 = some (.aload_n 0, 1, (0, 99999, 0), []) := rfl
theorem at_X6_all_16 : ab_at mX6_all 16 = some (.getfield 23, 3, (1, 6, 9), [325]) := rfl
theorem at_X6_all_19 : ab_at mX6_all 19 = some (.bipush 9, 2, (0, 99999, 0), []) := rfl
theorem at_X6_all_2 : ab_at mX6_all 2 = some (.getfield 20, 3, (1, 6, 8), [321]) := rfl
theorem at_X6_all_21 : ab_at mX6_all 21 = some (.aload_n 1, 1, (0, 99999, 0), []) := rfl
theorem at_X6_all_22 : ab_at mX6_all 22 = some (.iload_n 3, 1, (0, 99999, 0), []) := rfl
theorem at_X6_all_23 : ab_at mX6_all 23 = some (.iload_n 2, 1, (0, 99999, 0), []) := rfl
theorem at_X6_all_237 : ab_at mX6_all 237 = some (.return_, 1, (0, 99999, 0), []) := rfl
theorem at_X6_all_24 : ab_at mX6_all 24 = some (.invokevirtual 184, 3, (3, 163, 5), [358]) := rfl
theorem at_X6_all_27 : ab_at mX6_all 27 = some (.istore_n 3, 1, (0, 99999, 0), []) := rfl
theorem at_X6_all_28 : ab_at mX6_all 28 = some (.aload_n 0, 1, (0, 99999, 0), []) := rfl
theorem at_X6_all_29 : ab_at mX6_all 29 = some (.aload_n 0, 1, (0, 99999, 0), []) := rfl
theorem at_X6_all_30 : ab_at mX6_all 30 = some (.getfield 26, 3, (1, 6, 10), [322]) := rfl
theorem at_X6_all_33 : ab_at mX6_all 33 = some (.bipush 9, 2, (0, 99999, 0), []) := rfl
theorem at_X6_all_35 : ab_at mX6_all 35 = some (.aload_n 1, 1, (0, 99999, 0), []) := rfl
theorem at_X6_all_36 : ab_at mX6_all 36 = some (.iload_n 3, 1, (0, 99999, 0), []) := rfl
theorem at_X6_all_37 : ab_at mX6_all 37 = some (.iload_n 2, 1, (0, 99999, 0), []) := rfl
theorem at_X6_all_38 : ab_at mX6_all 38 = some (.invokevirtual 184, 3, (3, 163, 5), [358]) := rfl
theorem at_X6_all_41 : ab_at mX6_all 41 = some (.istore_n 3, 1, (0, 99999, 0), []) := rfl
theorem at_X6_all_42 : ab_at mX6_all 42 = some (.aload_n 0, 1, (0, 99999, 0), []) := rfl
theorem at_X6_all_43 : ab_at mX6_all 43 = some (.aload_n 0, 1, (0, 99999, 0), []) := rfl
theorem at_X6_all_44 : ab_at mX6_all 44 = some (.getfield 29, 3, (1, 6, 11), [326]) := rfl
theorem at_X6_all_47 : ab_at mX6_all 47 = some (.bipush 9, 2, (0, 99999, 0), []) := rfl
theorem at_X6_all_49 : ab_at mX6_all 49 = some (.aload_n 1, 1, (0, 99999, 0), []) := rfl
theorem at_X6_all_5 : ab_at mX6_all 5 = some (.bipush 9, 2, (0, 99999, 0), []) := rfl
theorem at_X6_all_50 : ab_at mX6_all 50 = some (.iload_n 3, 1, (0, 99999, 0), []) := rfl
theorem at_X6_all_51 : ab_at mX6_all 51 = some (.iload_n 2, 1, (0, 99999, 0), []) := rfl
theorem at_X6_all_52 : ab_at mX6_all 52 = some (.invokevirtual 184, 3, (3, 163, 5), [358]) := rfl
theorem at_X6_all_55 : ab_at mX6_all 55 = some (.istore_n 3, 1, (0, 99999, 0), []) := rfl
theorem at_X6_all_56 : ab_at mX6_all 56 = some (.aload_n 0, 1, (0, 99999, 0), []) := rfl
theorem at_X6_all_57 : ab_at mX6_all 57 = some (.aload_n 0, 1, (0, 99999, 0), []) := rfl
theorem at_X6_all_58 : ab_at mX6_all 58 = some (.getfield 32, 3, (1, 6, 12), [328]) := rfl
theorem at_X6_all_61 : ab_at mX6_all 61 = some (.bipush 6, 2, (0, 99999, 0), []) := rfl
theorem at_X6_all_63 : ab_at mX6_all 63 = some (.aload_n 1, 1, (0, 99999, 0), []) := rfl
theorem at_X6_all_64 : ab_at mX6_all 64 = some (.iload_n 3, 1, (0, 99999, 0), []) := rfl
theorem at_X6_all_65 : ab_at mX6_all 65 = some (.iload_n 2, 1, (0, 99999, 0), []) := rfl
theorem at_X6_all_66 : ab_at mX6_all 66 = some (.invokevirtual 184, 3, (3, 163, 5), [358]) := rfl
theorem at_X6_all_69 : ab_at mX6_all 69 = some (.istore_n 3, 1, (0, 99999, 0), []) := rfl
theorem at_X6_all_7 : ab_at mX6_all 7 = some (.aload_n 1, 1, (0, 99999, 0), []) := rfl
theorem at_X6_all_70 : ab_at mX6_all 70 = some (.aload_n 0, 1, (0, 99999, 0), []) := rfl
theorem at_X6_all_71 : ab_at mX6_all 71 = some (.aload_n 0, 1, (0, 99999, 0), []) := rfl
theorem at_X6_all_72 : ab_at mX6_all 72 = some (.getfield 35, 3, (1, 6, 13), [329]) := rfl
theorem at_X6_all_75 : ab_at mX6_all 75 = some (.bipush 6, 2, (0, 99999, 0), []) := rfl
theorem at_X6_all_77 : ab_at mX6_all 77 = some (.aload_n 1, 1, (0, 99999, 0), []) := rfl
theorem at_X6_all_78 : ab_at mX6_all 78 = some (.iload_n 3, 1, (0, 99999, 0), []) := rfl
theorem at_X6_all_79 : ab_at mX6_all 79 = some (.iload_n 2, 1, (0, 99999, 0), []) := rfl
theorem at_X6_all_8 : ab_at mX6_all 8 = some (.iconst 0, 1, (0, 99999, 0), []) := rfl
theorem at_X6_all_80 : ab_at mX6_all 80 = some (.invokevirtual 184, 3, (3, 163, 5), [358]) := rfl
theorem at_X6_all_83 : ab_at mX6_all 83 = some (.istore_n 3, 1, (0, 99999, 0), []) := rfl
theorem at_X6_all_84 : ab_at mX6_all 84 = some (.aload_n 0, 1, (0, 99999, 0), []) := rfl
theorem at_X6_all_85 : ab_at mX6_all 85 = some (.aload_n 0, 1, (0, 99999, 0), []) := rfl
theorem at_X6_all_86 : ab_at mX6_all 86 = some (.getfield 38, 3, (1, 6, 14), [330]) := rfl
theorem at_X6_all_89 : ab_at mX6_all 89 = some (.bipush 6, 2, (0, 99999, 0), []) := rfl
theorem at_X6_all_9 : ab_at mX6_all 9 = some (.iload_n 2, 1, (0, 99999, 0), []) := rfl
theorem at_X6_all_91 : ab_at mX6_all 91 = some (.aload_n 1, 1, (0, 99999, 0), []) := rfl
theorem at_X6_all_92 : ab_at mX6_all 92 = some (.iload_n 3, 1, (0, 99999, 0), []) := rfl
theorem at_X6_all_93 : ab_at mX6_all 93 = some (.iload_n 2, 1, (0, 99999, 0), []) := rfl
theorem at_X6_all_94 : ab_at mX6_all 94 = some (.invokevirtual 184, 3, (3, 163, 5), [358]) := rfl
theorem at_X6_all_97 : ab_at mX6_all 97 = some (.istore_n 3, 1, (0, 99999, 0), []) := rfl
theorem at_X6_all_98 : ab_at mX6_all 98 = some (.aload_n 0, 1, (0, 99999, 0), []) := rfl
theorem at_X6_all_99 : ab_at mX6_all 99 = some (.aload_n 0, 1, (0, 99999, 0), []) := rfl
theorem at_X6_amounts_0 : ab_at mX6_amounts 0 = some (.iload_n 1, 1, (0, 99999, 0), []) := rfl
theorem at_X6_amounts_1 : ab_at mX6_amounts 1 = some (.ifCond .lt 8, 3, (0, 99999, 0), []) := rfl
theorem at_X6_back_0 : ab_at mX6_back 0 = some (.aload_n 0, 1, (0, 99999, 0), []) := rfl
theorem at_X6_back_1 : ab_at mX6_back 1 = some (.iload_n 1, 1, (0, 99999, 0), []) := rfl
theorem at_X6_back_2 : ab_at mX6_back 2 = some (.invokevirtual 119, 3, (3, 132, 1), [319]) := rfl
theorem at_X6_back_5 : ab_at mX6_back 5 = some (.ifCond .ne 9, 3, (0, 99999, 0), []) := rfl
theorem at_X6_barsOf_0 : ab_at mX6_barsOf 0 = some (.aload_n 0, 1, (0, 99999, 0), []) := rfl
theorem at_X6_barsOf_1 : ab_at mX6_barsOf 1 = some (.iload_n 1, 1, (0, 99999, 0), []) := rfl
theorem at_X6_barsOf_12 : ab_at mX6_barsOf 12 = some (.iload 5, 2, (0, 99999, 0), []) := rfl
theorem at_X6_barsOf_14 : ab_at mX6_barsOf 14 = some (.goto 45, 3, (0, 99999, 0), []) := rfl
theorem at_X6_barsOf_17 : ab_at mX6_barsOf 17 = some (.iload_n 2, 1, (0, 99999, 0), []) := rfl
theorem at_X6_barsOf_18 : ab_at mX6_barsOf 18 = some (.ifCond .ge 8, 3, (0, 99999, 0), []) := rfl
theorem at_X6_barsOf_2 : ab_at mX6_barsOf 2 = some (.invokevirtual 194, 3, (3, 142, 1), [364]) := rfl
theorem at_X6_barsOf_21 : ab_at mX6_barsOf 21 = some (.bipush (-4), 2, (0, 99999, 0), []) := rfl
theorem at_X6_barsOf_23 : ab_at mX6_barsOf 23 = some (.goto 36, 3, (0, 99999, 0), []) := rfl
theorem at_X6_barsOf_26 : ab_at mX6_barsOf 26 = some (.iload_n 2, 1, (0, 99999, 0), []) := rfl
theorem at_X6_barsOf_27 : ab_at mX6_barsOf 27 = some (.aload_n 0, 1, (0, 99999, 0), []) := rfl
theorem at_X6_barsOf_28 : ab_at mX6_barsOf 28 = some (.getfield 53, 3, (1, 6, 19), [316]) := rfl
theorem at_X6_barsOf_31 : ab_at mX6_barsOf 31 = some (.iload_n 1, 1, (0, 99999, 0), []) := rfl
theorem at_X6_barsOf_32 : ab_at mX6_barsOf 32 = some (.iaload, 1, (0, 99999, 0), []) := rfl
theorem at_X6_barsOf_33 : ab_at mX6_barsOf 33 = some (.iconst 2, 1, (0, 99999, 0), []) := rfl
theorem at_X6_barsOf_34 : ab_at mX6_barsOf 34 = some (.idiv, 1, (0, 99999, 0), []) := rfl
theorem at_X6_barsOf_35 : ab_at mX6_barsOf 35 = some (.if_icmp .gt 8, 3, (0, 99999, 0), []) := rfl
theorem at_X6_barsOf_38 : ab_at mX6_barsOf 38 = some (.iload 4, 2, (0, 99999, 0), []) := rfl
theorem at_X6_barsOf_40 : ab_at mX6_barsOf 40 = some (.ifCond .ne 8, 3, (0, 99999, 0), []) := rfl
theorem at_X6_barsOf_43 : ab_at mX6_barsOf 43 = some (.bipush (-5), 2, (0, 99999, 0), []) := rfl
theorem at_X6_barsOf_45 : ab_at mX6_barsOf 45 = some (.goto 14, 3, (0, 99999, 0), []) := rfl
theorem at_X6_barsOf_48 : ab_at mX6_barsOf 48 = some (.iload_n 2, 1, (0, 99999, 0), []) := rfl
theorem at_X6_barsOf_49 : ab_at mX6_barsOf 49 = some (.iload_n 3, 1, (0, 99999, 0), []) := rfl
theorem at_X6_barsOf_5 : ab_at mX6_barsOf 5 = some (.istore 5, 2, (0, 99999, 0), []) := rfl
theorem at_X6_barsOf_50 : ab_at mX6_barsOf 50 = some (.if_icmp .le 8, 3, (0, 99999, 0), []) := rfl
theorem at_X6_barsOf_53 : ab_at mX6_barsOf 53 = some (.bipush (-6), 2, (0, 99999, 0), []) := rfl
theorem at_X6_barsOf_55 : ab_at mX6_barsOf 55 = some (.goto 4, 3, (0, 99999, 0), []) := rfl
theorem at_X6_barsOf_58 : ab_at mX6_barsOf 58 = some (.iconst 0, 1, (0, 99999, 0), []) := rfl
theorem at_X6_barsOf_59 : ab_at mX6_barsOf 59 = some (.ireturn, 1, (0, 99999, 0), []) := rfl
theorem at_X6_barsOf_7 : ab_at mX6_barsOf 7 = some (.iload 5, 2, (0, 99999, 0), []) := rfl
theorem at_X6_barsOf_9 : ab_at mX6_barsOf 9 = some (.ifCond .eq 8, 3, (0, 99999, 0), []) := rfl
theorem at_X6_behind_0 : ab_at mX6_behind 0 = some (.aload_n 0, 1, (0, 99999, 0), []) := rfl
theorem at_X6_behind_1 : ab_at mX6_behind 1 = some (.iload_n 1, 1, (0, 99999, 0), []) := rfl
theorem at_X6_behind_10 : ab_at mX6_behind 10 = some (.iconst 2, 1, (0, 99999, 0), []) := rfl
theorem at_X6_behind_104 : ab_at mX6_behind 104 = some (.ireturn, 1, (0, 99999, 0), []) := rfl
theorem at_X6_behind_11 : ab_at mX6_behind 11 = some (.if_icmp .gt 7, 3, (0, 99999, 0), []) := rfl
theorem at_X6_behind_14 : ab_at mX6_behind 14 = some (.iconst 1, 1, (0, 99999, 0), []) := rfl
theorem at_X6_behind_15 : ab_at mX6_behind 15 = some (.goto 4, 3, (0, 99999, 0), []) := rfl
theorem at_X6_behind_18 : ab_at mX6_behind 18 = some (.iconst 0, 1, (0, 99999, 0), []) := rfl
theorem at_X6_behind_19 : ab_at mX6_behind 19 = some (.invokevirtual 256, 3, (3, 186, 4), [397]) := rfl
theorem at_X6_behind_2 : ab_at mX6_behind 2 = some (.iload_n 2, 1, (0, 99999, 0), []) := rfl
theorem at_X6_behind_22 : ab_at mX6_behind 22 = some (.istore 4, 2, (0, 99999, 0), []) := rfl
theorem at_X6_behind_24 : ab_at mX6_behind 24 = some (.iload 4, 2, (0, 99999, 0), []) := rfl
theorem at_X6_behind_26 : ab_at mX6_behind 26 = some (.ifCond .eq 10, 3, (0, 99999, 0), []) := rfl
theorem at_X6_behind_29 : ab_at mX6_behind 29 = some (.aload_n 0, 1, (0, 99999, 0), []) := rfl
theorem at_X6_behind_3 : ab_at mX6_behind 3 = some (.bipush 20, 2, (0, 99999, 0), []) := rfl
theorem at_X6_behind_30 : ab_at mX6_behind 30 = some (.iload 4, 2, (0, 99999, 0), []) := rfl
theorem at_X6_behind_32 : ab_at mX6_behind 32 = some (.invokevirtual 115, 3, (3, 129, 1), [313]) := rfl
theorem at_X6_behind_35 : ab_at mX6_behind 35 = some (.ireturn, 1, (0, 99999, 0), []) := rfl
theorem at_X6_behind_36 : ab_at mX6_behind 36 = some (.aload_n 0, 1, (0, 99999, 0), []) := rfl
theorem at_X6_behind_37 : ab_at mX6_behind 37 = some (.aload_n 0, 1, (0, 99999, 0), []) := rfl
theorem at_X6_behind_38 : ab_at mX6_behind 38 = some (.getfield 84, 3, (1, 6, 34), [396]) := rfl
theorem at_X6_behind_41 : ab_at mX6_behind 41 = some (.iconst 0, 1, (0, 99999, 0), []) := rfl
theorem at_X6_behind_42 : ab_at mX6_behind 42 = some (.invokevirtual 197, 3, (3, 164, 2), [366]) := rfl
theorem at_X6_behind_45 : ab_at mX6_behind 45 = some (.aload_n 0, 1, (0, 99999, 0), []) := rfl
theorem at_X6_behind_46 : ab_at mX6_behind 46 = some (.iload_n 1, 1, (0, 99999, 0), []) := rfl
theorem at_X6_behind_47 : ab_at mX6_behind 47 = some (.iload_n 2, 1, (0, 99999, 0), []) := rfl
theorem at_X6_behind_48 : ab_at mX6_behind 48 = some (.invokevirtual 278, 3, (3, 193, 2), [407]) := rfl
theorem at_X6_behind_5 : ab_at mX6_behind 5 = some (.iload_n 3, 1, (0, 99999, 0), []) := rfl
theorem at_X6_behind_51 : ab_at mX6_behind 51 = some (.istore 5, 2, (0, 99999, 0), []) := rfl
theorem at_X6_behind_53 : ab_at mX6_behind 53 = some (.aload_n 0, 1, (0, 99999, 0), []) := rfl
theorem at_X6_behind_54 : ab_at mX6_behind 54 = some (.aload_n 0, 1, (0, 99999, 0), []) := rfl
theorem at_X6_behind_55 : ab_at mX6_behind 55 = some (.getfield 84, 3, (1, 6, 34), [396]) := rfl
theorem at_X6_behind_58 : ab_at mX6_behind 58 = some (.iconst 1, 1, (0, 99999, 0), []) := rfl
theorem at_X6_behind_59 : ab_at mX6_behind 59 = some (.invokevirtual 197, 3, (3, 164, 2), [366]) := rfl
theorem at_X6_behind_6 : ab_at mX6_behind 6 = some (.ifCond .lt 12, 3, (0, 99999, 0), []) := rfl
theorem at_X6_behind_62 : ab_at mX6_behind 62 = some (.iload 5, 2, (0, 99999, 0), []) := rfl
theorem at_X6_behind_64 : ab_at mX6_behind 64 = some (.iconst (-1), 1, (0, 99999, 0), []) := rfl
theorem at_X6_behind_65 : ab_at mX6_behind 65 = some (.if_icmp .eq 12, 3, (0, 99999, 0), []) := rfl
theorem at_X6_behind_9 : ab_at mX6_behind 9 = some (.iload_n 3, 1, (0, 99999, 0), []) := rfl
theorem at_X6_best_0 : ab_at mX6_best 0 = some (.aload_n 0, 1, (0, 99999, 0), []) := rfl
theorem at_X6_best_1 : ab_at mX6_best 1 = some (.iload_n 1, 1, (0, 99999, 0), []) := rfl
theorem at_X6_best_14 : ab_at mX6_best 14 = some (.iload_n 2, 1, (0, 99999, 0), []) := rfl
theorem at_X6_best_15 : ab_at mX6_best 15 = some (.ifCond .lt 8, 3, (0, 99999, 0), []) := rfl
theorem at_X6_best_18 : ab_at mX6_best 18 = some (.iload_n 2, 1, (0, 99999, 0), []) := rfl
theorem at_X6_best_19 : ab_at mX6_best 19 = some (.iconst 1, 1, (0, 99999, 0), []) := rfl
theorem at_X6_best_2 : ab_at mX6_best 2 = some (.invokevirtual 142, 3, (3, 133, 1), [339]) := rfl
theorem at_X6_best_20 : ab_at mX6_best 20 = some (.if_icmp .le 10, 3, (0, 99999, 0), []) := rfl
theorem at_X6_best_30 : ab_at mX6_best 30 = some (.aload_n 0, 1, (0, 99999, 0), []) := rfl
theorem at_X6_best_31 : ab_at mX6_best 31 = some (.iload_n 1, 1, (0, 99999, 0), []) := rfl
theorem at_X6_best_32 : ab_at mX6_best 32 = some (.invokevirtual 239, 3, (3, 177, 1), [386]) := rfl
theorem at_X6_best_35 : ab_at mX6_best 35 = some (.iload_n 2, 1, (0, 99999, 0), []) := rfl
theorem at_X6_best_36 : ab_at mX6_best 36 = some (.ifCond .ne 10, 3, (0, 99999, 0), []) := rfl
theorem at_X6_best_5 : ab_at mX6_best 5 = some (.ifCond .ne 9, 3, (0, 99999, 0), []) := rfl
theorem at_X6_best_50 : ab_at mX6_best 50 = some (.ireturn, 1, (0, 99999, 0), []) := rfl
theorem at_X6_body_0 : ab_at mX6_body 0 = some (.aload_n 0, 1, (0, 99999, 0), []) := rfl
theorem at_X6_body_1 : ab_at mX6_body 1 = some (.getfield 291, 3, (1, 6, 47), [412]) := rfl
theorem at_X6_body_10 : ab_at mX6_body 10 = some (.getfield 102, 3, (1, 6, 46), [413]) := rfl
theorem at_X6_body_13 : ab_at mX6_body 13 = some (.aload_n 0, 1, (0, 99999, 0), []) := rfl
theorem at_X6_body_14 : ab_at mX6_body 14 = some (.getfield 291, 3, (1, 6, 47), [412]) := rfl
theorem at_X6_body_17 : ab_at mX6_body 17 = some (.iload_n 1, 1, (0, 99999, 0), []) := rfl
theorem at_X6_body_18 : ab_at mX6_body 18 = some (.iastore, 1, (0, 99999, 0), []) := rfl
theorem at_X6_body_19 : ab_at mX6_body 19 = some (.aload_n 0, 1, (0, 99999, 0), []) := rfl
theorem at_X6_body_20 : ab_at mX6_body 20 = some (.dup, 1, (0, 99999, 0), []) := rfl
theorem at_X6_body_21 : ab_at mX6_body 21 = some (.getfield 291, 3, (1, 6, 47), [412]) := rfl
theorem at_X6_body_24 : ab_at mX6_body 24 = some (.iconst 1, 1, (0, 99999, 0), []) := rfl
theorem at_X6_body_25 : ab_at mX6_body 25 = some (.iadd, 1, (0, 99999, 0), []) := rfl
theorem at_X6_body_26 : ab_at mX6_body 26 = some (.putfield 291, 3, (1, 6, 47), [414]) := rfl
theorem at_X6_body_29 : ab_at mX6_body 29 = some (.return_, 1, (0, 99999, 0), []) := rfl
theorem at_X6_body_4 : ab_at mX6_body 4 = some (.bipush 20, 2, (0, 99999, 0), []) := rfl
theorem at_X6_body_6 : ab_at mX6_body 6 = some (.if_icmp .ge 13, 3, (0, 99999, 0), []) := rfl
theorem at_X6_body_9 : ab_at mX6_body 9 = some (.aload_n 0, 1, (0, 99999, 0), []) := rfl
theorem at_X6_carries_0 : ab_at mX6_carries 0 = some (.iconst 0, 1, (0, 99999, 0), []) := rfl
theorem at_X6_carries_1 : ab_at mX6_carries 1 = some (.istore 6, 2, (0, 99999, 0), []) := rfl
theorem at_X6_carries_11 : ab_at mX6_carries 11 = some (.ifCond .eq 17, 3, (0, 99999, 0), []) := rfl
theorem at_X6_carries_3 : ab_at mX6_carries 3 = some (.iload 6, 2, (0, 99999, 0), []) := rfl
theorem at_X6_carries_39 : ab_at mX6_carries 39 = some (.iinc 6 1, 3, (0, 99999, 0), []) := rfl
theorem at_X6_carries_42 : ab_at mX6_carries 42 = some (.goto (-39), 3, (0, 99999, 0), []) := rfl
theorem at_X6_carries_45 : ab_at mX6_carries 45 = some (.iload 4, 2, (0, 99999, 0), []) := rfl
theorem at_X6_carries_47 : ab_at mX6_carries 47 = some (.iload_n 2, 1, (0, 99999, 0), []) := rfl
theorem at_X6_carries_48 : ab_at mX6_carries 48 = some (.iadd, 1, (0, 99999, 0), []) := rfl
theorem at_X6_carries_49 : ab_at mX6_carries 49 = some (.ireturn, 1, (0, 99999, 0), []) := rfl
theorem at_X6_carries_5 : ab_at mX6_carries 5 = some (.iload_n 2, 1, (0, 99999, 0), []) := rfl
theorem at_X6_carries_6 : ab_at mX6_carries 6 = some (.if_icmp .ge 39, 3, (0, 99999, 0), []) := rfl
theorem at_X6_carries_9 : ab_at mX6_carries 9 = some (.iload 5, 2, (0, 99999, 0), []) := rfl
theorem at_X6_cast_0 : ab_at mX6_cast 0 = some (.aload_n 0, 1, (0, 99999, 0), []) := rfl
theorem at_X6_cast_1 : ab_at mX6_cast 1 = some (.iload_n 1, 1, (0, 99999, 0), []) := rfl
theorem at_X6_cast_10 : ab_at mX6_cast 10 = some (.invokevirtual 115, 3, (3, 129, 1), [313]) := rfl
theorem at_X6_cast_13 : ab_at mX6_cast 13 = some (.ireturn, 1, (0, 99999, 0), []) := rfl
theorem at_X6_cast_14 : ab_at mX6_cast 14 = some (.aload_n 0, 1, (0, 99999, 0), []) := rfl
theorem at_X6_cast_15 : ab_at mX6_cast 15 = some (.aload_n 0, 1, (0, 99999, 0), []) := rfl
theorem at_X6_cast_16 : ab_at mX6_cast 16 = some (.bipush 99, 2, (0, 99999, 0), []) := rfl
theorem at_X6_cast_18 : ab_at mX6_cast 18 = some (.invokevirtual 145, 3, (3, 153, 1), [340]) := rfl
theorem at_X6_cast_2 : ab_at mX6_cast 2 = some (.invokevirtual 142, 3, (3, 133, 1), [339]) := rfl
theorem at_X6_cast_21 : ab_at mX6_cast 21 = some (.invokevirtual 219, 3, (3, 170, 1), [378]) := rfl
theorem at_X6_cast_24 : ab_at mX6_cast 24 = some (.aload_n 0, 1, (0, 99999, 0), []) := rfl
theorem at_X6_cast_25 : ab_at mX6_cast 25 = some (.iload_n 2, 1, (0, 99999, 0), []) := rfl
theorem at_X6_cast_26 : ab_at mX6_cast 26 = some (.iconst 0, 1, (0, 99999, 0), []) := rfl
theorem at_X6_cast_27 : ab_at mX6_cast 27 = some (.bipush 99, 2, (0, 99999, 0), []) := rfl
theorem at_X6_cast_29 : ab_at mX6_cast 29 = some (.invokevirtual 128, 3, (3, 134, 3), [333]) := rfl
theorem at_X6_cast_32 : ab_at mX6_cast 32 = some (.ifCond .eq 12, 3, (0, 99999, 0), []) := rfl
theorem at_X6_cast_35 : ab_at mX6_cast 35 = some (.aload_n 0, 1, (0, 99999, 0), []) := rfl
theorem at_X6_cast_36 : ab_at mX6_cast 36 = some (.iload_n 1, 1, (0, 99999, 0), []) := rfl
theorem at_X6_cast_37 : ab_at mX6_cast 37 = some (.iload_n 2, 1, (0, 99999, 0), []) := rfl
theorem at_X6_cast_38 : ab_at mX6_cast 38 = some (.invokevirtual 236, 3, (3, 176, 2), [383]) := rfl
theorem at_X6_cast_41 : ab_at mX6_cast 41 = some (.goto 4, 3, (0, 99999, 0), []) := rfl
theorem at_X6_cast_44 : ab_at mX6_cast 44 = some (.iconst (-1), 1, (0, 99999, 0), []) := rfl
theorem at_X6_cast_45 : ab_at mX6_cast 45 = some (.istore_n 3, 1, (0, 99999, 0), []) := rfl
theorem at_X6_cast_46 : ab_at mX6_cast 46 = some (.iload_n 3, 1, (0, 99999, 0), []) := rfl
theorem at_X6_cast_47 : ab_at mX6_cast 47 = some (.iconst (-1), 1, (0, 99999, 0), []) := rfl
theorem at_X6_cast_48 : ab_at mX6_cast 48 = some (.if_icmp .ne 10, 3, (0, 99999, 0), []) := rfl
theorem at_X6_cast_5 : ab_at mX6_cast 5 = some (.ifCond .ne 9, 3, (0, 99999, 0), []) := rfl
theorem at_X6_cast_51 : ab_at mX6_cast 51 = some (.aload_n 0, 1, (0, 99999, 0), []) := rfl
theorem at_X6_cast_52 : ab_at mX6_cast 52 = some (.bipush (-6), 2, (0, 99999, 0), []) := rfl
theorem at_X6_cast_54 : ab_at mX6_cast 54 = some (.invokevirtual 115, 3, (3, 129, 1), [313]) := rfl
theorem at_X6_cast_57 : ab_at mX6_cast 57 = some (.ireturn, 1, (0, 99999, 0), []) := rfl
theorem at_X6_cast_8 : ab_at mX6_cast 8 = some (.aload_n 0, 1, (0, 99999, 0), []) := rfl
theorem at_X6_cast_9 : ab_at mX6_cast 9 = some (.iconst (-1), 1, (0, 99999, 0), []) := rfl
theorem at_X6_changeFor_0 : ab_at mX6_changeFor 0 = some (.aload_n 0, 1, (0, 99999, 0), []) := rfl
theorem at_X6_changeFor_1 : ab_at mX6_changeFor 1 = some (.getfield 139, 3, (1, 6, 2), [337]) := rfl
theorem at_X6_changeFor_11 : ab_at mX6_changeFor 11 = some (.iload_n 1, 1, (0, 99999, 0), []) := rfl
theorem at_X6_changeFor_12 : ab_at mX6_changeFor 12 = some (.iaload, 1, (0, 99999, 0), []) := rfl
theorem at_X6_changeFor_13 : ab_at mX6_changeFor 13 = some (.goto 8, 3, (0, 99999, 0), []) := rfl
theorem at_X6_changeFor_16 : ab_at mX6_changeFor 16 = some (.aload_n 0, 1, (0, 99999, 0), []) := rfl
theorem at_X6_changeFor_17 : ab_at mX6_changeFor 17 = some (.iload_n 1, 1, (0, 99999, 0), []) := rfl
theorem at_X6_changeFor_18 : ab_at mX6_changeFor 18 = some (.invokevirtual 213, 3, (3, 171, 1), [376]) := rfl
theorem at_X6_changeFor_21 : ab_at mX6_changeFor 21 = some (.ireturn, 1, (0, 99999, 0), []) := rfl
theorem at_X6_changeFor_4 : ab_at mX6_changeFor 4 = some (.ifCond .ne 12, 3, (0, 99999, 0), []) := rfl
theorem at_X6_changeFor_7 : ab_at mX6_changeFor 7 = some (.aload_n 0, 1, (0, 99999, 0), []) := rfl
theorem at_X6_changeFor_8 : ab_at mX6_changeFor 8 = some (.getfield 87, 3, (1, 6, 35), [372]) := rfl
theorem at_X6_change_0 : ab_at mX6_change 0 = some (.iload_n 2, 1, (0, 99999, 0), []) := rfl
theorem at_X6_change_1 : ab_at mX6_change 1 = some (.ifCond .lt 8, 3, (0, 99999, 0), []) := rfl
theorem at_X6_change_16 : ab_at mX6_change 16 = some (.aload_n 0, 1, (0, 99999, 0), []) := rfl
theorem at_X6_change_17 : ab_at mX6_change 17 = some (.iload_n 1, 1, (0, 99999, 0), []) := rfl
theorem at_X6_change_18 : ab_at mX6_change 18 = some (.iconst 0, 1, (0, 99999, 0), []) := rfl
theorem at_X6_change_19 : ab_at mX6_change 19 = some (.bipush 99, 2, (0, 99999, 0), []) := rfl
theorem at_X6_change_21 : ab_at mX6_change 21 = some (.invokevirtual 128, 3, (3, 134, 3), [333]) := rfl
theorem at_X6_change_24 : ab_at mX6_change 24 = some (.ifCond .ne 10, 3, (0, 99999, 0), []) := rfl
theorem at_X6_change_27 : ab_at mX6_change 27 = some (.aload_n 0, 1, (0, 99999, 0), []) := rfl
theorem at_X6_change_28 : ab_at mX6_change 28 = some (.bipush (-6), 2, (0, 99999, 0), []) := rfl
theorem at_X6_change_30 : ab_at mX6_change 30 = some (.invokevirtual 216, 3, (3, 130, 1), [377]) := rfl
theorem at_X6_change_33 : ab_at mX6_change 33 = some (.ireturn, 1, (0, 99999, 0), []) := rfl
theorem at_X6_change_4 : ab_at mX6_change 4 = some (.iload_n 2, 1, (0, 99999, 0), []) := rfl
theorem at_X6_change_5 : ab_at mX6_change 5 = some (.iconst 1, 1, (0, 99999, 0), []) := rfl
theorem at_X6_change_6 : ab_at mX6_change 6 = some (.if_icmp .le 10, 3, (0, 99999, 0), []) := rfl
theorem at_X6_copy_0 : ab_at mX6_copy 0 = some (.aload_n 0, 1, (0, 99999, 0), []) := rfl
theorem at_X6_copy_1 : ab_at mX6_copy 1 = some (.iload_n 1, 1, (0, 99999, 0), []) := rfl
theorem at_X6_copy_10 : ab_at mX6_copy 10 = some (.invokevirtual 111, 3, (3, 131, 1), [312]) := rfl
theorem at_X6_copy_109 : ab_at mX6_copy 109 = some (.iload 5, 2, (0, 99999, 0), []) := rfl
theorem at_X6_copy_111 : ab_at mX6_copy 111 = some (.ifCond .ge 10, 3, (0, 99999, 0), []) := rfl
theorem at_X6_copy_121 : ab_at mX6_copy 121 = some (.iload_n 3, 1, (0, 99999, 0), []) := rfl
theorem at_X6_copy_122 : ab_at mX6_copy 122 = some (.ifCond .lt 35, 3, (0, 99999, 0), []) := rfl
theorem at_X6_copy_125 : ab_at mX6_copy 125 = some (.iload 4, 2, (0, 99999, 0), []) := rfl
theorem at_X6_copy_127 : ab_at mX6_copy 127 = some (.ifCond .lt 30, 3, (0, 99999, 0), []) := rfl
theorem at_X6_copy_13 : ab_at mX6_copy 13 = some (.ifCond .ne 9, 3, (0, 99999, 0), []) := rfl
theorem at_X6_copy_130 : ab_at mX6_copy 130 = some (.iload_n 3, 1, (0, 99999, 0), []) := rfl
theorem at_X6_copy_131 : ab_at mX6_copy 131 = some (.aload_n 0, 1, (0, 99999, 0), []) := rfl
theorem at_X6_copy_132 : ab_at mX6_copy 132 = some (.getfield 53, 3, (1, 6, 19), [316]) := rfl
theorem at_X6_copy_135 : ab_at mX6_copy 135 = some (.iload_n 1, 1, (0, 99999, 0), []) := rfl
theorem at_X6_copy_136 : ab_at mX6_copy 136 = some (.iaload, 1, (0, 99999, 0), []) := rfl
theorem at_X6_copy_137 : ab_at mX6_copy 137 = some (.iload 5, 2, (0, 99999, 0), []) := rfl
theorem at_X6_copy_139 : ab_at mX6_copy 139 = some (.isub, 1, (0, 99999, 0), []) := rfl
theorem at_X6_copy_140 : ab_at mX6_copy 140 = some (.if_icmp .gt 17, 3, (0, 99999, 0), []) := rfl
theorem at_X6_copy_157 : ab_at mX6_copy 157 = some (.aload_n 0, 1, (0, 99999, 0), []) := rfl
theorem at_X6_copy_158 : ab_at mX6_copy 158 = some (.bipush (-5), 2, (0, 99999, 0), []) := rfl
theorem at_X6_copy_16 : ab_at mX6_copy 16 = some (.aload_n 0, 1, (0, 99999, 0), []) := rfl
theorem at_X6_copy_160 : ab_at mX6_copy 160 = some (.invokevirtual 115, 3, (3, 129, 1), [313]) := rfl
theorem at_X6_copy_163 : ab_at mX6_copy 163 = some (.ireturn, 1, (0, 99999, 0), []) := rfl
theorem at_X6_copy_17 : ab_at mX6_copy 17 = some (.iconst (-1), 1, (0, 99999, 0), []) := rfl
theorem at_X6_copy_18 : ab_at mX6_copy 18 = some (.invokevirtual 115, 3, (3, 129, 1), [313]) := rfl
theorem at_X6_copy_2 : ab_at mX6_copy 2 = some (.invokevirtual 111, 3, (3, 131, 1), [312]) := rfl
theorem at_X6_copy_21 : ab_at mX6_copy 21 = some (.ireturn, 1, (0, 99999, 0), []) := rfl
theorem at_X6_copy_22 : ab_at mX6_copy 22 = some (.aload_n 0, 1, (0, 99999, 0), []) := rfl
theorem at_X6_copy_23 : ab_at mX6_copy 23 = some (.getfield 47, 3, (1, 6, 17), [314]) := rfl
theorem at_X6_copy_26 : ab_at mX6_copy 26 = some (.iload_n 1, 1, (0, 99999, 0), []) := rfl
theorem at_X6_copy_27 : ab_at mX6_copy 27 = some (.iaload, 1, (0, 99999, 0), []) := rfl
theorem at_X6_copy_28 : ab_at mX6_copy 28 = some (.iconst 2, 1, (0, 99999, 0), []) := rfl
theorem at_X6_copy_29 : ab_at mX6_copy 29 = some (.if_icmp .eq 48, 3, (0, 99999, 0), []) := rfl
theorem at_X6_copy_32 : ab_at mX6_copy 32 = some (.aload_n 0, 1, (0, 99999, 0), []) := rfl
theorem at_X6_copy_33 : ab_at mX6_copy 33 = some (.getfield 47, 3, (1, 6, 17), [314]) := rfl
theorem at_X6_copy_36 : ab_at mX6_copy 36 = some (.iload_n 2, 1, (0, 99999, 0), []) := rfl
theorem at_X6_copy_37 : ab_at mX6_copy 37 = some (.iaload, 1, (0, 99999, 0), []) := rfl
theorem at_X6_copy_38 : ab_at mX6_copy 38 = some (.iconst 2, 1, (0, 99999, 0), []) := rfl
theorem at_X6_copy_39 : ab_at mX6_copy 39 = some (.if_icmp .eq 38, 3, (0, 99999, 0), []) := rfl
theorem at_X6_copy_42 : ab_at mX6_copy 42 = some (.aload_n 0, 1, (0, 99999, 0), []) := rfl
theorem at_X6_copy_43 : ab_at mX6_copy 43 = some (.getfield 47, 3, (1, 6, 17), [314]) := rfl
theorem at_X6_copy_46 : ab_at mX6_copy 46 = some (.iload_n 1, 1, (0, 99999, 0), []) := rfl
theorem at_X6_copy_47 : ab_at mX6_copy 47 = some (.iaload, 1, (0, 99999, 0), []) := rfl
theorem at_X6_copy_48 : ab_at mX6_copy 48 = some (.iconst 1, 1, (0, 99999, 0), []) := rfl
theorem at_X6_copy_49 : ab_at mX6_copy 49 = some (.if_icmp .ne 35, 3, (0, 99999, 0), []) := rfl
theorem at_X6_copy_5 : ab_at mX6_copy 5 = some (.ifCond .eq 11, 3, (0, 99999, 0), []) := rfl
theorem at_X6_copy_52 : ab_at mX6_copy 52 = some (.aload_n 0, 1, (0, 99999, 0), []) := rfl
theorem at_X6_copy_53 : ab_at mX6_copy 53 = some (.getfield 47, 3, (1, 6, 17), [314]) := rfl
theorem at_X6_copy_56 : ab_at mX6_copy 56 = some (.iload_n 2, 1, (0, 99999, 0), []) := rfl
theorem at_X6_copy_57 : ab_at mX6_copy 57 = some (.iaload, 1, (0, 99999, 0), []) := rfl
theorem at_X6_copy_58 : ab_at mX6_copy 58 = some (.iconst 1, 1, (0, 99999, 0), []) := rfl
theorem at_X6_copy_59 : ab_at mX6_copy 59 = some (.if_icmp .ne 25, 3, (0, 99999, 0), []) := rfl
theorem at_X6_copy_62 : ab_at mX6_copy 62 = some (.aload_n 0, 1, (0, 99999, 0), []) := rfl
theorem at_X6_copy_63 : ab_at mX6_copy 63 = some (.getfield 50, 3, (1, 6, 18), [315]) := rfl
theorem at_X6_copy_66 : ab_at mX6_copy 66 = some (.iload_n 1, 1, (0, 99999, 0), []) := rfl
theorem at_X6_copy_67 : ab_at mX6_copy 67 = some (.iaload, 1, (0, 99999, 0), []) := rfl
theorem at_X6_copy_68 : ab_at mX6_copy 68 = some (.aload_n 0, 1, (0, 99999, 0), []) := rfl
theorem at_X6_copy_69 : ab_at mX6_copy 69 = some (.getfield 50, 3, (1, 6, 18), [315]) := rfl
theorem at_X6_copy_72 : ab_at mX6_copy 72 = some (.iload_n 2, 1, (0, 99999, 0), []) := rfl
theorem at_X6_copy_73 : ab_at mX6_copy 73 = some (.iaload, 1, (0, 99999, 0), []) := rfl
theorem at_X6_copy_74 : ab_at mX6_copy 74 = some (.if_icmp .eq 10, 3, (0, 99999, 0), []) := rfl
theorem at_X6_copy_77 : ab_at mX6_copy 77 = some (.aload_n 0, 1, (0, 99999, 0), []) := rfl
theorem at_X6_copy_78 : ab_at mX6_copy 78 = some (.bipush (-2), 2, (0, 99999, 0), []) := rfl
theorem at_X6_copy_8 : ab_at mX6_copy 8 = some (.aload_n 0, 1, (0, 99999, 0), []) := rfl
theorem at_X6_copy_80 : ab_at mX6_copy 80 = some (.invokevirtual 115, 3, (3, 129, 1), [313]) := rfl
theorem at_X6_copy_83 : ab_at mX6_copy 83 = some (.ireturn, 1, (0, 99999, 0), []) := rfl
theorem at_X6_copy_84 : ab_at mX6_copy 84 = some (.aload_n 0, 1, (0, 99999, 0), []) := rfl
theorem at_X6_copy_85 : ab_at mX6_copy 85 = some (.getfield 47, 3, (1, 6, 17), [314]) := rfl
theorem at_X6_copy_88 : ab_at mX6_copy 88 = some (.iload_n 1, 1, (0, 99999, 0), []) := rfl
theorem at_X6_copy_89 : ab_at mX6_copy 89 = some (.iaload, 1, (0, 99999, 0), []) := rfl
theorem at_X6_copy_9 : ab_at mX6_copy 9 = some (.iload_n 2, 1, (0, 99999, 0), []) := rfl
theorem at_X6_copy_90 : ab_at mX6_copy 90 = some (.ifCond .eq 12, 3, (0, 99999, 0), []) := rfl
theorem at_X6_copy_93 : ab_at mX6_copy 93 = some (.aload_n 0, 1, (0, 99999, 0), []) := rfl
theorem at_X6_copy_94 : ab_at mX6_copy 94 = some (.getfield 47, 3, (1, 6, 17), [314]) := rfl
theorem at_X6_copy_97 : ab_at mX6_copy 97 = some (.iload_n 2, 1, (0, 99999, 0), []) := rfl
theorem at_X6_copy_98 : ab_at mX6_copy 98 = some (.iaload, 1, (0, 99999, 0), []) := rfl
theorem at_X6_copy_99 : ab_at mX6_copy 99 = some (.ifCond .ne 10, 3, (0, 99999, 0), []) := rfl
theorem at_X6_cost_0 : ab_at mX6_cost 0 = some (.aload_n 0, 1, (0, 99999, 0), []) := rfl
theorem at_X6_cost_1 : ab_at mX6_cost 1 = some (.iload_n 1, 1, (0, 99999, 0), []) := rfl
theorem at_X6_cost_17 : ab_at mX6_cost 17 = some (.aload_n 0, 1, (0, 99999, 0), []) := rfl
theorem at_X6_cost_18 : ab_at mX6_cost 18 = some (.iload_n 2, 1, (0, 99999, 0), []) := rfl
theorem at_X6_cost_19 : ab_at mX6_cost 19 = some (.iconst 1, 1, (0, 99999, 0), []) := rfl
theorem at_X6_cost_2 : ab_at mX6_cost 2 = some (.iconst 0, 1, (0, 99999, 0), []) := rfl
theorem at_X6_cost_20 : ab_at mX6_cost 20 = some (.bipush 60, 2, (0, 99999, 0), []) := rfl
theorem at_X6_cost_22 : ab_at mX6_cost 22 = some (.invokevirtual 128, 3, (3, 134, 3), [333]) := rfl
theorem at_X6_cost_25 : ab_at mX6_cost 25 = some (.ifCond .ne 10, 3, (0, 99999, 0), []) := rfl
theorem at_X6_cost_3 : ab_at mX6_cost 3 = some (.bipush 7, 2, (0, 99999, 0), []) := rfl
theorem at_X6_cost_5 : ab_at mX6_cost 5 = some (.invokevirtual 128, 3, (3, 134, 3), [333]) := rfl
theorem at_X6_cost_8 : ab_at mX6_cost 8 = some (.ifCond .ne 9, 3, (0, 99999, 0), []) := rfl
theorem at_X6_costs_0 : ab_at mX6_costs 0 = some (.aload_n 0, 1, (0, 99999, 0), []) := rfl
theorem at_X6_costs_1 : ab_at mX6_costs 1 = some (.iload_n 3, 1, (0, 99999, 0), []) := rfl
theorem at_X6_costs_11 : ab_at mX6_costs 11 = some (.iconst (-1), 1, (0, 99999, 0), []) := rfl
theorem at_X6_costs_12 : ab_at mX6_costs 12 = some (.goto 27, 3, (0, 99999, 0), []) := rfl
theorem at_X6_costs_130 : ab_at mX6_costs 130 = some (.iload 11, 2, (0, 99999, 0), []) := rfl
theorem at_X6_costs_132 : ab_at mX6_costs 132 = some (.iload_n 2, 1, (0, 99999, 0), []) := rfl
theorem at_X6_costs_133 : ab_at mX6_costs 133 = some (.if_icmp .ge 49, 3, (0, 99999, 0), []) := rfl
theorem at_X6_costs_136 : ab_at mX6_costs 136 = some (.iload 10, 2, (0, 99999, 0), []) := rfl
theorem at_X6_costs_138 : ab_at mX6_costs 138 = some (.ifCond .eq 44, 3, (0, 99999, 0), []) := rfl
theorem at_X6_costs_15 : ab_at mX6_costs 15 = some (.aload_n 0, 1, (0, 99999, 0), []) := rfl
theorem at_X6_costs_16 : ab_at mX6_costs 16 = some (.iload_n 1, 1, (0, 99999, 0), []) := rfl
theorem at_X6_costs_17 : ab_at mX6_costs 17 = some (.iload_n 2, 1, (0, 99999, 0), []) := rfl
theorem at_X6_costs_18 : ab_at mX6_costs 18 = some (.bipush 40, 2, (0, 99999, 0), []) := rfl
theorem at_X6_costs_2 : ab_at mX6_costs 2 = some (.iconst 0, 1, (0, 99999, 0), []) := rfl
theorem at_X6_costs_20 : ab_at mX6_costs 20 = some (.iload 4, 2, (0, 99999, 0), []) := rfl
theorem at_X6_costs_22 : ab_at mX6_costs 22 = some (.ifCond .eq 9, 3, (0, 99999, 0), []) := rfl
theorem at_X6_costs_25 : ab_at mX6_costs 25 = some (.iload 4, 2, (0, 99999, 0), []) := rfl
theorem at_X6_costs_27 : ab_at mX6_costs 27 = some (.iconst 1, 1, (0, 99999, 0), []) := rfl
theorem at_X6_costs_28 : ab_at mX6_costs 28 = some (.if_icmp .ne 7, 3, (0, 99999, 0), []) := rfl
theorem at_X6_costs_3 : ab_at mX6_costs 3 = some (.bipush 7, 2, (0, 99999, 0), []) := rfl
theorem at_X6_costs_31 : ab_at mX6_costs 31 = some (.iconst 1, 1, (0, 99999, 0), []) := rfl
theorem at_X6_costs_32 : ab_at mX6_costs 32 = some (.goto 4, 3, (0, 99999, 0), []) := rfl
theorem at_X6_costs_35 : ab_at mX6_costs 35 = some (.iconst 0, 1, (0, 99999, 0), []) := rfl
theorem at_X6_costs_36 : ab_at mX6_costs 36 = some (.invokevirtual 256, 3, (3, 186, 4), [397]) := rfl
theorem at_X6_costs_39 : ab_at mX6_costs 39 = some (.istore 5, 2, (0, 99999, 0), []) := rfl
theorem at_X6_costs_41 : ab_at mX6_costs 41 = some (.iconst 0, 1, (0, 99999, 0), []) := rfl
theorem at_X6_costs_42 : ab_at mX6_costs 42 = some (.istore 6, 2, (0, 99999, 0), []) := rfl
theorem at_X6_costs_44 : ab_at mX6_costs 44 = some (.iload 6, 2, (0, 99999, 0), []) := rfl
theorem at_X6_costs_46 : ab_at mX6_costs 46 = some (.iload_n 2, 1, (0, 99999, 0), []) := rfl
theorem at_X6_costs_47 : ab_at mX6_costs 47 = some (.if_icmp .ge 33, 3, (0, 99999, 0), []) := rfl
theorem at_X6_costs_5 : ab_at mX6_costs 5 = some (.invokevirtual 128, 3, (3, 134, 3), [333]) := rfl
theorem at_X6_costs_50 : ab_at mX6_costs 50 = some (.iload 5, 2, (0, 99999, 0), []) := rfl
theorem at_X6_costs_52 : ab_at mX6_costs 52 = some (.ifCond .ne 28, 3, (0, 99999, 0), []) := rfl
theorem at_X6_costs_55 : ab_at mX6_costs 55 = some (.aload_n 0, 1, (0, 99999, 0), []) := rfl
theorem at_X6_costs_56 : ab_at mX6_costs 56 = some (.aload_n 0, 1, (0, 99999, 0), []) := rfl
theorem at_X6_costs_57 : ab_at mX6_costs 57 = some (.iload_n 1, 1, (0, 99999, 0), []) := rfl
theorem at_X6_costs_58 : ab_at mX6_costs 58 = some (.iconst 2, 1, (0, 99999, 0), []) := rfl
theorem at_X6_costs_59 : ab_at mX6_costs 59 = some (.iload 6, 2, (0, 99999, 0), []) := rfl
theorem at_X6_costs_61 : ab_at mX6_costs 61 = some (.imul, 1, (0, 99999, 0), []) := rfl
theorem at_X6_costs_62 : ab_at mX6_costs 62 = some (.invokevirtual 260, 3, (3, 143, 2), [398]) := rfl
theorem at_X6_costs_65 : ab_at mX6_costs 65 = some (.invokevirtual 142, 3, (3, 133, 1), [339]) := rfl
theorem at_X6_costs_68 : ab_at mX6_costs 68 = some (.ifCond .ne 6, 3, (0, 99999, 0), []) := rfl
theorem at_X6_costs_71 : ab_at mX6_costs 71 = some (.iconst (-1), 1, (0, 99999, 0), []) := rfl
theorem at_X6_costs_72 : ab_at mX6_costs 72 = some (.istore 5, 2, (0, 99999, 0), []) := rfl
theorem at_X6_costs_74 : ab_at mX6_costs 74 = some (.iinc 6 1, 3, (0, 99999, 0), []) := rfl
theorem at_X6_costs_77 : ab_at mX6_costs 77 = some (.goto (-33), 3, (0, 99999, 0), []) := rfl
theorem at_X6_costs_8 : ab_at mX6_costs 8 = some (.ifCond .ne 7, 3, (0, 99999, 0), []) := rfl
theorem at_X6_costs_80 : ab_at mX6_costs 80 = some (.iload 5, 2, (0, 99999, 0), []) := rfl
theorem at_X6_costs_82 : ab_at mX6_costs 82 = some (.ifCond .eq 10, 3, (0, 99999, 0), []) := rfl
theorem at_X6_costs_85 : ab_at mX6_costs 85 = some (.aload_n 0, 1, (0, 99999, 0), []) := rfl
theorem at_X6_costs_86 : ab_at mX6_costs 86 = some (.iload 5, 2, (0, 99999, 0), []) := rfl
theorem at_X6_costs_88 : ab_at mX6_costs 88 = some (.invokevirtual 216, 3, (3, 130, 1), [377]) := rfl
theorem at_X6_costs_91 : ab_at mX6_costs 91 = some (.ireturn, 1, (0, 99999, 0), []) := rfl
theorem at_X6_day_0 : ab_at mX6_day 0 = some (.aload_n 0, 1, (0, 99999, 0), []) := rfl
theorem at_X6_day_1 : ab_at mX6_day 1 = some (.dup, 1, (0, 99999, 0), []) := rfl
theorem at_X6_day_10 : ab_at mX6_day 10 = some (.aload_n 0, 1, (0, 99999, 0), []) := rfl
theorem at_X6_day_100 : ab_at mX6_day 100 = some (.getfield 105, 3, (1, 6, 0), [310]) := rfl
theorem at_X6_day_103 : ab_at mX6_day 103 = some (.ifCond .le 30, 3, (0, 99999, 0), []) := rfl
theorem at_X6_day_106 : ab_at mX6_day 106 = some (.aload_n 0, 1, (0, 99999, 0), []) := rfl
theorem at_X6_day_107 : ab_at mX6_day 107 = some (.aload_n 0, 1, (0, 99999, 0), []) := rfl
theorem at_X6_day_108 : ab_at mX6_day 108 = some (.getfield 105, 3, (1, 6, 0), [310]) := rfl
theorem at_X6_day_11 : ab_at mX6_day 11 = some (.aload_n 0, 1, (0, 99999, 0), []) := rfl
theorem at_X6_day_111 : ab_at mX6_day 111 = some (.invokevirtual 282, 3, (3, 199, 1), [409]) := rfl
theorem at_X6_day_114 : ab_at mX6_day 114 = some (.istore_n 2, 1, (0, 99999, 0), []) := rfl
theorem at_X6_day_115 : ab_at mX6_day 115 = some (.aload_n 0, 1, (0, 99999, 0), []) := rfl
theorem at_X6_day_116 : ab_at mX6_day 116 = some (.getfield 29, 3, (1, 6, 11), [326]) := rfl
theorem at_X6_day_119 : ab_at mX6_day 119 = some (.iload_n 2, 1, (0, 99999, 0), []) := rfl
theorem at_X6_day_12 : ab_at mX6_day 12 = some (.getfield 108, 3, (1, 6, 1), [311]) := rfl
theorem at_X6_day_120 : ab_at mX6_day 120 = some (.iaload, 1, (0, 99999, 0), []) := rfl
theorem at_X6_day_121 : ab_at mX6_day 121 = some (.iload_n 1, 1, (0, 99999, 0), []) := rfl
theorem at_X6_day_122 : ab_at mX6_day 122 = some (.if_icmp .ne 11, 3, (0, 99999, 0), []) := rfl
theorem at_X6_day_133 : ab_at mX6_day 133 = some (.return_, 1, (0, 99999, 0), []) := rfl
theorem at_X6_day_15 : ab_at mX6_day 15 = some (.invokevirtual 282, 3, (3, 199, 1), [409]) := rfl
theorem at_X6_day_18 : ab_at mX6_day 18 = some (.istore_n 1, 1, (0, 99999, 0), []) := rfl
theorem at_X6_day_19 : ab_at mX6_day 19 = some (.aload_n 0, 1, (0, 99999, 0), []) := rfl
theorem at_X6_day_2 : ab_at mX6_day 2 = some (.getfield 191, 3, (1, 6, 4), [362]) := rfl
theorem at_X6_day_20 : ab_at mX6_day 20 = some (.getfield 32, 3, (1, 6, 12), [328]) := rfl
theorem at_X6_day_23 : ab_at mX6_day 23 = some (.iload_n 1, 1, (0, 99999, 0), []) := rfl
theorem at_X6_day_24 : ab_at mX6_day 24 = some (.dup2, 1, (0, 99999, 0), []) := rfl
theorem at_X6_day_25 : ab_at mX6_day 25 = some (.iaload, 1, (0, 99999, 0), []) := rfl
theorem at_X6_day_26 : ab_at mX6_day 26 = some (.aload_n 0, 1, (0, 99999, 0), []) := rfl
theorem at_X6_day_27 : ab_at mX6_day 27 = some (.bipush 20, 2, (0, 99999, 0), []) := rfl
theorem at_X6_day_29 : ab_at mX6_day 29 = some (.invokevirtual 282, 3, (3, 199, 1), [409]) := rfl
theorem at_X6_day_32 : ab_at mX6_day 32 = some (.iadd, 1, (0, 99999, 0), []) := rfl
theorem at_X6_day_33 : ab_at mX6_day 33 = some (.iastore, 1, (0, 99999, 0), []) := rfl
theorem at_X6_day_34 : ab_at mX6_day 34 = some (.aload_n 0, 1, (0, 99999, 0), []) := rfl
theorem at_X6_day_35 : ab_at mX6_day 35 = some (.getfield 32, 3, (1, 6, 12), [328]) := rfl
theorem at_X6_day_38 : ab_at mX6_day 38 = some (.iload_n 1, 1, (0, 99999, 0), []) := rfl
theorem at_X6_day_39 : ab_at mX6_day 39 = some (.iaload, 1, (0, 99999, 0), []) := rfl
theorem at_X6_day_40 : ab_at mX6_day 40 = some (.bipush 99, 2, (0, 99999, 0), []) := rfl
theorem at_X6_day_42 : ab_at mX6_day 42 = some (.if_icmp .le 11, 3, (0, 99999, 0), []) := rfl
theorem at_X6_day_45 : ab_at mX6_day 45 = some (.aload_n 0, 1, (0, 99999, 0), []) := rfl
theorem at_X6_day_46 : ab_at mX6_day 46 = some (.getfield 32, 3, (1, 6, 12), [328]) := rfl
theorem at_X6_day_49 : ab_at mX6_day 49 = some (.iload_n 1, 1, (0, 99999, 0), []) := rfl
theorem at_X6_day_5 : ab_at mX6_day 5 = some (.iconst 1, 1, (0, 99999, 0), []) := rfl
theorem at_X6_day_50 : ab_at mX6_day 50 = some (.bipush 99, 2, (0, 99999, 0), []) := rfl
theorem at_X6_day_52 : ab_at mX6_day 52 = some (.iastore, 1, (0, 99999, 0), []) := rfl
theorem at_X6_day_53 : ab_at mX6_day 53 = some (.aload_n 0, 1, (0, 99999, 0), []) := rfl
theorem at_X6_day_54 : ab_at mX6_day 54 = some (.getfield 38, 3, (1, 6, 14), [330]) := rfl
theorem at_X6_day_57 : ab_at mX6_day 57 = some (.iload_n 1, 1, (0, 99999, 0), []) := rfl
theorem at_X6_day_58 : ab_at mX6_day 58 = some (.aload_n 0, 1, (0, 99999, 0), []) := rfl
theorem at_X6_day_59 : ab_at mX6_day 59 = some (.bipush 8, 2, (0, 99999, 0), []) := rfl
theorem at_X6_day_6 : ab_at mX6_day 6 = some (.iadd, 1, (0, 99999, 0), []) := rfl
theorem at_X6_day_61 : ab_at mX6_day 61 = some (.invokevirtual 282, 3, (3, 199, 1), [409]) := rfl
theorem at_X6_day_64 : ab_at mX6_day 64 = some (.iastore, 1, (0, 99999, 0), []) := rfl
theorem at_X6_day_65 : ab_at mX6_day 65 = some (.aload_n 0, 1, (0, 99999, 0), []) := rfl
theorem at_X6_day_66 : ab_at mX6_day 66 = some (.iload_n 1, 1, (0, 99999, 0), []) := rfl
theorem at_X6_day_67 : ab_at mX6_day 67 = some (.invokevirtual 239, 3, (3, 177, 1), [386]) := rfl
theorem at_X6_day_7 : ab_at mX6_day 7 = some (.putfield 191, 3, (1, 6, 4), [360]) := rfl
theorem at_X6_day_70 : ab_at mX6_day 70 = some (.aload_n 0, 1, (0, 99999, 0), []) := rfl
theorem at_X6_day_71 : ab_at mX6_day 71 = some (.getfield 230, 3, (1, 6, 36), [384]) := rfl
theorem at_X6_day_74 : ab_at mX6_day 74 = some (.iconst (-1), 1, (0, 99999, 0), []) := rfl
theorem at_X6_day_75 : ab_at mX6_day 75 = some (.if_icmp .eq 24, 3, (0, 99999, 0), []) := rfl
theorem at_X6_day_99 : ab_at mX6_day 99 = some (.aload_n 0, 1, (0, 99999, 0), []) := rfl
theorem at_X6_days_0 : ab_at mX6_days 0 = some (.aload_n 0, 1, (0, 99999, 0), []) := rfl
theorem at_X6_days_1 : ab_at mX6_days 1 = some (.getfield 108, 3, (1, 6, 1), [311]) := rfl
theorem at_X6_days_14 : ab_at mX6_days 14 = some (.aload_n 0, 1, (0, 99999, 0), []) := rfl
theorem at_X6_days_15 : ab_at mX6_days 15 = some (.iload_n 1, 1, (0, 99999, 0), []) := rfl
theorem at_X6_days_16 : ab_at mX6_days 16 = some (.iconst 1, 1, (0, 99999, 0), []) := rfl
theorem at_X6_days_17 : ab_at mX6_days 17 = some (.bipush 40, 2, (0, 99999, 0), []) := rfl
theorem at_X6_days_19 : ab_at mX6_days 19 = some (.invokevirtual 128, 3, (3, 134, 3), [333]) := rfl
theorem at_X6_days_22 : ab_at mX6_days 22 = some (.ifCond .ne 10, 3, (0, 99999, 0), []) := rfl
theorem at_X6_days_4 : ab_at mX6_days 4 = some (.ifCond .ne 10, 3, (0, 99999, 0), []) := rfl
theorem at_X6_dear_0 : ab_at mX6_dear 0 = some (.iload_n 1, 1, (0, 99999, 0), []) := rfl
theorem at_X6_dear_1 : ab_at mX6_dear 1 = some (.ifCond .lt 8, 3, (0, 99999, 0), []) := rfl
theorem at_X6_dear_4 : ab_at mX6_dear 4 = some (.iload_n 1, 1, (0, 99999, 0), []) := rfl
theorem at_X6_dear_40 : ab_at mX6_dear 40 = some (.iload_n 3, 1, (0, 99999, 0), []) := rfl
theorem at_X6_dear_41 : ab_at mX6_dear 41 = some (.bipush 7, 2, (0, 99999, 0), []) := rfl
theorem at_X6_dear_43 : ab_at mX6_dear 43 = some (.if_icmp .gt 32, 3, (0, 99999, 0), []) := rfl
theorem at_X6_dear_5 : ab_at mX6_dear 5 = some (.iconst 1, 1, (0, 99999, 0), []) := rfl
theorem at_X6_dear_6 : ab_at mX6_dear 6 = some (.if_icmp .le 10, 3, (0, 99999, 0), []) := rfl
theorem at_X6_dearest_14 : ab_at mX6_dearest 14 = some (.iload 4, 2, (0, 99999, 0), []) := rfl
theorem at_X6_dearest_16 : ab_at mX6_dearest 16 = some (.aload_n 0, 1, (0, 99999, 0), []) := rfl
theorem at_X6_dearest_17 : ab_at mX6_dearest 17 = some (.getfield 105, 3, (1, 6, 0), [310]) := rfl
theorem at_X6_dearest_20 : ab_at mX6_dearest 20 = some (.if_icmp .ge 58, 3, (0, 99999, 0), []) := rfl
theorem at_X6_dearest_23 : ab_at mX6_dearest 23 = some (.iload_n 1, 1, (0, 99999, 0), []) := rfl
theorem at_X6_dearest_24 : ab_at mX6_dearest 24 = some (.iload 4, 2, (0, 99999, 0), []) := rfl
theorem at_X6_dearest_26 : ab_at mX6_dearest 26 = some (.ishr, 1, (0, 99999, 0), []) := rfl
theorem at_X6_dearest_27 : ab_at mX6_dearest 27 = some (.iconst 1, 1, (0, 99999, 0), []) := rfl
theorem at_X6_dearest_28 : ab_at mX6_dearest 28 = some (.iand, 1, (0, 99999, 0), []) := rfl
theorem at_X6_dearest_29 : ab_at mX6_dearest 29 = some (.ifCond .ne 6, 3, (0, 99999, 0), []) := rfl
theorem at_X6_dearest_72 : ab_at mX6_dearest 72 = some (.iinc 4 1, 3, (0, 99999, 0), []) := rfl
theorem at_X6_dearest_75 : ab_at mX6_dearest 75 = some (.goto (-61), 3, (0, 99999, 0), []) := rfl
theorem at_X6_done_0 : ab_at mX6_done 0 = some (.aload_n 0, 1, (0, 99999, 0), []) := rfl
theorem at_X6_done_1 : ab_at mX6_done 1 = some (.iload_n 1, 1, (0, 99999, 0), []) := rfl
theorem at_X6_done_10 : ab_at mX6_done 10 = some (.iload_n 3, 1, (0, 99999, 0), []) := rfl
theorem at_X6_done_11 : ab_at mX6_done 11 = some (.ifCond .eq 9, 3, (0, 99999, 0), []) := rfl
theorem at_X6_done_14 : ab_at mX6_done 14 = some (.aload_n 0, 1, (0, 99999, 0), []) := rfl
theorem at_X6_done_15 : ab_at mX6_done 15 = some (.iload_n 3, 1, (0, 99999, 0), []) := rfl
theorem at_X6_done_16 : ab_at mX6_done 16 = some (.invokevirtual 115, 3, (3, 129, 1), [313]) := rfl
theorem at_X6_done_19 : ab_at mX6_done 19 = some (.ireturn, 1, (0, 99999, 0), []) := rfl
theorem at_X6_done_2 : ab_at mX6_done 2 = some (.iload_n 2, 1, (0, 99999, 0), []) := rfl
theorem at_X6_done_3 : ab_at mX6_done 3 = some (.bipush 20, 2, (0, 99999, 0), []) := rfl
theorem at_X6_done_5 : ab_at mX6_done 5 = some (.iconst 1, 1, (0, 99999, 0), []) := rfl
theorem at_X6_done_6 : ab_at mX6_done 6 = some (.invokevirtual 256, 3, (3, 186, 4), [397]) := rfl
theorem at_X6_done_9 : ab_at mX6_done 9 = some (.istore_n 3, 1, (0, 99999, 0), []) := rfl
theorem at_X6_element_0 : ab_at mX6_element 0 = some (.aload_n 0, 1, (0, 99999, 0), []) := rfl
theorem at_X6_element_1 : ab_at mX6_element 1 = some (.iload_n 1, 1, (0, 99999, 0), []) := rfl
theorem at_X6_element_12 : ab_at mX6_element 12 = some (.iload_n 1, 1, (0, 99999, 0), []) := rfl
theorem at_X6_element_13 : ab_at mX6_element 13 = some (.iaload, 1, (0, 99999, 0), []) := rfl
theorem at_X6_element_14 : ab_at mX6_element 14 = some (.iconst 1, 1, (0, 99999, 0), []) := rfl
theorem at_X6_element_15 : ab_at mX6_element 15 = some (.if_icmp .ne 32, 3, (0, 99999, 0), []) := rfl
theorem at_X6_element_2 : ab_at mX6_element 2 = some (.invokevirtual 111, 3, (3, 131, 1), [312]) := rfl
theorem at_X6_element_47 : ab_at mX6_element 47 = some (.lconst 0, 1, (0, 99999, 0), []) := rfl
theorem at_X6_element_48 : ab_at mX6_element 48 = some (.lreturn, 1, (0, 99999, 0), []) := rfl
theorem at_X6_element_5 : ab_at mX6_element 5 = some (.ifCond .eq 42, 3, (0, 99999, 0), []) := rfl
theorem at_X6_element_8 : ab_at mX6_element 8 = some (.aload_n 0, 1, (0, 99999, 0), []) := rfl
theorem at_X6_element_9 : ab_at mX6_element 9 = some (.getfield 47, 3, (1, 6, 17), [314]) := rfl
theorem at_X6_fails_0 : ab_at mX6_fails 0 = some (.iload_n 1, 1, (0, 99999, 0), []) := rfl
theorem at_X6_fails_1 : ab_at mX6_fails 1 = some (.ifCond .lt 8, 3, (0, 99999, 0), []) := rfl
theorem at_X6_fails_28 : ab_at mX6_fails 28 = some (.iload_n 2, 1, (0, 99999, 0), []) := rfl
theorem at_X6_fails_29 : ab_at mX6_fails 29 = some (.bipush 100, 2, (0, 99999, 0), []) := rfl
theorem at_X6_fails_31 : ab_at mX6_fails 31 = some (.if_icmp .ge 65, 3, (0, 99999, 0), []) := rfl
theorem at_X6_fails_34 : ab_at mX6_fails 34 = some (.aload_n 0, 1, (0, 99999, 0), []) := rfl
theorem at_X6_fails_35 : ab_at mX6_fails 35 = some (.getfield 87, 3, (1, 6, 35), [372]) := rfl
theorem at_X6_fails_38 : ab_at mX6_fails 38 = some (.iload_n 2, 1, (0, 99999, 0), []) := rfl
theorem at_X6_fails_39 : ab_at mX6_fails 39 = some (.iaload, 1, (0, 99999, 0), []) := rfl
theorem at_X6_fails_40 : ab_at mX6_fails 40 = some (.iconst (-1), 1, (0, 99999, 0), []) := rfl
theorem at_X6_fails_41 : ab_at mX6_fails 41 = some (.if_icmp .ne 6, 3, (0, 99999, 0), []) := rfl
theorem at_X6_fails_47 : ab_at mX6_fails 47 = some (.aload_n 0, 1, (0, 99999, 0), []) := rfl
theorem at_X6_fails_48 : ab_at mX6_fails 48 = some (.iload_n 2, 1, (0, 99999, 0), []) := rfl
theorem at_X6_fails_49 : ab_at mX6_fails 49 = some (.invokevirtual 213, 3, (3, 171, 1), [376]) := rfl
theorem at_X6_fails_52 : ab_at mX6_fails 52 = some (.istore_n 3, 1, (0, 99999, 0), []) := rfl
theorem at_X6_fails_53 : ab_at mX6_fails 53 = some (.iload_n 1, 1, (0, 99999, 0), []) := rfl
theorem at_X6_fails_54 : ab_at mX6_fails 54 = some (.ifCond .ne 11, 3, (0, 99999, 0), []) := rfl
theorem at_X6_fails_90 : ab_at mX6_fails 90 = some (.iinc 2 1, 3, (0, 99999, 0), []) := rfl
theorem at_X6_fails_93 : ab_at mX6_fails 93 = some (.goto (-65), 3, (0, 99999, 0), []) := rfl
theorem at_X6_falling_0 : ab_at mX6_falling 0 = some (.aload_n 0, 1, (0, 99999, 0), []) := rfl
theorem at_X6_falling_1 : ab_at mX6_falling 1 = some (.getfield 20, 3, (1, 6, 8), [321]) := rfl
theorem at_X6_falling_10 : ab_at mX6_falling 10 = some (.iload_n 3, 1, (0, 99999, 0), []) := rfl
theorem at_X6_falling_101 : ab_at mX6_falling 101 = some (.iload 4, 2, (0, 99999, 0), []) := rfl
theorem at_X6_falling_103 : ab_at mX6_falling 103 = some (.iload_n 1, 1, (0, 99999, 0), []) := rfl
theorem at_X6_falling_104 : ab_at mX6_falling 104 = some (.iadd, 1, (0, 99999, 0), []) := rfl
theorem at_X6_falling_105 : ab_at mX6_falling 105 = some (.istore 7, 2, (0, 99999, 0), []) := rfl
theorem at_X6_falling_107 : ab_at mX6_falling 107 = some (.iload 5, 2, (0, 99999, 0), []) := rfl
theorem at_X6_falling_109 : ab_at mX6_falling 109 = some (.ifCond .eq 14, 3, (0, 99999, 0), []) := rfl
theorem at_X6_falling_11 : ab_at mX6_falling 11 = some (.iconst 1, 1, (0, 99999, 0), []) := rfl
theorem at_X6_falling_112 : ab_at mX6_falling 112 = some (.iload 7, 2, (0, 99999, 0), []) := rfl
theorem at_X6_falling_114 : ab_at mX6_falling 114 = some (.aload_n 0, 1, (0, 99999, 0), []) := rfl
theorem at_X6_falling_115 : ab_at mX6_falling 115 = some (.getfield 23, 3, (1, 6, 9), [325]) := rfl
theorem at_X6_falling_118 : ab_at mX6_falling 118 = some (.iload_n 1, 1, (0, 99999, 0), []) := rfl
theorem at_X6_falling_119 : ab_at mX6_falling 119 = some (.iaload, 1, (0, 99999, 0), []) := rfl
theorem at_X6_falling_12 : ab_at mX6_falling 12 = some (.if_icmp .eq 8, 3, (0, 99999, 0), []) := rfl
theorem at_X6_falling_120 : ab_at mX6_falling 120 = some (.iadd, 1, (0, 99999, 0), []) := rfl
theorem at_X6_falling_121 : ab_at mX6_falling 121 = some (.istore 7, 2, (0, 99999, 0), []) := rfl
theorem at_X6_falling_123 : ab_at mX6_falling 123 = some (.iload 6, 2, (0, 99999, 0), []) := rfl
theorem at_X6_falling_125 : ab_at mX6_falling 125 = some (.ifCond .eq 9, 3, (0, 99999, 0), []) := rfl
theorem at_X6_falling_128 : ab_at mX6_falling 128 = some (.iload 7, 2, (0, 99999, 0), []) := rfl
theorem at_X6_falling_130 : ab_at mX6_falling 130 = some (.iload_n 1, 1, (0, 99999, 0), []) := rfl
theorem at_X6_falling_131 : ab_at mX6_falling 131 = some (.isub, 1, (0, 99999, 0), []) := rfl
theorem at_X6_falling_132 : ab_at mX6_falling 132 = some (.istore 7, 2, (0, 99999, 0), []) := rfl
theorem at_X6_falling_134 : ab_at mX6_falling 134 = some (.iload_n 3, 1, (0, 99999, 0), []) := rfl
theorem at_X6_falling_135 : ab_at mX6_falling 135 = some (.bipush 6, 2, (0, 99999, 0), []) := rfl
theorem at_X6_falling_137 : ab_at mX6_falling 137 = some (.if_icmp .ne 10, 3, (0, 99999, 0), []) := rfl
theorem at_X6_falling_140 : ab_at mX6_falling 140 = some (.iload 7, 2, (0, 99999, 0), []) := rfl
theorem at_X6_falling_142 : ab_at mX6_falling 142 = some (.iconst 2, 1, (0, 99999, 0), []) := rfl
theorem at_X6_falling_143 : ab_at mX6_falling 143 = some (.imul, 1, (0, 99999, 0), []) := rfl
theorem at_X6_falling_144 : ab_at mX6_falling 144 = some (.goto 5, 3, (0, 99999, 0), []) := rfl
theorem at_X6_falling_147 : ab_at mX6_falling 147 = some (.iload 7, 2, (0, 99999, 0), []) := rfl
theorem at_X6_falling_149 : ab_at mX6_falling 149 = some (.ireturn, 1, (0, 99999, 0), []) := rfl
theorem at_X6_falling_15 : ab_at mX6_falling 15 = some (.iload_n 3, 1, (0, 99999, 0), []) := rfl
theorem at_X6_falling_16 : ab_at mX6_falling 16 = some (.iconst 3, 1, (0, 99999, 0), []) := rfl
theorem at_X6_falling_17 : ab_at mX6_falling 17 = some (.if_icmp .ne 7, 3, (0, 99999, 0), []) := rfl
theorem at_X6_falling_20 : ab_at mX6_falling 20 = some (.iconst 1, 1, (0, 99999, 0), []) := rfl
theorem at_X6_falling_21 : ab_at mX6_falling 21 = some (.goto 4, 3, (0, 99999, 0), []) := rfl
theorem at_X6_falling_24 : ab_at mX6_falling 24 = some (.iconst 0, 1, (0, 99999, 0), []) := rfl
theorem at_X6_falling_25 : ab_at mX6_falling 25 = some (.istore 5, 2, (0, 99999, 0), []) := rfl
theorem at_X6_falling_27 : ab_at mX6_falling 27 = some (.iload_n 3, 1, (0, 99999, 0), []) := rfl
theorem at_X6_falling_28 : ab_at mX6_falling 28 = some (.iconst 4, 1, (0, 99999, 0), []) := rfl
theorem at_X6_falling_29 : ab_at mX6_falling 29 = some (.if_icmp .eq 9, 3, (0, 99999, 0), []) := rfl
theorem at_X6_falling_32 : ab_at mX6_falling 32 = some (.iload_n 3, 1, (0, 99999, 0), []) := rfl
theorem at_X6_falling_33 : ab_at mX6_falling 33 = some (.bipush 6, 2, (0, 99999, 0), []) := rfl
theorem at_X6_falling_35 : ab_at mX6_falling 35 = some (.if_icmp .ne 7, 3, (0, 99999, 0), []) := rfl
theorem at_X6_falling_38 : ab_at mX6_falling 38 = some (.iconst 1, 1, (0, 99999, 0), []) := rfl
theorem at_X6_falling_39 : ab_at mX6_falling 39 = some (.goto 4, 3, (0, 99999, 0), []) := rfl
theorem at_X6_falling_4 : ab_at mX6_falling 4 = some (.iload_n 1, 1, (0, 99999, 0), []) := rfl
theorem at_X6_falling_42 : ab_at mX6_falling 42 = some (.iconst 0, 1, (0, 99999, 0), []) := rfl
theorem at_X6_falling_43 : ab_at mX6_falling 43 = some (.istore 6, 2, (0, 99999, 0), []) := rfl
theorem at_X6_falling_45 : ab_at mX6_falling 45 = some (.iload_n 3, 1, (0, 99999, 0), []) := rfl
theorem at_X6_falling_46 : ab_at mX6_falling 46 = some (.bipush 6, 2, (0, 99999, 0), []) := rfl
theorem at_X6_falling_48 : ab_at mX6_falling 48 = some (.if_icmp .ne 9, 3, (0, 99999, 0), []) := rfl
theorem at_X6_falling_5 : ab_at mX6_falling 5 = some (.iaload, 1, (0, 99999, 0), []) := rfl
theorem at_X6_falling_51 : ab_at mX6_falling 51 = some (.aload_n 0, 1, (0, 99999, 0), []) := rfl
theorem at_X6_falling_52 : ab_at mX6_falling 52 = some (.bipush 70, 2, (0, 99999, 0), []) := rfl
theorem at_X6_falling_54 : ab_at mX6_falling 54 = some (.invokevirtual 294, 3, (3, 204, 1), [415]) := rfl
theorem at_X6_falling_57 : ab_at mX6_falling 57 = some (.iload_n 3, 1, (0, 99999, 0), []) := rfl
theorem at_X6_falling_58 : ab_at mX6_falling 58 = some (.iconst 3, 1, (0, 99999, 0), []) := rfl
theorem at_X6_falling_59 : ab_at mX6_falling 59 = some (.if_icmp .ne 14, 3, (0, 99999, 0), []) := rfl
theorem at_X6_falling_6 : ab_at mX6_falling 6 = some (.istore_n 3, 1, (0, 99999, 0), []) := rfl
theorem at_X6_falling_62 : ab_at mX6_falling 62 = some (.aload_n 0, 1, (0, 99999, 0), []) := rfl
theorem at_X6_falling_63 : ab_at mX6_falling 63 = some (.bipush 40, 2, (0, 99999, 0), []) := rfl
theorem at_X6_falling_65 : ab_at mX6_falling 65 = some (.invokevirtual 294, 3, (3, 204, 1), [415]) := rfl
theorem at_X6_falling_68 : ab_at mX6_falling 68 = some (.iload_n 2, 1, (0, 99999, 0), []) := rfl
theorem at_X6_falling_69 : ab_at mX6_falling 69 = some (.iconst 1, 1, (0, 99999, 0), []) := rfl
theorem at_X6_falling_7 : ab_at mX6_falling 7 = some (.iload_n 2, 1, (0, 99999, 0), []) := rfl
theorem at_X6_falling_70 : ab_at mX6_falling 70 = some (.iadd, 1, (0, 99999, 0), []) := rfl
theorem at_X6_falling_71 : ab_at mX6_falling 71 = some (.istore 4, 2, (0, 99999, 0), []) := rfl
theorem at_X6_falling_73 : ab_at mX6_falling 73 = some (.iload 5, 2, (0, 99999, 0), []) := rfl
theorem at_X6_falling_75 : ab_at mX6_falling 75 = some (.ifCond .eq 9, 3, (0, 99999, 0), []) := rfl
theorem at_X6_falling_78 : ab_at mX6_falling 78 = some (.aload_n 0, 1, (0, 99999, 0), []) := rfl
theorem at_X6_falling_79 : ab_at mX6_falling 79 = some (.bipush 20, 2, (0, 99999, 0), []) := rfl
theorem at_X6_falling_8 : ab_at mX6_falling 8 = some (.istore 4, 2, (0, 99999, 0), []) := rfl
theorem at_X6_falling_81 : ab_at mX6_falling 81 = some (.invokevirtual 294, 3, (3, 204, 1), [415]) := rfl
theorem at_X6_falling_84 : ab_at mX6_falling 84 = some (.iload 6, 2, (0, 99999, 0), []) := rfl
theorem at_X6_falling_86 : ab_at mX6_falling 86 = some (.ifCond .eq 9, 3, (0, 99999, 0), []) := rfl
theorem at_X6_falling_89 : ab_at mX6_falling 89 = some (.aload_n 0, 1, (0, 99999, 0), []) := rfl
theorem at_X6_falling_90 : ab_at mX6_falling 90 = some (.bipush 51, 2, (0, 99999, 0), []) := rfl
theorem at_X6_falling_92 : ab_at mX6_falling 92 = some (.invokevirtual 294, 3, (3, 204, 1), [415]) := rfl
theorem at_X6_falling_95 : ab_at mX6_falling 95 = some (.aload_n 0, 1, (0, 99999, 0), []) := rfl
theorem at_X6_falling_96 : ab_at mX6_falling 96 = some (.bipush 10, 2, (0, 99999, 0), []) := rfl
theorem at_X6_falling_98 : ab_at mX6_falling 98 = some (.invokevirtual 294, 3, (3, 204, 1), [415]) := rfl
theorem at_X6_goes_17 : ab_at mX6_goes 17 = some (.iload_n 3, 1, (0, 99999, 0), []) := rfl
theorem at_X6_goes_18 : ab_at mX6_goes 18 = some (.iload_n 2, 1, (0, 99999, 0), []) := rfl
theorem at_X6_goes_19 : ab_at mX6_goes 19 = some (.if_icmp .ge 130, 3, (0, 99999, 0), []) := rfl
theorem at_X6_goes_22 : ab_at mX6_goes 22 = some (.aload_n 0, 1, (0, 99999, 0), []) := rfl
theorem at_X6_goes_23 : ab_at mX6_goes 23 = some (.iload_n 1, 1, (0, 99999, 0), []) := rfl
theorem at_X6_goes_24 : ab_at mX6_goes 24 = some (.iconst 2, 1, (0, 99999, 0), []) := rfl
theorem at_X6_goes_25 : ab_at mX6_goes 25 = some (.iload_n 3, 1, (0, 99999, 0), []) := rfl
theorem at_X6_goes_26 : ab_at mX6_goes 26 = some (.imul, 1, (0, 99999, 0), []) := rfl
theorem at_X6_goes_27 : ab_at mX6_goes 27 = some (.invokevirtual 260, 3, (3, 143, 2), [398]) := rfl
theorem at_X6_goes_30 : ab_at mX6_goes 30 = some (.istore 4, 2, (0, 99999, 0), []) := rfl
theorem at_X6_goes_32 : ab_at mX6_goes 32 = some (.aload_n 0, 1, (0, 99999, 0), []) := rfl
theorem at_X6_goes_33 : ab_at mX6_goes 33 = some (.iload_n 1, 1, (0, 99999, 0), []) := rfl
theorem at_X6_goes_34 : ab_at mX6_goes 34 = some (.iconst 2, 1, (0, 99999, 0), []) := rfl
theorem at_X6_goes_35 : ab_at mX6_goes 35 = some (.iload_n 3, 1, (0, 99999, 0), []) := rfl
theorem at_X6_goes_36 : ab_at mX6_goes 36 = some (.imul, 1, (0, 99999, 0), []) := rfl
theorem at_X6_goes_37 : ab_at mX6_goes 37 = some (.iconst 1, 1, (0, 99999, 0), []) := rfl
theorem at_X6_goes_38 : ab_at mX6_goes 38 = some (.iadd, 1, (0, 99999, 0), []) := rfl
theorem at_X6_goes_39 : ab_at mX6_goes 39 = some (.invokevirtual 260, 3, (3, 143, 2), [398]) := rfl
theorem at_X6_goes_42 : ab_at mX6_goes 42 = some (.istore 5, 2, (0, 99999, 0), []) := rfl
theorem at_X6_goes_44 : ab_at mX6_goes 44 = some (.aload_n 0, 1, (0, 99999, 0), []) := rfl
theorem at_X6_goes_45 : ab_at mX6_goes 45 = some (.aload_n 0, 1, (0, 99999, 0), []) := rfl
theorem at_X6_goes_46 : ab_at mX6_goes 46 = some (.bipush 99, 2, (0, 99999, 0), []) := rfl
theorem at_X6_goes_48 : ab_at mX6_goes 48 = some (.invokevirtual 145, 3, (3, 153, 1), [340]) := rfl
theorem at_X6_goes_51 : ab_at mX6_goes 51 = some (.invokevirtual 219, 3, (3, 170, 1), [378]) := rfl
theorem at_X6_goes_54 : ab_at mX6_goes 54 = some (.aload_n 0, 1, (0, 99999, 0), []) := rfl
theorem at_X6_goes_55 : ab_at mX6_goes 55 = some (.iload 4, 2, (0, 99999, 0), []) := rfl
theorem at_X6_goes_57 : ab_at mX6_goes 57 = some (.invokevirtual 142, 3, (3, 133, 1), [339]) := rfl
theorem at_X6_goes_60 : ab_at mX6_goes 60 = some (.ifCond .eq 26, 3, (0, 99999, 0), []) := rfl
theorem at_X6_goes_63 : ab_at mX6_goes 63 = some (.aload_n 0, 1, (0, 99999, 0), []) := rfl
theorem at_X6_goes_64 : ab_at mX6_goes 64 = some (.iload 5, 2, (0, 99999, 0), []) := rfl
theorem at_X6_goes_66 : ab_at mX6_goes 66 = some (.iconst 0, 1, (0, 99999, 0), []) := rfl
theorem at_X6_goes_67 : ab_at mX6_goes 67 = some (.bipush 99, 2, (0, 99999, 0), []) := rfl
theorem at_X6_goes_69 : ab_at mX6_goes 69 = some (.invokevirtual 128, 3, (3, 134, 3), [333]) := rfl
theorem at_X6_goes_72 : ab_at mX6_goes 72 = some (.ifCond .eq 14, 3, (0, 99999, 0), []) := rfl
theorem at_X6_goes_75 : ab_at mX6_goes 75 = some (.aload_n 0, 1, (0, 99999, 0), []) := rfl
theorem at_X6_goes_76 : ab_at mX6_goes 76 = some (.iload 4, 2, (0, 99999, 0), []) := rfl
theorem at_X6_goes_78 : ab_at mX6_goes 78 = some (.iload 5, 2, (0, 99999, 0), []) := rfl
theorem at_X6_goes_80 : ab_at mX6_goes 80 = some (.invokevirtual 236, 3, (3, 176, 2), [383]) := rfl
theorem at_X6_goes_83 : ab_at mX6_goes 83 = some (.goto 4, 3, (0, 99999, 0), []) := rfl
theorem at_X6_goes_86 : ab_at mX6_goes 86 = some (.iconst (-1), 1, (0, 99999, 0), []) := rfl
theorem at_X6_goes_87 : ab_at mX6_goes 87 = some (.istore 6, 2, (0, 99999, 0), []) := rfl
theorem at_X6_goes_89 : ab_at mX6_goes 89 = some (.iload 6, 2, (0, 99999, 0), []) := rfl
theorem at_X6_goes_91 : ab_at mX6_goes 91 = some (.iconst (-1), 1, (0, 99999, 0), []) := rfl
theorem at_X6_goes_92 : ab_at mX6_goes 92 = some (.if_icmp .ne 5, 3, (0, 99999, 0), []) := rfl
theorem at_X6_goes_95 : ab_at mX6_goes 95 = some (.iload_n 3, 1, (0, 99999, 0), []) := rfl
theorem at_X6_goes_96 : ab_at mX6_goes 96 = some (.ireturn, 1, (0, 99999, 0), []) := rfl
theorem at_X6_harm_0 : ab_at mX6_harm 0 = some (.aload_n 0, 1, (0, 99999, 0), []) := rfl
theorem at_X6_harm_1 : ab_at mX6_harm 1 = some (.iload_n 1, 1, (0, 99999, 0), []) := rfl
theorem at_X6_harm_10 : ab_at mX6_harm 10 = some (.invokevirtual 216, 3, (3, 130, 1), [377]) := rfl
theorem at_X6_harm_13 : ab_at mX6_harm 13 = some (.ireturn, 1, (0, 99999, 0), []) := rfl
theorem at_X6_harm_14 : ab_at mX6_harm 14 = some (.aload_n 0, 1, (0, 99999, 0), []) := rfl
theorem at_X6_harm_15 : ab_at mX6_harm 15 = some (.iload_n 2, 1, (0, 99999, 0), []) := rfl
theorem at_X6_harm_16 : ab_at mX6_harm 16 = some (.iconst 0, 1, (0, 99999, 0), []) := rfl
theorem at_X6_harm_17 : ab_at mX6_harm 17 = some (.bipush 99, 2, (0, 99999, 0), []) := rfl
theorem at_X6_harm_19 : ab_at mX6_harm 19 = some (.invokevirtual 128, 3, (3, 134, 3), [333]) := rfl
theorem at_X6_harm_2 : ab_at mX6_harm 2 = some (.invokevirtual 142, 3, (3, 133, 1), [339]) := rfl
theorem at_X6_harm_22 : ab_at mX6_harm 22 = some (.ifCond .ne 10, 3, (0, 99999, 0), []) := rfl
theorem at_X6_harm_25 : ab_at mX6_harm 25 = some (.aload_n 0, 1, (0, 99999, 0), []) := rfl
theorem at_X6_harm_26 : ab_at mX6_harm 26 = some (.bipush (-6), 2, (0, 99999, 0), []) := rfl
theorem at_X6_harm_28 : ab_at mX6_harm 28 = some (.invokevirtual 216, 3, (3, 130, 1), [377]) := rfl
theorem at_X6_harm_31 : ab_at mX6_harm 31 = some (.ireturn, 1, (0, 99999, 0), []) := rfl
theorem at_X6_harm_32 : ab_at mX6_harm 32 = some (.aload_n 0, 1, (0, 99999, 0), []) := rfl
theorem at_X6_harm_33 : ab_at mX6_harm 33 = some (.aload_n 0, 1, (0, 99999, 0), []) := rfl
theorem at_X6_harm_34 : ab_at mX6_harm 34 = some (.bipush 99, 2, (0, 99999, 0), []) := rfl
theorem at_X6_harm_36 : ab_at mX6_harm 36 = some (.invokevirtual 145, 3, (3, 153, 1), [340]) := rfl
theorem at_X6_harm_39 : ab_at mX6_harm 39 = some (.invokevirtual 219, 3, (3, 170, 1), [378]) := rfl
theorem at_X6_harm_42 : ab_at mX6_harm 42 = some (.aload_n 0, 1, (0, 99999, 0), []) := rfl
theorem at_X6_harm_43 : ab_at mX6_harm 43 = some (.iload_n 1, 1, (0, 99999, 0), []) := rfl
theorem at_X6_harm_44 : ab_at mX6_harm 44 = some (.iload_n 2, 1, (0, 99999, 0), []) := rfl
theorem at_X6_harm_45 : ab_at mX6_harm 45 = some (.invokevirtual 236, 3, (3, 176, 2), [383]) := rfl
theorem at_X6_harm_48 : ab_at mX6_harm 48 = some (.istore_n 3, 1, (0, 99999, 0), []) := rfl
theorem at_X6_harm_49 : ab_at mX6_harm 49 = some (.iload_n 3, 1, (0, 99999, 0), []) := rfl
theorem at_X6_harm_5 : ab_at mX6_harm 5 = some (.ifCond .ne 9, 3, (0, 99999, 0), []) := rfl
theorem at_X6_harm_50 : ab_at mX6_harm 50 = some (.iconst (-1), 1, (0, 99999, 0), []) := rfl
theorem at_X6_harm_51 : ab_at mX6_harm 51 = some (.if_icmp .ne 7, 3, (0, 99999, 0), []) := rfl
theorem at_X6_harm_54 : ab_at mX6_harm 54 = some (.iconst (-1), 1, (0, 99999, 0), []) := rfl
theorem at_X6_harm_55 : ab_at mX6_harm 55 = some (.goto 8, 3, (0, 99999, 0), []) := rfl
theorem at_X6_harm_63 : ab_at mX6_harm 63 = some (.ireturn, 1, (0, 99999, 0), []) := rfl
theorem at_X6_harm_8 : ab_at mX6_harm 8 = some (.aload_n 0, 1, (0, 99999, 0), []) := rfl
theorem at_X6_harm_9 : ab_at mX6_harm 9 = some (.iconst (-1), 1, (0, 99999, 0), []) := rfl
theorem at_X6_holds_0 : ab_at mX6_holds 0 = some (.aload_n 0, 1, (0, 99999, 0), []) := rfl
theorem at_X6_holds_1 : ab_at mX6_holds 1 = some (.iload_n 1, 1, (0, 99999, 0), []) := rfl
theorem at_X6_holds_2 : ab_at mX6_holds 2 = some (.invokevirtual 111, 3, (3, 131, 1), [312]) := rfl
theorem at_X6_holds_5 : ab_at mX6_holds 5 = some (.ifCond .eq 12, 3, (0, 99999, 0), []) := rfl
theorem at_X6_isDigit_0 : ab_at mX6_isDigit 0 = some (.aload_n 0, 1, (0, 99999, 0), []) := rfl
theorem at_X6_isDigit_1 : ab_at mX6_isDigit 1 = some (.getfield 151, 3, (1, 6, 28), [343]) := rfl
theorem at_X6_isDigit_4 : ab_at mX6_isDigit 4 = some (.aload_n 0, 1, (0, 99999, 0), []) := rfl
theorem at_X6_isDigit_5 : ab_at mX6_isDigit 5 = some (.getfield 154, 3, (1, 6, 29), [344]) := rfl
theorem at_X6_isDigit_56 : ab_at mX6_isDigit 56 = some (.ireturn, 1, (0, 99999, 0), []) := rfl
theorem at_X6_isDigit_8 : ab_at mX6_isDigit 8 = some (.if_icmp .ge 47, 3, (0, 99999, 0), []) := rfl
theorem at_X6_isFrom_0 : ab_at mX6_isFrom 0 = some (.iload_n 1, 1, (0, 99999, 0), []) := rfl
theorem at_X6_isFrom_1 : ab_at mX6_isFrom 1 = some (.iload_n 2, 1, (0, 99999, 0), []) := rfl
theorem at_X6_isFrom_10 : ab_at mX6_isFrom 10 = some (.iconst 1, 1, (0, 99999, 0), []) := rfl
theorem at_X6_isFrom_11 : ab_at mX6_isFrom 11 = some (.goto 4, 3, (0, 99999, 0), []) := rfl
theorem at_X6_isFrom_14 : ab_at mX6_isFrom 14 = some (.iconst 0, 1, (0, 99999, 0), []) := rfl
theorem at_X6_isFrom_15 : ab_at mX6_isFrom 15 = some (.ireturn, 1, (0, 99999, 0), []) := rfl
theorem at_X6_isFrom_2 : ab_at mX6_isFrom 2 = some (.if_icmp .lt 12, 3, (0, 99999, 0), []) := rfl
theorem at_X6_isFrom_5 : ab_at mX6_isFrom 5 = some (.iload_n 1, 1, (0, 99999, 0), []) := rfl
theorem at_X6_isFrom_6 : ab_at mX6_isFrom 6 = some (.iload_n 3, 1, (0, 99999, 0), []) := rfl
theorem at_X6_isFrom_7 : ab_at mX6_isFrom 7 = some (.if_icmp .gt 7, 3, (0, 99999, 0), []) := rfl
theorem at_X6_isOne_0 : ab_at mX6_isOne 0 = some (.iload_n 1, 1, (0, 99999, 0), []) := rfl
theorem at_X6_isOne_1 : ab_at mX6_isOne 1 = some (.ifCond .lt 15, 3, (0, 99999, 0), []) := rfl
theorem at_X6_isOne_12 : ab_at mX6_isOne 12 = some (.iconst 1, 1, (0, 99999, 0), []) := rfl
theorem at_X6_isOne_13 : ab_at mX6_isOne 13 = some (.goto 4, 3, (0, 99999, 0), []) := rfl
theorem at_X6_isOne_16 : ab_at mX6_isOne 16 = some (.iconst 0, 1, (0, 99999, 0), []) := rfl
theorem at_X6_isOne_17 : ab_at mX6_isOne 17 = some (.ireturn, 1, (0, 99999, 0), []) := rfl
theorem at_X6_isOne_4 : ab_at mX6_isOne 4 = some (.iload_n 1, 1, (0, 99999, 0), []) := rfl
theorem at_X6_isOne_5 : ab_at mX6_isOne 5 = some (.aload_n 0, 1, (0, 99999, 0), []) := rfl
theorem at_X6_isOne_6 : ab_at mX6_isOne 6 = some (.getfield 108, 3, (1, 6, 1), [311]) := rfl
theorem at_X6_isOne_9 : ab_at mX6_isOne 9 = some (.if_icmp .ge 7, 3, (0, 99999, 0), []) := rfl
theorem at_X6_isSo_0 : ab_at mX6_isSo 0 = some (.iload_n 1, 1, (0, 99999, 0), []) := rfl
theorem at_X6_isSo_1 : ab_at mX6_isSo 1 = some (.iconst 3, 1, (0, 99999, 0), []) := rfl
theorem at_X6_isSo_10 : ab_at mX6_isSo 10 = some (.iload_n 1, 1, (0, 99999, 0), []) := rfl
theorem at_X6_isSo_105 : ab_at mX6_isSo 105 = some (.iload_n 1, 1, (0, 99999, 0), []) := rfl
theorem at_X6_isSo_106 : ab_at mX6_isSo 106 = some (.iconst 3, 1, (0, 99999, 0), []) := rfl
theorem at_X6_isSo_107 : ab_at mX6_isSo 107 = some (.if_icmp .ne 7, 3, (0, 99999, 0), []) := rfl
theorem at_X6_isSo_11 : ab_at mX6_isSo 11 = some (.ifCond .ne 8, 3, (0, 99999, 0), []) := rfl
theorem at_X6_isSo_115 : ab_at mX6_isSo 115 = some (.if_icmp .ne 7, 3, (0, 99999, 0), []) := rfl
theorem at_X6_isSo_122 : ab_at mX6_isSo 122 = some (.iconst 0, 1, (0, 99999, 0), []) := rfl
theorem at_X6_isSo_123 : ab_at mX6_isSo 123 = some (.ireturn, 1, (0, 99999, 0), []) := rfl
theorem at_X6_isSo_14 : ab_at mX6_isSo 14 = some (.iload_n 2, 1, (0, 99999, 0), []) := rfl
theorem at_X6_isSo_15 : ab_at mX6_isSo 15 = some (.iconst 2, 1, (0, 99999, 0), []) := rfl
theorem at_X6_isSo_16 : ab_at mX6_isSo 16 = some (.if_icmp .eq 13, 3, (0, 99999, 0), []) := rfl
theorem at_X6_isSo_19 : ab_at mX6_isSo 19 = some (.iload_n 1, 1, (0, 99999, 0), []) := rfl
theorem at_X6_isSo_2 : ab_at mX6_isSo 2 = some (.if_icmp .ge 46, 3, (0, 99999, 0), []) := rfl
theorem at_X6_isSo_20 : ab_at mX6_isSo 20 = some (.iconst 2, 1, (0, 99999, 0), []) := rfl
theorem at_X6_isSo_21 : ab_at mX6_isSo 21 = some (.if_icmp .ne 12, 3, (0, 99999, 0), []) := rfl
theorem at_X6_isSo_24 : ab_at mX6_isSo 24 = some (.iload_n 2, 1, (0, 99999, 0), []) := rfl
theorem at_X6_isSo_25 : ab_at mX6_isSo 25 = some (.iconst 1, 1, (0, 99999, 0), []) := rfl
theorem at_X6_isSo_26 : ab_at mX6_isSo 26 = some (.if_icmp .ne 7, 3, (0, 99999, 0), []) := rfl
theorem at_X6_isSo_29 : ab_at mX6_isSo 29 = some (.iconst 1, 1, (0, 99999, 0), []) := rfl
theorem at_X6_isSo_30 : ab_at mX6_isSo 30 = some (.goto 4, 3, (0, 99999, 0), []) := rfl
theorem at_X6_isSo_33 : ab_at mX6_isSo 33 = some (.iconst 0, 1, (0, 99999, 0), []) := rfl
theorem at_X6_isSo_34 : ab_at mX6_isSo 34 = some (.aload_n 0, 1, (0, 99999, 0), []) := rfl
theorem at_X6_isSo_35 : ab_at mX6_isSo 35 = some (.getfield 72, 3, (1, 6, 25), [351]) := rfl
theorem at_X6_isSo_38 : ab_at mX6_isSo 38 = some (.iconst 3, 1, (0, 99999, 0), []) := rfl
theorem at_X6_isSo_39 : ab_at mX6_isSo 39 = some (.iload_n 1, 1, (0, 99999, 0), []) := rfl
theorem at_X6_isSo_40 : ab_at mX6_isSo 40 = some (.imul, 1, (0, 99999, 0), []) := rfl
theorem at_X6_isSo_41 : ab_at mX6_isSo 41 = some (.iload_n 2, 1, (0, 99999, 0), []) := rfl
theorem at_X6_isSo_42 : ab_at mX6_isSo 42 = some (.iadd, 1, (0, 99999, 0), []) := rfl
theorem at_X6_isSo_43 : ab_at mX6_isSo 43 = some (.iaload, 1, (0, 99999, 0), []) := rfl
theorem at_X6_isSo_44 : ab_at mX6_isSo 44 = some (.invokevirtual 128, 3, (3, 134, 3), [333]) := rfl
theorem at_X6_isSo_47 : ab_at mX6_isSo 47 = some (.ireturn, 1, (0, 99999, 0), []) := rfl
theorem at_X6_isSo_48 : ab_at mX6_isSo 48 = some (.iload_n 1, 1, (0, 99999, 0), []) := rfl
theorem at_X6_isSo_49 : ab_at mX6_isSo 49 = some (.iconst 3, 1, (0, 99999, 0), []) := rfl
theorem at_X6_isSo_5 : ab_at mX6_isSo 5 = some (.aload_n 0, 1, (0, 99999, 0), []) := rfl
theorem at_X6_isSo_50 : ab_at mX6_isSo 50 = some (.if_icmp .ne 25, 3, (0, 99999, 0), []) := rfl
theorem at_X6_isSo_53 : ab_at mX6_isSo 53 = some (.iload_n 2, 1, (0, 99999, 0), []) := rfl
theorem at_X6_isSo_54 : ab_at mX6_isSo 54 = some (.iconst 1, 1, (0, 99999, 0), []) := rfl
theorem at_X6_isSo_55 : ab_at mX6_isSo 55 = some (.if_icmp .ne 20, 3, (0, 99999, 0), []) := rfl
theorem at_X6_isSo_6 : ab_at mX6_isSo 6 = some (.aload_n 0, 1, (0, 99999, 0), []) := rfl
theorem at_X6_isSo_7 : ab_at mX6_isSo 7 = some (.getfield 160, 3, (1, 6, 30), [350]) := rfl
theorem at_X6_isSo_75 : ab_at mX6_isSo 75 = some (.aload_n 0, 1, (0, 99999, 0), []) := rfl
theorem at_X6_isSo_76 : ab_at mX6_isSo 76 = some (.getfield 160, 3, (1, 6, 30), [350]) := rfl
theorem at_X6_isSo_79 : ab_at mX6_isSo 79 = some (.aload_n 0, 1, (0, 99999, 0), []) := rfl
theorem at_X6_isSo_80 : ab_at mX6_isSo 80 = some (.getfield 105, 3, (1, 6, 0), [310]) := rfl
theorem at_X6_isSo_83 : ab_at mX6_isSo 83 = some (.if_icmp .ge 39, 3, (0, 99999, 0), []) := rfl
theorem at_X6_isSo_86 : ab_at mX6_isSo 86 = some (.aload_n 0, 1, (0, 99999, 0), []) := rfl
theorem at_X6_isSo_87 : ab_at mX6_isSo 87 = some (.getfield 29, 3, (1, 6, 11), [326]) := rfl
theorem at_X6_isSo_90 : ab_at mX6_isSo 90 = some (.aload_n 0, 1, (0, 99999, 0), []) := rfl
theorem at_X6_isSo_91 : ab_at mX6_isSo 91 = some (.getfield 160, 3, (1, 6, 30), [350]) := rfl
theorem at_X6_isSo_94 : ab_at mX6_isSo 94 = some (.iaload, 1, (0, 99999, 0), []) := rfl
theorem at_X6_isSo_95 : ab_at mX6_isSo 95 = some (.bipush 99, 2, (0, 99999, 0), []) := rfl
theorem at_X6_isSo_97 : ab_at mX6_isSo 97 = some (.if_icmp .ne 7, 3, (0, 99999, 0), []) := rfl
theorem at_X6_item_0 : ab_at mX6_item 0 = some (.aload_n 0, 1, (0, 99999, 0), []) := rfl
theorem at_X6_item_1 : ab_at mX6_item 1 = some (.iconst 0, 1, (0, 99999, 0), []) := rfl
theorem at_X6_item_102 : ab_at mX6_item 102 = some (.aload_n 0, 1, (0, 99999, 0), []) := rfl
theorem at_X6_item_103 : ab_at mX6_item 103 = some (.aload_n 0, 1, (0, 99999, 0), []) := rfl
theorem at_X6_item_104 : ab_at mX6_item 104 = some (.getfield 151, 3, (1, 6, 28), [343]) := rfl
theorem at_X6_item_107 : ab_at mX6_item 107 = some (.invokevirtual 167, 3, (3, 156, 1), [349]) := rfl
theorem at_X6_item_110 : ab_at mX6_item 110 = some (.ireturn, 1, (0, 99999, 0), []) := rfl
theorem at_X6_item_111 : ab_at mX6_item 111 = some (.aload_n 0, 1, (0, 99999, 0), []) := rfl
theorem at_X6_item_112 : ab_at mX6_item 112 = some (.dup, 1, (0, 99999, 0), []) := rfl
theorem at_X6_item_113 : ab_at mX6_item 113 = some (.getfield 151, 3, (1, 6, 28), [343]) := rfl
theorem at_X6_item_116 : ab_at mX6_item 116 = some (.iconst 1, 1, (0, 99999, 0), []) := rfl
theorem at_X6_item_117 : ab_at mX6_item 117 = some (.iadd, 1, (0, 99999, 0), []) := rfl
theorem at_X6_item_118 : ab_at mX6_item 118 = some (.putfield 151, 3, (1, 6, 28), [346]) := rfl
theorem at_X6_item_12 : ab_at mX6_item 12 = some (.bipush 9, 2, (0, 99999, 0), []) := rfl
theorem at_X6_item_121 : ab_at mX6_item 121 = some (.aload_n 0, 1, (0, 99999, 0), []) := rfl
theorem at_X6_item_122 : ab_at mX6_item 122 = some (.getfield 151, 3, (1, 6, 28), [343]) := rfl
theorem at_X6_item_125 : ab_at mX6_item 125 = some (.istore_n 3, 1, (0, 99999, 0), []) := rfl
theorem at_X6_item_126 : ab_at mX6_item 126 = some (.aload_n 0, 1, (0, 99999, 0), []) := rfl
theorem at_X6_item_127 : ab_at mX6_item 127 = some (.invokevirtual 177, 3, (3, 160, 0), [355]) := rfl
theorem at_X6_item_130 : ab_at mX6_item 130 = some (.ifCond .ne 5, 3, (0, 99999, 0), []) := rfl
theorem at_X6_item_133 : ab_at mX6_item 133 = some (.iconst 0, 1, (0, 99999, 0), []) := rfl
theorem at_X6_item_134 : ab_at mX6_item 134 = some (.ireturn, 1, (0, 99999, 0), []) := rfl
theorem at_X6_item_135 : ab_at mX6_item 135 = some (.aload_n 0, 1, (0, 99999, 0), []) := rfl
theorem at_X6_item_136 : ab_at mX6_item 136 = some (.iload_n 1, 1, (0, 99999, 0), []) := rfl
theorem at_X6_item_137 : ab_at mX6_item 137 = some (.iload_n 2, 1, (0, 99999, 0), []) := rfl
theorem at_X6_item_138 : ab_at mX6_item 138 = some (.invokevirtual 180, 3, (3, 161, 2), [356]) := rfl
theorem at_X6_item_14 : ab_at mX6_item 14 = some (.if_icmp .eq 20, 3, (0, 99999, 0), []) := rfl
theorem at_X6_item_141 : ab_at mX6_item 141 = some (.ifCond .ne 9, 3, (0, 99999, 0), []) := rfl
theorem at_X6_item_144 : ab_at mX6_item 144 = some (.aload_n 0, 1, (0, 99999, 0), []) := rfl
theorem at_X6_item_145 : ab_at mX6_item 145 = some (.iload_n 3, 1, (0, 99999, 0), []) := rfl
theorem at_X6_item_146 : ab_at mX6_item 146 = some (.invokevirtual 167, 3, (3, 156, 1), [349]) := rfl
theorem at_X6_item_149 : ab_at mX6_item 149 = some (.ireturn, 1, (0, 99999, 0), []) := rfl
theorem at_X6_item_150 : ab_at mX6_item 150 = some (.aload_n 0, 1, (0, 99999, 0), []) := rfl
theorem at_X6_item_151 : ab_at mX6_item 151 = some (.getfield 75, 3, (1, 6, 26), [357]) := rfl
theorem at_X6_item_154 : ab_at mX6_item 154 = some (.iload_n 2, 1, (0, 99999, 0), []) := rfl
theorem at_X6_item_155 : ab_at mX6_item 155 = some (.aload_n 0, 1, (0, 99999, 0), []) := rfl
theorem at_X6_item_156 : ab_at mX6_item 156 = some (.getfield 160, 3, (1, 6, 30), [350]) := rfl
theorem at_X6_item_159 : ab_at mX6_item 159 = some (.iastore, 1, (0, 99999, 0), []) := rfl
theorem at_X6_item_160 : ab_at mX6_item 160 = some (.iinc 2 1, 3, (0, 99999, 0), []) := rfl
theorem at_X6_item_163 : ab_at mX6_item 163 = some (.goto (-106), 3, (0, 99999, 0), []) := rfl
theorem at_X6_item_17 : ab_at mX6_item 17 = some (.aload_n 0, 1, (0, 99999, 0), []) := rfl
theorem at_X6_item_18 : ab_at mX6_item 18 = some (.iconst 1, 1, (0, 99999, 0), []) := rfl
theorem at_X6_item_19 : ab_at mX6_item 19 = some (.invokevirtual 170, 3, (3, 157, 1), [352]) := rfl
theorem at_X6_item_2 : ab_at mX6_item 2 = some (.invokevirtual 170, 3, (3, 157, 1), [352]) := rfl
theorem at_X6_item_22 : ab_at mX6_item 22 = some (.ifCond .eq 21, 3, (0, 99999, 0), []) := rfl
theorem at_X6_item_25 : ab_at mX6_item 25 = some (.aload_n 0, 1, (0, 99999, 0), []) := rfl
theorem at_X6_item_26 : ab_at mX6_item 26 = some (.getfield 108, 3, (1, 6, 1), [311]) := rfl
theorem at_X6_item_29 : ab_at mX6_item 29 = some (.bipush 6, 2, (0, 99999, 0), []) := rfl
theorem at_X6_item_31 : ab_at mX6_item 31 = some (.if_icmp .ne 12, 3, (0, 99999, 0), []) := rfl
theorem at_X6_item_43 : ab_at mX6_item 43 = some (.aload_n 0, 1, (0, 99999, 0), []) := rfl
theorem at_X6_item_44 : ab_at mX6_item 44 = some (.invokevirtual 173, 3, (3, 158, 0), [353]) := rfl
theorem at_X6_item_47 : ab_at mX6_item 47 = some (.istore_n 1, 1, (0, 99999, 0), []) := rfl
theorem at_X6_item_48 : ab_at mX6_item 48 = some (.iload_n 1, 1, (0, 99999, 0), []) := rfl
theorem at_X6_item_49 : ab_at mX6_item 49 = some (.iconst (-1), 1, (0, 99999, 0), []) := rfl
theorem at_X6_item_5 : ab_at mX6_item 5 = some (.ifCond .eq 12, 3, (0, 99999, 0), []) := rfl
theorem at_X6_item_50 : ab_at mX6_item 50 = some (.if_icmp .ne 5, 3, (0, 99999, 0), []) := rfl
theorem at_X6_item_53 : ab_at mX6_item 53 = some (.iconst 0, 1, (0, 99999, 0), []) := rfl
theorem at_X6_item_54 : ab_at mX6_item 54 = some (.ireturn, 1, (0, 99999, 0), []) := rfl
theorem at_X6_item_55 : ab_at mX6_item 55 = some (.iconst 0, 1, (0, 99999, 0), []) := rfl
theorem at_X6_item_56 : ab_at mX6_item 56 = some (.istore_n 2, 1, (0, 99999, 0), []) := rfl
theorem at_X6_item_57 : ab_at mX6_item 57 = some (.iload_n 2, 1, (0, 99999, 0), []) := rfl
theorem at_X6_item_58 : ab_at mX6_item 58 = some (.aload_n 0, 1, (0, 99999, 0), []) := rfl
theorem at_X6_item_59 : ab_at mX6_item 59 = some (.getfield 69, 3, (1, 6, 24), [354]) := rfl
theorem at_X6_item_62 : ab_at mX6_item 62 = some (.iload_n 1, 1, (0, 99999, 0), []) := rfl
theorem at_X6_item_63 : ab_at mX6_item 63 = some (.iaload, 1, (0, 99999, 0), []) := rfl
theorem at_X6_item_64 : ab_at mX6_item 64 = some (.if_icmp .ge 102, 3, (0, 99999, 0), []) := rfl
theorem at_X6_item_67 : ab_at mX6_item 67 = some (.iload_n 2, 1, (0, 99999, 0), []) := rfl
theorem at_X6_item_68 : ab_at mX6_item 68 = some (.ifCond .le 53, 3, (0, 99999, 0), []) := rfl
theorem at_X6_item_71 : ab_at mX6_item 71 = some (.aload_n 0, 1, (0, 99999, 0), []) := rfl
theorem at_X6_item_72 : ab_at mX6_item 72 = some (.getfield 151, 3, (1, 6, 28), [343]) := rfl
theorem at_X6_item_75 : ab_at mX6_item 75 = some (.aload_n 0, 1, (0, 99999, 0), []) := rfl
theorem at_X6_item_76 : ab_at mX6_item 76 = some (.getfield 154, 3, (1, 6, 29), [344]) := rfl
theorem at_X6_item_79 : ab_at mX6_item 79 = some (.if_icmp .ge 23, 3, (0, 99999, 0), []) := rfl
theorem at_X6_item_8 : ab_at mX6_item 8 = some (.aload_n 0, 1, (0, 99999, 0), []) := rfl
theorem at_X6_item_82 : ab_at mX6_item 82 = some (.aload_n 0, 1, (0, 99999, 0), []) := rfl
theorem at_X6_item_83 : ab_at mX6_item 83 = some (.getfield 59, 3, (1, 6, 21), [317]) := rfl
theorem at_X6_item_86 : ab_at mX6_item 86 = some (.aload_n 0, 1, (0, 99999, 0), []) := rfl
theorem at_X6_item_87 : ab_at mX6_item 87 = some (.getfield 157, 3, (1, 6, 27), [345]) := rfl
theorem at_X6_item_9 : ab_at mX6_item 9 = some (.getfield 105, 3, (1, 6, 0), [310]) := rfl
theorem at_X6_item_90 : ab_at mX6_item 90 = some (.aload_n 0, 1, (0, 99999, 0), []) := rfl
theorem at_X6_item_91 : ab_at mX6_item 91 = some (.getfield 151, 3, (1, 6, 28), [343]) := rfl
theorem at_X6_item_94 : ab_at mX6_item 94 = some (.iadd, 1, (0, 99999, 0), []) := rfl
theorem at_X6_item_95 : ab_at mX6_item 95 = some (.laload, 1, (0, 99999, 0), []) := rfl
theorem at_X6_item_96 : ab_at mX6_item 96 = some (.l2i, 1, (0, 99999, 0), []) := rfl
theorem at_X6_item_97 : ab_at mX6_item 97 = some (.bipush 32, 2, (0, 99999, 0), []) := rfl
theorem at_X6_item_99 : ab_at mX6_item 99 = some (.if_icmp .eq 12, 3, (0, 99999, 0), []) := rfl
theorem at_X6_judge_0 : ab_at mX6_judge 0 = some (.aload_n 0, 1, (0, 99999, 0), []) := rfl
theorem at_X6_judge_1 : ab_at mX6_judge 1 = some (.iload_n 1, 1, (0, 99999, 0), []) := rfl
theorem at_X6_judge_10 : ab_at mX6_judge 10 = some (.iload_n 3, 1, (0, 99999, 0), []) := rfl
theorem at_X6_judge_11 : ab_at mX6_judge 11 = some (.ifCond .eq 9, 3, (0, 99999, 0), []) := rfl
theorem at_X6_judge_14 : ab_at mX6_judge 14 = some (.aload_n 0, 1, (0, 99999, 0), []) := rfl
theorem at_X6_judge_15 : ab_at mX6_judge 15 = some (.iload_n 3, 1, (0, 99999, 0), []) := rfl
theorem at_X6_judge_16 : ab_at mX6_judge 16 = some (.invokevirtual 216, 3, (3, 130, 1), [377]) := rfl
theorem at_X6_judge_19 : ab_at mX6_judge 19 = some (.ireturn, 1, (0, 99999, 0), []) := rfl
theorem at_X6_judge_2 : ab_at mX6_judge 2 = some (.iload_n 2, 1, (0, 99999, 0), []) := rfl
theorem at_X6_judge_3 : ab_at mX6_judge 3 = some (.bipush 20, 2, (0, 99999, 0), []) := rfl
theorem at_X6_judge_5 : ab_at mX6_judge 5 = some (.iconst 1, 1, (0, 99999, 0), []) := rfl
theorem at_X6_judge_6 : ab_at mX6_judge 6 = some (.invokevirtual 256, 3, (3, 186, 4), [397]) := rfl
theorem at_X6_judge_9 : ab_at mX6_judge 9 = some (.istore_n 3, 1, (0, 99999, 0), []) := rfl
theorem at_X6_manyAmounts_10 : ab_at mX6_manyAmounts 10 = some (.iload_n 1, 1, (0, 99999, 0), []) := rfl
theorem at_X6_manyAmounts_11 : ab_at mX6_manyAmounts 11 = some (.ifCond .eq 11, 3, (0, 99999, 0), []) := rfl
theorem at_X6_manyAmounts_28 : ab_at mX6_manyAmounts 28 = some (.iconst (-1), 1, (0, 99999, 0), []) := rfl
theorem at_X6_manyAmounts_29 : ab_at mX6_manyAmounts 29 = some (.if_icmp .eq 6, 3, (0, 99999, 0), []) := rfl
theorem at_X6_manyAmounts_35 : ab_at mX6_manyAmounts 35 = some (.iinc 3 1, 3, (0, 99999, 0), []) := rfl
theorem at_X6_manyAmounts_38 : ab_at mX6_manyAmounts 38 = some (.goto (-34), 3, (0, 99999, 0), []) := rfl
theorem at_X6_manyAmounts_4 : ab_at mX6_manyAmounts 4 = some (.iload_n 3, 1, (0, 99999, 0), []) := rfl
theorem at_X6_manyAmounts_5 : ab_at mX6_manyAmounts 5 = some (.bipush 100, 2, (0, 99999, 0), []) := rfl
theorem at_X6_manyAmounts_7 : ab_at mX6_manyAmounts 7 = some (.if_icmp .ge 34, 3, (0, 99999, 0), []) := rfl
theorem at_X6_many_10 : ab_at mX6_many 10 = some (.iload_n 2, 1, (0, 99999, 0), []) := rfl
theorem at_X6_many_11 : ab_at mX6_many 11 = some (.iload_n 1, 1, (0, 99999, 0), []) := rfl
theorem at_X6_many_12 : ab_at mX6_many 12 = some (.iload_n 3, 1, (0, 99999, 0), []) := rfl
theorem at_X6_many_13 : ab_at mX6_many 13 = some (.ishr, 1, (0, 99999, 0), []) := rfl
theorem at_X6_many_14 : ab_at mX6_many 14 = some (.iconst 1, 1, (0, 99999, 0), []) := rfl
theorem at_X6_many_15 : ab_at mX6_many 15 = some (.iand, 1, (0, 99999, 0), []) := rfl
theorem at_X6_many_16 : ab_at mX6_many 16 = some (.iadd, 1, (0, 99999, 0), []) := rfl
theorem at_X6_many_17 : ab_at mX6_many 17 = some (.istore_n 2, 1, (0, 99999, 0), []) := rfl
theorem at_X6_many_18 : ab_at mX6_many 18 = some (.iinc 3 1, 3, (0, 99999, 0), []) := rfl
theorem at_X6_many_21 : ab_at mX6_many 21 = some (.goto (-17), 3, (0, 99999, 0), []) := rfl
theorem at_X6_many_4 : ab_at mX6_many 4 = some (.iload_n 3, 1, (0, 99999, 0), []) := rfl
theorem at_X6_many_5 : ab_at mX6_many 5 = some (.bipush 9, 2, (0, 99999, 0), []) := rfl
theorem at_X6_many_7 : ab_at mX6_many 7 = some (.if_icmp .ge 17, 3, (0, 99999, 0), []) := rfl
theorem at_X6_noTen_0 : ab_at mX6_noTen 0 = some (.aload_n 0, 1, (0, 99999, 0), []) := rfl
theorem at_X6_noTen_1 : ab_at mX6_noTen 1 = some (.getfield 16, 3, (1, 6, 7), [309]) := rfl
theorem at_X6_noTen_10 : ab_at mX6_noTen 10 = some (.iastore, 1, (0, 99999, 0), []) := rfl
theorem at_X6_noTen_11 : ab_at mX6_noTen 11 = some (.iload_n 1, 1, (0, 99999, 0), []) := rfl
theorem at_X6_noTen_12 : ab_at mX6_noTen 12 = some (.bipush 10, 2, (0, 99999, 0), []) := rfl
theorem at_X6_noTen_14 : ab_at mX6_noTen 14 = some (.isub, 1, (0, 99999, 0), []) := rfl
theorem at_X6_noTen_15 : ab_at mX6_noTen 15 = some (.ireturn, 1, (0, 99999, 0), []) := rfl
theorem at_X6_noTen_4 : ab_at mX6_noTen 4 = some (.iload_n 1, 1, (0, 99999, 0), []) := rfl
theorem at_X6_noTen_5 : ab_at mX6_noTen 5 = some (.ineg, 1, (0, 99999, 0), []) := rfl
theorem at_X6_noTen_6 : ab_at mX6_noTen 6 = some (.dup2, 1, (0, 99999, 0), []) := rfl
theorem at_X6_noTen_7 : ab_at mX6_noTen 7 = some (.iaload, 1, (0, 99999, 0), []) := rfl
theorem at_X6_noTen_8 : ab_at mX6_noTen 8 = some (.iconst 1, 1, (0, 99999, 0), []) := rfl
theorem at_X6_noTen_9 : ab_at mX6_noTen 9 = some (.iadd, 1, (0, 99999, 0), []) := rfl
theorem at_X6_no_0 : ab_at mX6_no 0 = some (.aload_n 0, 1, (0, 99999, 0), []) := rfl
theorem at_X6_no_1 : ab_at mX6_no 1 = some (.getfield 16, 3, (1, 6, 7), [309]) := rfl
theorem at_X6_no_10 : ab_at mX6_no 10 = some (.iastore, 1, (0, 99999, 0), []) := rfl
theorem at_X6_no_11 : ab_at mX6_no 11 = some (.iload_n 1, 1, (0, 99999, 0), []) := rfl
theorem at_X6_no_12 : ab_at mX6_no 12 = some (.ireturn, 1, (0, 99999, 0), []) := rfl
theorem at_X6_no_4 : ab_at mX6_no 4 = some (.iload_n 1, 1, (0, 99999, 0), []) := rfl
theorem at_X6_no_5 : ab_at mX6_no 5 = some (.ineg, 1, (0, 99999, 0), []) := rfl
theorem at_X6_no_6 : ab_at mX6_no 6 = some (.dup2, 1, (0, 99999, 0), []) := rfl
theorem at_X6_no_7 : ab_at mX6_no 7 = some (.iaload, 1, (0, 99999, 0), []) := rfl
theorem at_X6_no_8 : ab_at mX6_no 8 = some (.iconst 1, 1, (0, 99999, 0), []) := rfl
theorem at_X6_no_9 : ab_at mX6_no 9 = some (.iadd, 1, (0, 99999, 0), []) := rfl
theorem at_X6_personOf_0 : ab_at mX6_personOf 0 = some (.aload_n 0, 1, (0, 99999, 0), []) := rfl
theorem at_X6_personOf_1 : ab_at mX6_personOf 1 = some (.iload_n 1, 1, (0, 99999, 0), []) := rfl
theorem at_X6_personOf_15 : ab_at mX6_personOf 15 = some (.iload_n 2, 1, (0, 99999, 0), []) := rfl
theorem at_X6_personOf_16 : ab_at mX6_personOf 16 = some (.tableswitch 70 0 4 #[36, 43, 50, 57, 64], 36, (0, 99999, 0), []) := rfl
theorem at_X6_personOf_2 : ab_at mX6_personOf 2 = some (.invokevirtual 142, 3, (3, 133, 1), [339]) := rfl
theorem at_X6_personOf_5 : ab_at mX6_personOf 5 = some (.ifCond .ne 10, 3, (0, 99999, 0), []) := rfl
theorem at_X6_person_0 : ab_at mX6_person 0 = some (.aload_n 0, 1, (0, 99999, 0), []) := rfl
theorem at_X6_person_1 : ab_at mX6_person 1 = some (.iload_n 3, 1, (0, 99999, 0), []) := rfl
theorem at_X6_person_17 : ab_at mX6_person 17 = some (.aload_n 0, 1, (0, 99999, 0), []) := rfl
theorem at_X6_person_18 : ab_at mX6_person 18 = some (.iload_n 1, 1, (0, 99999, 0), []) := rfl
theorem at_X6_person_19 : ab_at mX6_person 19 = some (.iconst 0, 1, (0, 99999, 0), []) := rfl
theorem at_X6_person_2 : ab_at mX6_person 2 = some (.iconst 0, 1, (0, 99999, 0), []) := rfl
theorem at_X6_person_20 : ab_at mX6_person 20 = some (.bipush 99, 2, (0, 99999, 0), []) := rfl
theorem at_X6_person_22 : ab_at mX6_person 22 = some (.invokevirtual 128, 3, (3, 134, 3), [333]) := rfl
theorem at_X6_person_25 : ab_at mX6_person 25 = some (.ifCond .eq 14, 3, (0, 99999, 0), []) := rfl
theorem at_X6_person_28 : ab_at mX6_person 28 = some (.aload_n 0, 1, (0, 99999, 0), []) := rfl
theorem at_X6_person_29 : ab_at mX6_person 29 = some (.iload_n 2, 1, (0, 99999, 0), []) := rfl
theorem at_X6_person_3 : ab_at mX6_person 3 = some (.bipush 7, 2, (0, 99999, 0), []) := rfl
theorem at_X6_person_30 : ab_at mX6_person 30 = some (.iconst 0, 1, (0, 99999, 0), []) := rfl
theorem at_X6_person_31 : ab_at mX6_person 31 = some (.bipush 9, 2, (0, 99999, 0), []) := rfl
theorem at_X6_person_33 : ab_at mX6_person 33 = some (.invokevirtual 128, 3, (3, 134, 3), [333]) := rfl
theorem at_X6_person_36 : ab_at mX6_person 36 = some (.ifCond .ne 10, 3, (0, 99999, 0), []) := rfl
theorem at_X6_person_39 : ab_at mX6_person 39 = some (.aload_n 0, 1, (0, 99999, 0), []) := rfl
theorem at_X6_person_40 : ab_at mX6_person 40 = some (.bipush (-6), 2, (0, 99999, 0), []) := rfl
theorem at_X6_person_42 : ab_at mX6_person 42 = some (.invokevirtual 115, 3, (3, 129, 1), [313]) := rfl
theorem at_X6_person_45 : ab_at mX6_person 45 = some (.ireturn, 1, (0, 99999, 0), []) := rfl
theorem at_X6_person_5 : ab_at mX6_person 5 = some (.invokevirtual 128, 3, (3, 134, 3), [333]) := rfl
theorem at_X6_person_8 : ab_at mX6_person 8 = some (.ifCond .ne 9, 3, (0, 99999, 0), []) := rfl
theorem at_X6_pieceOf_0 : ab_at mX6_pieceOf 0 = some (.aload_n 0, 1, (0, 99999, 0), []) := rfl
theorem at_X6_pieceOf_1 : ab_at mX6_pieceOf 1 = some (.iload_n 1, 1, (0, 99999, 0), []) := rfl
theorem at_X6_pieceOf_15 : ab_at mX6_pieceOf 15 = some (.iload_n 2, 1, (0, 99999, 0), []) := rfl
theorem at_X6_pieceOf_16 : ab_at mX6_pieceOf 16 = some (.tableswitch 80 0 5 #[40, 47, 54, 61, 67, 73], 40, (0, 99999, 0), []) := rfl
theorem at_X6_pieceOf_2 : ab_at mX6_pieceOf 2 = some (.invokevirtual 119, 3, (3, 132, 1), [319]) := rfl
theorem at_X6_pieceOf_5 : ab_at mX6_pieceOf 5 = some (.ifCond .ne 10, 3, (0, 99999, 0), []) := rfl
theorem at_X6_piece_0 : ab_at mX6_piece 0 = some (.iload_n 1, 1, (0, 99999, 0), []) := rfl
theorem at_X6_piece_1 : ab_at mX6_piece 1 = some (.ifCond .lt 9, 3, (0, 99999, 0), []) := rfl
theorem at_X6_piece_16 : ab_at mX6_piece 16 = some (.aload_n 0, 1, (0, 99999, 0), []) := rfl
theorem at_X6_piece_17 : ab_at mX6_piece 17 = some (.iload_n 2, 1, (0, 99999, 0), []) := rfl
theorem at_X6_piece_18 : ab_at mX6_piece 18 = some (.iconst 0, 1, (0, 99999, 0), []) := rfl
theorem at_X6_piece_19 : ab_at mX6_piece 19 = some (.bipush 9, 2, (0, 99999, 0), []) := rfl
theorem at_X6_piece_21 : ab_at mX6_piece 21 = some (.invokevirtual 128, 3, (3, 134, 3), [333]) := rfl
theorem at_X6_piece_24 : ab_at mX6_piece 24 = some (.ifCond .eq 14, 3, (0, 99999, 0), []) := rfl
theorem at_X6_piece_27 : ab_at mX6_piece 27 = some (.aload_n 0, 1, (0, 99999, 0), []) := rfl
theorem at_X6_piece_28 : ab_at mX6_piece 28 = some (.iload_n 3, 1, (0, 99999, 0), []) := rfl
theorem at_X6_piece_29 : ab_at mX6_piece 29 = some (.iconst 1, 1, (0, 99999, 0), []) := rfl
theorem at_X6_piece_30 : ab_at mX6_piece 30 = some (.bipush 50, 2, (0, 99999, 0), []) := rfl
theorem at_X6_piece_32 : ab_at mX6_piece 32 = some (.invokevirtual 128, 3, (3, 134, 3), [333]) := rfl
theorem at_X6_piece_35 : ab_at mX6_piece 35 = some (.ifCond .ne 10, 3, (0, 99999, 0), []) := rfl
theorem at_X6_piece_38 : ab_at mX6_piece 38 = some (.aload_n 0, 1, (0, 99999, 0), []) := rfl
theorem at_X6_piece_39 : ab_at mX6_piece 39 = some (.bipush (-6), 2, (0, 99999, 0), []) := rfl
theorem at_X6_piece_4 : ab_at mX6_piece 4 = some (.iload_n 1, 1, (0, 99999, 0), []) := rfl
theorem at_X6_piece_41 : ab_at mX6_piece 41 = some (.invokevirtual 115, 3, (3, 129, 1), [313]) := rfl
theorem at_X6_piece_44 : ab_at mX6_piece 44 = some (.ireturn, 1, (0, 99999, 0), []) := rfl
theorem at_X6_piece_5 : ab_at mX6_piece 5 = some (.bipush 6, 2, (0, 99999, 0), []) := rfl
theorem at_X6_piece_7 : ab_at mX6_piece 7 = some (.if_icmp .le 9, 3, (0, 99999, 0), []) := rfl
theorem at_X6_price_0 : ab_at mX6_price 0 = some (.aload_n 0, 1, (0, 99999, 0), []) := rfl
theorem at_X6_price_1 : ab_at mX6_price 1 = some (.iload_n 1, 1, (0, 99999, 0), []) := rfl
theorem at_X6_price_2 : ab_at mX6_price 2 = some (.invokevirtual 142, 3, (3, 133, 1), [339]) := rfl
theorem at_X6_price_28 : ab_at mX6_price 28 = some (.aload_n 0, 1, (0, 99999, 0), []) := rfl
theorem at_X6_price_29 : ab_at mX6_price 29 = some (.iconst (-1), 1, (0, 99999, 0), []) := rfl
theorem at_X6_price_30 : ab_at mX6_price 30 = some (.invokevirtual 115, 3, (3, 129, 1), [313]) := rfl
theorem at_X6_price_33 : ab_at mX6_price 33 = some (.ireturn, 1, (0, 99999, 0), []) := rfl
theorem at_X6_price_5 : ab_at mX6_price 5 = some (.ifCond .eq 23, 3, (0, 99999, 0), []) := rfl
theorem at_X6_reads_23 : ab_at mX6_reads 23 = some (.iload_n 1, 1, (0, 99999, 0), []) := rfl
theorem at_X6_reads_24 : ab_at mX6_reads 24 = some (.iconst 2, 1, (0, 99999, 0), []) := rfl
theorem at_X6_reads_25 : ab_at mX6_reads 25 = some (.if_icmp .ge 56, 3, (0, 99999, 0), []) := rfl
theorem at_X6_reads_28 : ab_at mX6_reads 28 = some (.aload_n 0, 1, (0, 99999, 0), []) := rfl
theorem at_X6_reads_29 : ab_at mX6_reads 29 = some (.invokevirtual 163, 3, (3, 159, 0), [348]) := rfl
theorem at_X6_reads_32 : ab_at mX6_reads 32 = some (.ifCond .eq 49, 3, (0, 99999, 0), []) := rfl
theorem at_X6_restore_25 : ab_at mX6_restore 25 = some (.iload_n 1, 1, (0, 99999, 0), []) := rfl
theorem at_X6_restore_26 : ab_at mX6_restore 26 = some (.bipush 8, 2, (0, 99999, 0), []) := rfl
theorem at_X6_restore_28 : ab_at mX6_restore 28 = some (.if_icmp .ge 39, 3, (0, 99999, 0), []) := rfl
theorem at_X6_ringing_0 : ab_at mX6_ringing 0 = some (.aload_n 0, 1, (0, 99999, 0), []) := rfl
theorem at_X6_ringing_1 : ab_at mX6_ringing 1 = some (.getfield 20, 3, (1, 6, 8), [321]) := rfl
theorem at_X6_ringing_10 : ab_at mX6_ringing 10 = some (.iload_n 3, 1, (0, 99999, 0), []) := rfl
theorem at_X6_ringing_11 : ab_at mX6_ringing 11 = some (.bipush 6, 2, (0, 99999, 0), []) := rfl
theorem at_X6_ringing_13 : ab_at mX6_ringing 13 = some (.if_icmp .ne 19, 3, (0, 99999, 0), []) := rfl
theorem at_X6_ringing_32 : ab_at mX6_ringing 32 = some (.iload_n 3, 1, (0, 99999, 0), []) := rfl
theorem at_X6_ringing_33 : ab_at mX6_ringing 33 = some (.iconst 2, 1, (0, 99999, 0), []) := rfl
theorem at_X6_ringing_34 : ab_at mX6_ringing 34 = some (.if_icmp .eq 8, 3, (0, 99999, 0), []) := rfl
theorem at_X6_ringing_37 : ab_at mX6_ringing 37 = some (.iload_n 3, 1, (0, 99999, 0), []) := rfl
theorem at_X6_ringing_38 : ab_at mX6_ringing 38 = some (.iconst 5, 1, (0, 99999, 0), []) := rfl
theorem at_X6_ringing_39 : ab_at mX6_ringing 39 = some (.if_icmp .ne 7, 3, (0, 99999, 0), []) := rfl
theorem at_X6_ringing_4 : ab_at mX6_ringing 4 = some (.iload_n 1, 1, (0, 99999, 0), []) := rfl
theorem at_X6_ringing_42 : ab_at mX6_ringing 42 = some (.iconst 1, 1, (0, 99999, 0), []) := rfl
theorem at_X6_ringing_43 : ab_at mX6_ringing 43 = some (.goto 4, 3, (0, 99999, 0), []) := rfl
theorem at_X6_ringing_46 : ab_at mX6_ringing 46 = some (.iconst 0, 1, (0, 99999, 0), []) := rfl
theorem at_X6_ringing_47 : ab_at mX6_ringing 47 = some (.istore 5, 2, (0, 99999, 0), []) := rfl
theorem at_X6_ringing_49 : ab_at mX6_ringing 49 = some (.iload 5, 2, (0, 99999, 0), []) := rfl
theorem at_X6_ringing_5 : ab_at mX6_ringing 5 = some (.iaload, 1, (0, 99999, 0), []) := rfl
theorem at_X6_ringing_51 : ab_at mX6_ringing 51 = some (.ifCond .eq 9, 3, (0, 99999, 0), []) := rfl
theorem at_X6_ringing_54 : ab_at mX6_ringing 54 = some (.aload_n 0, 1, (0, 99999, 0), []) := rfl
theorem at_X6_ringing_55 : ab_at mX6_ringing 55 = some (.bipush 30, 2, (0, 99999, 0), []) := rfl
theorem at_X6_ringing_57 : ab_at mX6_ringing 57 = some (.invokevirtual 294, 3, (3, 204, 1), [415]) := rfl
theorem at_X6_ringing_6 : ab_at mX6_ringing 6 = some (.istore_n 3, 1, (0, 99999, 0), []) := rfl
theorem at_X6_ringing_60 : ab_at mX6_ringing 60 = some (.aload_n 0, 1, (0, 99999, 0), []) := rfl
theorem at_X6_ringing_61 : ab_at mX6_ringing 61 = some (.bipush 11, 2, (0, 99999, 0), []) := rfl
theorem at_X6_ringing_63 : ab_at mX6_ringing 63 = some (.invokevirtual 294, 3, (3, 204, 1), [415]) := rfl
theorem at_X6_ringing_66 : ab_at mX6_ringing 66 = some (.aload_n 0, 1, (0, 99999, 0), []) := rfl
theorem at_X6_ringing_67 : ab_at mX6_ringing 67 = some (.iload_n 1, 1, (0, 99999, 0), []) := rfl
theorem at_X6_ringing_68 : ab_at mX6_ringing 68 = some (.iload 4, 2, (0, 99999, 0), []) := rfl
theorem at_X6_ringing_7 : ab_at mX6_ringing 7 = some (.iload_n 2, 1, (0, 99999, 0), []) := rfl
theorem at_X6_ringing_70 : ab_at mX6_ringing 70 = some (.invokevirtual 297, 3, (3, 205, 2), [416]) := rfl
theorem at_X6_ringing_73 : ab_at mX6_ringing 73 = some (.iconst 2, 1, (0, 99999, 0), []) := rfl
theorem at_X6_ringing_74 : ab_at mX6_ringing 74 = some (.imul, 1, (0, 99999, 0), []) := rfl
theorem at_X6_ringing_75 : ab_at mX6_ringing 75 = some (.istore 6, 2, (0, 99999, 0), []) := rfl
theorem at_X6_ringing_77 : ab_at mX6_ringing 77 = some (.iload 5, 2, (0, 99999, 0), []) := rfl
theorem at_X6_ringing_79 : ab_at mX6_ringing 79 = some (.ifCond .eq 10, 3, (0, 99999, 0), []) := rfl
theorem at_X6_ringing_8 : ab_at mX6_ringing 8 = some (.istore 4, 2, (0, 99999, 0), []) := rfl
theorem at_X6_ringing_82 : ab_at mX6_ringing 82 = some (.iload 6, 2, (0, 99999, 0), []) := rfl
theorem at_X6_ringing_84 : ab_at mX6_ringing 84 = some (.iconst 3, 1, (0, 99999, 0), []) := rfl
theorem at_X6_ringing_85 : ab_at mX6_ringing 85 = some (.imul, 1, (0, 99999, 0), []) := rfl
theorem at_X6_ringing_86 : ab_at mX6_ringing 86 = some (.goto 5, 3, (0, 99999, 0), []) := rfl
theorem at_X6_ringing_89 : ab_at mX6_ringing 89 = some (.iload 6, 2, (0, 99999, 0), []) := rfl
theorem at_X6_ringing_91 : ab_at mX6_ringing 91 = some (.ireturn, 1, (0, 99999, 0), []) := rfl
theorem at_X6_row_0 : ab_at mX6_row 0 = some (.aload_n 0, 1, (0, 99999, 0), []) := rfl
theorem at_X6_row_1 : ab_at mX6_row 1 = some (.iload_n 1, 1, (0, 99999, 0), []) := rfl
theorem at_X6_row_14 : ab_at mX6_row 14 = some (.iload_n 3, 1, (0, 99999, 0), []) := rfl
theorem at_X6_row_15 : ab_at mX6_row 15 = some (.ifCond .ge 10, 3, (0, 99999, 0), []) := rfl
theorem at_X6_row_2 : ab_at mX6_row 2 = some (.invokevirtual 111, 3, (3, 131, 1), [312]) := rfl
theorem at_X6_row_25 : ab_at mX6_row 25 = some (.iload_n 2, 1, (0, 99999, 0), []) := rfl
theorem at_X6_row_26 : ab_at mX6_row 26 = some (.ifCond .lt 8, 3, (0, 99999, 0), []) := rfl
theorem at_X6_row_29 : ab_at mX6_row 29 = some (.iload_n 2, 1, (0, 99999, 0), []) := rfl
theorem at_X6_row_30 : ab_at mX6_row 30 = some (.iconst 3, 1, (0, 99999, 0), []) := rfl
theorem at_X6_row_31 : ab_at mX6_row 31 = some (.if_icmp .le 10, 3, (0, 99999, 0), []) := rfl
theorem at_X6_row_41 : ab_at mX6_row 41 = some (.iload_n 3, 1, (0, 99999, 0), []) := rfl
theorem at_X6_row_42 : ab_at mX6_row 42 = some (.sipush 160, 3, (0, 99999, 0), []) := rfl
theorem at_X6_row_45 : ab_at mX6_row 45 = some (.if_icmp .le 10, 3, (0, 99999, 0), []) := rfl
theorem at_X6_row_5 : ab_at mX6_row 5 = some (.ifCond .ne 9, 3, (0, 99999, 0), []) := rfl
theorem at_X6_rule_0 : ab_at mX6_rule 0 = some (.aload_n 0, 1, (0, 99999, 0), []) := rfl
theorem at_X6_rule_1 : ab_at mX6_rule 1 = some (.iload_n 1, 1, (0, 99999, 0), []) := rfl
theorem at_X6_rule_2 : ab_at mX6_rule 2 = some (.iconst 0, 1, (0, 99999, 0), []) := rfl
theorem at_X6_rule_3 : ab_at mX6_rule 3 = some (.iconst 1, 1, (0, 99999, 0), []) := rfl
theorem at_X6_rule_4 : ab_at mX6_rule 4 = some (.invokevirtual 128, 3, (3, 134, 3), [333]) := rfl
theorem at_X6_rule_7 : ab_at mX6_rule 7 = some (.ifCond .ne 10, 3, (0, 99999, 0), []) := rfl
theorem at_X6_rules_0 : ab_at mX6_rules 0 = some (.aload_n 0, 1, (0, 99999, 0), []) := rfl
theorem at_X6_rules_1 : ab_at mX6_rules 1 = some (.iload_n 1, 1, (0, 99999, 0), []) := rfl
theorem at_X6_rules_10 : ab_at mX6_rules 10 = some (.iconst 0, 1, (0, 99999, 0), []) := rfl
theorem at_X6_rules_100 : ab_at mX6_rules 100 = some (.iconst 1, 1, (0, 99999, 0), []) := rfl
theorem at_X6_rules_101 : ab_at mX6_rules 101 = some (.iadd, 1, (0, 99999, 0), []) := rfl
theorem at_X6_rules_102 : ab_at mX6_rules 102 = some (.invokevirtual 260, 3, (3, 143, 2), [398]) := rfl
theorem at_X6_rules_105 : ab_at mX6_rules 105 = some (.istore 7, 2, (0, 99999, 0), []) := rfl
theorem at_X6_rules_107 : ab_at mX6_rules 107 = some (.aload_n 0, 1, (0, 99999, 0), []) := rfl
theorem at_X6_rules_108 : ab_at mX6_rules 108 = some (.getfield 87, 3, (1, 6, 35), [372]) := rfl
theorem at_X6_rules_11 : ab_at mX6_rules 11 = some (.istore 4, 2, (0, 99999, 0), []) := rfl
theorem at_X6_rules_111 : ab_at mX6_rules 111 = some (.iload 6, 2, (0, 99999, 0), []) := rfl
theorem at_X6_rules_113 : ab_at mX6_rules 113 = some (.iaload, 1, (0, 99999, 0), []) := rfl
theorem at_X6_rules_114 : ab_at mX6_rules 114 = some (.iload 7, 2, (0, 99999, 0), []) := rfl
theorem at_X6_rules_116 : ab_at mX6_rules 116 = some (.if_icmp .eq 9, 3, (0, 99999, 0), []) := rfl
theorem at_X6_rules_119 : ab_at mX6_rules 119 = some (.iload 4, 2, (0, 99999, 0), []) := rfl
theorem at_X6_rules_121 : ab_at mX6_rules 121 = some (.iconst 2, 1, (0, 99999, 0), []) := rfl
theorem at_X6_rules_122 : ab_at mX6_rules 122 = some (.iand, 1, (0, 99999, 0), []) := rfl
theorem at_X6_rules_123 : ab_at mX6_rules 123 = some (.istore 4, 2, (0, 99999, 0), []) := rfl
theorem at_X6_rules_125 : ab_at mX6_rules 125 = some (.aload_n 0, 1, (0, 99999, 0), []) := rfl
theorem at_X6_rules_126 : ab_at mX6_rules 126 = some (.iload 6, 2, (0, 99999, 0), []) := rfl
theorem at_X6_rules_128 : ab_at mX6_rules 128 = some (.invokevirtual 213, 3, (3, 171, 1), [376]) := rfl
theorem at_X6_rules_13 : ab_at mX6_rules 13 = some (.iload 4, 2, (0, 99999, 0), []) := rfl
theorem at_X6_rules_131 : ab_at mX6_rules 131 = some (.iload 7, 2, (0, 99999, 0), []) := rfl
theorem at_X6_rules_133 : ab_at mX6_rules 133 = some (.if_icmp .eq 9, 3, (0, 99999, 0), []) := rfl
theorem at_X6_rules_136 : ab_at mX6_rules 136 = some (.iload 4, 2, (0, 99999, 0), []) := rfl
theorem at_X6_rules_138 : ab_at mX6_rules 138 = some (.iconst 1, 1, (0, 99999, 0), []) := rfl
theorem at_X6_rules_139 : ab_at mX6_rules 139 = some (.iand, 1, (0, 99999, 0), []) := rfl
theorem at_X6_rules_140 : ab_at mX6_rules 140 = some (.istore 4, 2, (0, 99999, 0), []) := rfl
theorem at_X6_rules_142 : ab_at mX6_rules 142 = some (.iinc 5 1, 3, (0, 99999, 0), []) := rfl
theorem at_X6_rules_145 : ab_at mX6_rules 145 = some (.goto (-68), 3, (0, 99999, 0), []) := rfl
theorem at_X6_rules_15 : ab_at mX6_rules 15 = some (.iload_n 2, 1, (0, 99999, 0), []) := rfl
theorem at_X6_rules_16 : ab_at mX6_rules 16 = some (.if_icmp .ge 35, 3, (0, 99999, 0), []) := rfl
theorem at_X6_rules_19 : ab_at mX6_rules 19 = some (.iload_n 3, 1, (0, 99999, 0), []) := rfl
theorem at_X6_rules_2 : ab_at mX6_rules 2 = some (.iload_n 2, 1, (0, 99999, 0), []) := rfl
theorem at_X6_rules_20 : ab_at mX6_rules 20 = some (.ifCond .ne 31, 3, (0, 99999, 0), []) := rfl
theorem at_X6_rules_23 : ab_at mX6_rules 23 = some (.aload_n 0, 1, (0, 99999, 0), []) := rfl
theorem at_X6_rules_24 : ab_at mX6_rules 24 = some (.aload_n 0, 1, (0, 99999, 0), []) := rfl
theorem at_X6_rules_25 : ab_at mX6_rules 25 = some (.iload_n 1, 1, (0, 99999, 0), []) := rfl
theorem at_X6_rules_26 : ab_at mX6_rules 26 = some (.iconst 2, 1, (0, 99999, 0), []) := rfl
theorem at_X6_rules_27 : ab_at mX6_rules 27 = some (.iload 4, 2, (0, 99999, 0), []) := rfl
theorem at_X6_rules_29 : ab_at mX6_rules 29 = some (.imul, 1, (0, 99999, 0), []) := rfl
theorem at_X6_rules_3 : ab_at mX6_rules 3 = some (.bipush 40, 2, (0, 99999, 0), []) := rfl
theorem at_X6_rules_30 : ab_at mX6_rules 30 = some (.invokevirtual 260, 3, (3, 143, 2), [398]) := rfl
theorem at_X6_rules_33 : ab_at mX6_rules 33 = some (.iconst 0, 1, (0, 99999, 0), []) := rfl
theorem at_X6_rules_34 : ab_at mX6_rules 34 = some (.bipush 99, 2, (0, 99999, 0), []) := rfl
theorem at_X6_rules_36 : ab_at mX6_rules 36 = some (.invokevirtual 128, 3, (3, 134, 3), [333]) := rfl
theorem at_X6_rules_39 : ab_at mX6_rules 39 = some (.ifCond .ne 6, 3, (0, 99999, 0), []) := rfl
theorem at_X6_rules_42 : ab_at mX6_rules 42 = some (.bipush (-6), 2, (0, 99999, 0), []) := rfl
theorem at_X6_rules_44 : ab_at mX6_rules 44 = some (.istore_n 3, 1, (0, 99999, 0), []) := rfl
theorem at_X6_rules_45 : ab_at mX6_rules 45 = some (.iinc 4 1, 3, (0, 99999, 0), []) := rfl
theorem at_X6_rules_48 : ab_at mX6_rules 48 = some (.goto (-35), 3, (0, 99999, 0), []) := rfl
theorem at_X6_rules_5 : ab_at mX6_rules 5 = some (.iconst 1, 1, (0, 99999, 0), []) := rfl
theorem at_X6_rules_51 : ab_at mX6_rules 51 = some (.iload_n 3, 1, (0, 99999, 0), []) := rfl
theorem at_X6_rules_52 : ab_at mX6_rules 52 = some (.ifCond .eq 9, 3, (0, 99999, 0), []) := rfl
theorem at_X6_rules_55 : ab_at mX6_rules 55 = some (.aload_n 0, 1, (0, 99999, 0), []) := rfl
theorem at_X6_rules_56 : ab_at mX6_rules 56 = some (.iload_n 3, 1, (0, 99999, 0), []) := rfl
theorem at_X6_rules_57 : ab_at mX6_rules 57 = some (.invokevirtual 115, 3, (3, 129, 1), [313]) := rfl
theorem at_X6_rules_6 : ab_at mX6_rules 6 = some (.invokevirtual 256, 3, (3, 186, 4), [397]) := rfl
theorem at_X6_rules_60 : ab_at mX6_rules 60 = some (.ireturn, 1, (0, 99999, 0), []) := rfl
theorem at_X6_rules_77 : ab_at mX6_rules 77 = some (.iload 5, 2, (0, 99999, 0), []) := rfl
theorem at_X6_rules_79 : ab_at mX6_rules 79 = some (.iload_n 2, 1, (0, 99999, 0), []) := rfl
theorem at_X6_rules_80 : ab_at mX6_rules 80 = some (.if_icmp .ge 68, 3, (0, 99999, 0), []) := rfl
theorem at_X6_rules_83 : ab_at mX6_rules 83 = some (.aload_n 0, 1, (0, 99999, 0), []) := rfl
theorem at_X6_rules_84 : ab_at mX6_rules 84 = some (.iload_n 1, 1, (0, 99999, 0), []) := rfl
theorem at_X6_rules_85 : ab_at mX6_rules 85 = some (.iconst 2, 1, (0, 99999, 0), []) := rfl
theorem at_X6_rules_86 : ab_at mX6_rules 86 = some (.iload 5, 2, (0, 99999, 0), []) := rfl
theorem at_X6_rules_88 : ab_at mX6_rules 88 = some (.imul, 1, (0, 99999, 0), []) := rfl
theorem at_X6_rules_89 : ab_at mX6_rules 89 = some (.invokevirtual 260, 3, (3, 143, 2), [398]) := rfl
theorem at_X6_rules_9 : ab_at mX6_rules 9 = some (.istore_n 3, 1, (0, 99999, 0), []) := rfl
theorem at_X6_rules_92 : ab_at mX6_rules 92 = some (.istore 6, 2, (0, 99999, 0), []) := rfl
theorem at_X6_rules_94 : ab_at mX6_rules 94 = some (.aload_n 0, 1, (0, 99999, 0), []) := rfl
theorem at_X6_rules_95 : ab_at mX6_rules 95 = some (.iload_n 1, 1, (0, 99999, 0), []) := rfl
theorem at_X6_rules_96 : ab_at mX6_rules 96 = some (.iconst 2, 1, (0, 99999, 0), []) := rfl
theorem at_X6_rules_97 : ab_at mX6_rules 97 = some (.iload 5, 2, (0, 99999, 0), []) := rfl
theorem at_X6_rules_99 : ab_at mX6_rules 99 = some (.imul, 1, (0, 99999, 0), []) := rfl
theorem at_X6_run_0 : ab_at mX6_run 0 = some (.aload_n 0, 1, (0, 99999, 0), []) := rfl
theorem at_X6_run_1 : ab_at mX6_run 1 = some (.iload_n 1, 1, (0, 99999, 0), []) := rfl
theorem at_X6_run_12 : ab_at mX6_run 12 = some (.ifCond .ne 10, 3, (0, 99999, 0), []) := rfl
theorem at_X6_run_2 : ab_at mX6_run 2 = some (.iconst (-1), 1, (0, 99999, 0), []) := rfl
theorem at_X6_run_3 : ab_at mX6_run 3 = some (.aload_n 0, 1, (0, 99999, 0), []) := rfl
theorem at_X6_run_4 : ab_at mX6_run 4 = some (.getfield 108, 3, (1, 6, 1), [311]) := rfl
theorem at_X6_run_7 : ab_at mX6_run 7 = some (.iconst 1, 1, (0, 99999, 0), []) := rfl
theorem at_X6_run_8 : ab_at mX6_run 8 = some (.isub, 1, (0, 99999, 0), []) := rfl
theorem at_X6_run_9 : ab_at mX6_run 9 = some (.invokevirtual 128, 3, (3, 134, 3), [333]) := rfl
theorem at_X6_says_0 : ab_at mX6_says 0 = some (.aload_n 0, 1, (0, 99999, 0), []) := rfl
theorem at_X6_says_1 : ab_at mX6_says 1 = some (.iload_n 1, 1, (0, 99999, 0), []) := rfl
theorem at_X6_says_101 : ab_at mX6_says 101 = some (.bipush 6, 2, (0, 99999, 0), []) := rfl
theorem at_X6_says_103 : ab_at mX6_says 103 = some (.if_icmp .ne 7, 3, (0, 99999, 0), []) := rfl
theorem at_X6_says_106 : ab_at mX6_says 106 = some (.iconst 1, 1, (0, 99999, 0), []) := rfl
theorem at_X6_says_107 : ab_at mX6_says 107 = some (.goto 4, 3, (0, 99999, 0), []) := rfl
theorem at_X6_says_110 : ab_at mX6_says 110 = some (.iconst 0, 1, (0, 99999, 0), []) := rfl
theorem at_X6_says_111 : ab_at mX6_says 111 = some (.istore 5, 2, (0, 99999, 0), []) := rfl
theorem at_X6_says_113 : ab_at mX6_says 113 = some (.iload_n 2, 1, (0, 99999, 0), []) := rfl
theorem at_X6_says_114 : ab_at mX6_says 114 = some (.ifCond .eq 21, 3, (0, 99999, 0), []) := rfl
theorem at_X6_says_117 : ab_at mX6_says 117 = some (.iload_n 2, 1, (0, 99999, 0), []) := rfl
theorem at_X6_says_118 : ab_at mX6_says 118 = some (.iload 4, 2, (0, 99999, 0), []) := rfl
theorem at_X6_says_12 : ab_at mX6_says 12 = some (.iload_n 2, 1, (0, 99999, 0), []) := rfl
theorem at_X6_says_120 : ab_at mX6_says 120 = some (.if_icmp .eq 15, 3, (0, 99999, 0), []) := rfl
theorem at_X6_says_123 : ab_at mX6_says 123 = some (.iload 5, 2, (0, 99999, 0), []) := rfl
theorem at_X6_says_125 : ab_at mX6_says 125 = some (.ifCond .ne 10, 3, (0, 99999, 0), []) := rfl
theorem at_X6_says_128 : ab_at mX6_says 128 = some (.aload_n 0, 1, (0, 99999, 0), []) := rfl
theorem at_X6_says_129 : ab_at mX6_says 129 = some (.bipush (-2), 2, (0, 99999, 0), []) := rfl
theorem at_X6_says_13 : ab_at mX6_says 13 = some (.bipush 6, 2, (0, 99999, 0), []) := rfl
theorem at_X6_says_131 : ab_at mX6_says 131 = some (.invokevirtual 115, 3, (3, 129, 1), [313]) := rfl
theorem at_X6_says_134 : ab_at mX6_says 134 = some (.ireturn, 1, (0, 99999, 0), []) := rfl
theorem at_X6_says_135 : ab_at mX6_says 135 = some (.iload_n 2, 1, (0, 99999, 0), []) := rfl
theorem at_X6_says_136 : ab_at mX6_says 136 = some (.tableswitch 59 0 5 #[40, 47, 53, 47, 59, 53], 40, (0, 99999, 0), []) := rfl
theorem at_X6_says_15 : ab_at mX6_says 15 = some (.if_icmp .le 9, 3, (0, 99999, 0), []) := rfl
theorem at_X6_says_18 : ab_at mX6_says 18 = some (.aload_n 0, 1, (0, 99999, 0), []) := rfl
theorem at_X6_says_183 : ab_at mX6_says 183 = some (.aload_n 0, 1, (0, 99999, 0), []) := rfl
theorem at_X6_says_184 : ab_at mX6_says 184 = some (.iload_n 3, 1, (0, 99999, 0), []) := rfl
theorem at_X6_says_185 : ab_at mX6_says 185 = some (.invokevirtual 122, 3, (3, 145, 1), [323]) := rfl
theorem at_X6_says_188 : ab_at mX6_says 188 = some (.ireturn, 1, (0, 99999, 0), []) := rfl
theorem at_X6_says_189 : ab_at mX6_says 189 = some (.aload_n 0, 1, (0, 99999, 0), []) := rfl
theorem at_X6_says_19 : ab_at mX6_says 19 = some (.iconst (-1), 1, (0, 99999, 0), []) := rfl
theorem at_X6_says_190 : ab_at mX6_says 190 = some (.iload_n 3, 1, (0, 99999, 0), []) := rfl
theorem at_X6_says_191 : ab_at mX6_says 191 = some (.invokevirtual 125, 3, (3, 144, 1), [324]) := rfl
theorem at_X6_says_194 : ab_at mX6_says 194 = some (.ireturn, 1, (0, 99999, 0), []) := rfl
theorem at_X6_says_195 : ab_at mX6_says 195 = some (.aload_n 0, 1, (0, 99999, 0), []) := rfl
theorem at_X6_says_196 : ab_at mX6_says 196 = some (.getfield 23, 3, (1, 6, 9), [325]) := rfl
theorem at_X6_says_199 : ab_at mX6_says 199 = some (.iload_n 3, 1, (0, 99999, 0), []) := rfl
theorem at_X6_says_2 : ab_at mX6_says 2 = some (.invokevirtual 111, 3, (3, 131, 1), [312]) := rfl
theorem at_X6_says_20 : ab_at mX6_says 20 = some (.invokevirtual 115, 3, (3, 129, 1), [313]) := rfl
theorem at_X6_says_200 : ab_at mX6_says 200 = some (.iaload, 1, (0, 99999, 0), []) := rfl
theorem at_X6_says_201 : ab_at mX6_says 201 = some (.ireturn, 1, (0, 99999, 0), []) := rfl
theorem at_X6_says_23 : ab_at mX6_says 23 = some (.ireturn, 1, (0, 99999, 0), []) := rfl
theorem at_X6_says_24 : ab_at mX6_says 24 = some (.aload_n 0, 1, (0, 99999, 0), []) := rfl
theorem at_X6_says_25 : ab_at mX6_says 25 = some (.getfield 47, 3, (1, 6, 17), [314]) := rfl
theorem at_X6_says_28 : ab_at mX6_says 28 = some (.iload_n 1, 1, (0, 99999, 0), []) := rfl
theorem at_X6_says_29 : ab_at mX6_says 29 = some (.iaload, 1, (0, 99999, 0), []) := rfl
theorem at_X6_says_30 : ab_at mX6_says 30 = some (.iconst 1, 1, (0, 99999, 0), []) := rfl
theorem at_X6_says_31 : ab_at mX6_says 31 = some (.if_icmp .ne 10, 3, (0, 99999, 0), []) := rfl
theorem at_X6_says_41 : ab_at mX6_says 41 = some (.aload_n 0, 1, (0, 99999, 0), []) := rfl
theorem at_X6_says_42 : ab_at mX6_says 42 = some (.getfield 47, 3, (1, 6, 17), [314]) := rfl
theorem at_X6_says_45 : ab_at mX6_says 45 = some (.iload_n 1, 1, (0, 99999, 0), []) := rfl
theorem at_X6_says_46 : ab_at mX6_says 46 = some (.iaload, 1, (0, 99999, 0), []) := rfl
theorem at_X6_says_47 : ab_at mX6_says 47 = some (.ifCond .ne 10, 3, (0, 99999, 0), []) := rfl
theorem at_X6_says_5 : ab_at mX6_says 5 = some (.ifCond .eq 13, 3, (0, 99999, 0), []) := rfl
theorem at_X6_says_57 : ab_at mX6_says 57 = some (.aload_n 0, 1, (0, 99999, 0), []) := rfl
theorem at_X6_says_58 : ab_at mX6_says 58 = some (.getfield 56, 3, (1, 6, 20), [320]) := rfl
theorem at_X6_says_61 : ab_at mX6_says 61 = some (.iload_n 1, 1, (0, 99999, 0), []) := rfl
theorem at_X6_says_62 : ab_at mX6_says 62 = some (.iaload, 1, (0, 99999, 0), []) := rfl
theorem at_X6_says_63 : ab_at mX6_says 63 = some (.istore_n 3, 1, (0, 99999, 0), []) := rfl
theorem at_X6_says_64 : ab_at mX6_says 64 = some (.aload_n 0, 1, (0, 99999, 0), []) := rfl
theorem at_X6_says_65 : ab_at mX6_says 65 = some (.getfield 20, 3, (1, 6, 8), [321]) := rfl
theorem at_X6_says_68 : ab_at mX6_says 68 = some (.iload_n 3, 1, (0, 99999, 0), []) := rfl
theorem at_X6_says_69 : ab_at mX6_says 69 = some (.iaload, 1, (0, 99999, 0), []) := rfl
theorem at_X6_says_70 : ab_at mX6_says 70 = some (.istore 4, 2, (0, 99999, 0), []) := rfl
theorem at_X6_says_72 : ab_at mX6_says 72 = some (.iload_n 2, 1, (0, 99999, 0), []) := rfl
theorem at_X6_says_73 : ab_at mX6_says 73 = some (.iconst 1, 1, (0, 99999, 0), []) := rfl
theorem at_X6_says_74 : ab_at mX6_says 74 = some (.if_icmp .ne 9, 3, (0, 99999, 0), []) := rfl
theorem at_X6_says_77 : ab_at mX6_says 77 = some (.iload 4, 2, (0, 99999, 0), []) := rfl
theorem at_X6_says_79 : ab_at mX6_says 79 = some (.iconst 3, 1, (0, 99999, 0), []) := rfl
theorem at_X6_says_8 : ab_at mX6_says 8 = some (.iload_n 2, 1, (0, 99999, 0), []) := rfl
theorem at_X6_says_80 : ab_at mX6_says 80 = some (.if_icmp .eq 26, 3, (0, 99999, 0), []) := rfl
theorem at_X6_says_83 : ab_at mX6_says 83 = some (.iload_n 2, 1, (0, 99999, 0), []) := rfl
theorem at_X6_says_84 : ab_at mX6_says 84 = some (.iconst 2, 1, (0, 99999, 0), []) := rfl
theorem at_X6_says_85 : ab_at mX6_says 85 = some (.if_icmp .ne 9, 3, (0, 99999, 0), []) := rfl
theorem at_X6_says_88 : ab_at mX6_says 88 = some (.iload 4, 2, (0, 99999, 0), []) := rfl
theorem at_X6_says_9 : ab_at mX6_says 9 = some (.ifCond .lt 9, 3, (0, 99999, 0), []) := rfl
theorem at_X6_says_90 : ab_at mX6_says 90 = some (.iconst 5, 1, (0, 99999, 0), []) := rfl
theorem at_X6_says_91 : ab_at mX6_says 91 = some (.if_icmp .eq 15, 3, (0, 99999, 0), []) := rfl
theorem at_X6_says_94 : ab_at mX6_says 94 = some (.iload_n 2, 1, (0, 99999, 0), []) := rfl
theorem at_X6_says_95 : ab_at mX6_says 95 = some (.iconst 4, 1, (0, 99999, 0), []) := rfl
theorem at_X6_says_96 : ab_at mX6_says 96 = some (.if_icmp .ne 14, 3, (0, 99999, 0), []) := rfl
theorem at_X6_says_99 : ab_at mX6_says 99 = some (.iload 4, 2, (0, 99999, 0), []) := rfl
theorem at_X6_set_0 : ab_at mX6_set 0 = some (.aload_n 0, 1, (0, 99999, 0), []) := rfl
theorem at_X6_set_1 : ab_at mX6_set 1 = some (.iload_n 1, 1, (0, 99999, 0), []) := rfl
theorem at_X6_set_129 : ab_at mX6_set 129 = some (.lastore, 1, (0, 99999, 0), []) := rfl
theorem at_X6_set_130 : ab_at mX6_set 130 = some (.iconst 1, 1, (0, 99999, 0), []) := rfl
theorem at_X6_set_131 : ab_at mX6_set 131 = some (.ireturn, 1, (0, 99999, 0), []) := rfl
theorem at_X6_set_14 : ab_at mX6_set 14 = some (.aload_n 0, 1, (0, 99999, 0), []) := rfl
theorem at_X6_set_15 : ab_at mX6_set 15 = some (.getfield 47, 3, (1, 6, 17), [314]) := rfl
theorem at_X6_set_18 : ab_at mX6_set 18 = some (.iload_n 1, 1, (0, 99999, 0), []) := rfl
theorem at_X6_set_19 : ab_at mX6_set 19 = some (.iaload, 1, (0, 99999, 0), []) := rfl
theorem at_X6_set_2 : ab_at mX6_set 2 = some (.invokevirtual 111, 3, (3, 131, 1), [312]) := rfl
theorem at_X6_set_20 : ab_at mX6_set 20 = some (.iconst 2, 1, (0, 99999, 0), []) := rfl
theorem at_X6_set_21 : ab_at mX6_set 21 = some (.if_icmp .ne 10, 3, (0, 99999, 0), []) := rfl
theorem at_X6_set_31 : ab_at mX6_set 31 = some (.aload_n 0, 1, (0, 99999, 0), []) := rfl
theorem at_X6_set_32 : ab_at mX6_set 32 = some (.getfield 47, 3, (1, 6, 17), [314]) := rfl
theorem at_X6_set_35 : ab_at mX6_set 35 = some (.iload_n 1, 1, (0, 99999, 0), []) := rfl
theorem at_X6_set_36 : ab_at mX6_set 36 = some (.iaload, 1, (0, 99999, 0), []) := rfl
theorem at_X6_set_37 : ab_at mX6_set 37 = some (.ifCond .ne 10, 3, (0, 99999, 0), []) := rfl
theorem at_X6_set_47 : ab_at mX6_set 47 = some (.iload_n 2, 1, (0, 99999, 0), []) := rfl
theorem at_X6_set_48 : ab_at mX6_set 48 = some (.ifCond .lt 13, 3, (0, 99999, 0), []) := rfl
theorem at_X6_set_5 : ab_at mX6_set 5 = some (.ifCond .ne 9, 3, (0, 99999, 0), []) := rfl
theorem at_X6_set_51 : ab_at mX6_set 51 = some (.iload_n 2, 1, (0, 99999, 0), []) := rfl
theorem at_X6_set_52 : ab_at mX6_set 52 = some (.aload_n 0, 1, (0, 99999, 0), []) := rfl
theorem at_X6_set_53 : ab_at mX6_set 53 = some (.getfield 53, 3, (1, 6, 19), [316]) := rfl
theorem at_X6_set_56 : ab_at mX6_set 56 = some (.iload_n 1, 1, (0, 99999, 0), []) := rfl
theorem at_X6_set_57 : ab_at mX6_set 57 = some (.iaload, 1, (0, 99999, 0), []) := rfl
theorem at_X6_set_58 : ab_at mX6_set 58 = some (.if_icmp .lt 10, 3, (0, 99999, 0), []) := rfl
theorem at_X6_set_68 : ab_at mX6_set 68 = some (.aload_n 0, 1, (0, 99999, 0), []) := rfl
theorem at_X6_set_69 : ab_at mX6_set 69 = some (.getfield 59, 3, (1, 6, 21), [317]) := rfl
theorem at_X6_set_72 : ab_at mX6_set 72 = some (.sipush 160, 3, (0, 99999, 0), []) := rfl
theorem at_X6_set_75 : ab_at mX6_set 75 = some (.iload_n 1, 1, (0, 99999, 0), []) := rfl
theorem at_X6_set_76 : ab_at mX6_set 76 = some (.imul, 1, (0, 99999, 0), []) := rfl
theorem at_X6_set_77 : ab_at mX6_set 77 = some (.iload_n 2, 1, (0, 99999, 0), []) := rfl
theorem at_X6_set_78 : ab_at mX6_set 78 = some (.iadd, 1, (0, 99999, 0), []) := rfl
theorem at_X6_set_79 : ab_at mX6_set 79 = some (.aload_n 0, 1, (0, 99999, 0), []) := rfl
theorem at_X6_set_80 : ab_at mX6_set 80 = some (.getfield 50, 3, (1, 6, 18), [315]) := rfl
theorem at_X6_set_83 : ab_at mX6_set 83 = some (.iload_n 1, 1, (0, 99999, 0), []) := rfl
theorem at_X6_set_84 : ab_at mX6_set 84 = some (.iaload, 1, (0, 99999, 0), []) := rfl
theorem at_X6_set_85 : ab_at mX6_set 85 = some (.ifCond .ne 10, 3, (0, 99999, 0), []) := rfl
theorem at_X6_show_0 : ab_at mX6_show 0 = some (.aload_n 0, 1, (0, 99999, 0), []) := rfl
theorem at_X6_show_1 : ab_at mX6_show 1 = some (.iload_n 1, 1, (0, 99999, 0), []) := rfl
theorem at_X6_show_10 : ab_at mX6_show 10 = some (.if_icmp .eq 17, 3, (0, 99999, 0), []) := rfl
theorem at_X6_show_13 : ab_at mX6_show 13 = some (.aload_n 0, 1, (0, 99999, 0), []) := rfl
theorem at_X6_show_14 : ab_at mX6_show 14 = some (.iload_n 2, 1, (0, 99999, 0), []) := rfl
theorem at_X6_show_15 : ab_at mX6_show 15 = some (.invokevirtual 119, 3, (3, 132, 1), [319]) := rfl
theorem at_X6_show_18 : ab_at mX6_show 18 = some (.ifCond .ne 9, 3, (0, 99999, 0), []) := rfl
theorem at_X6_show_2 : ab_at mX6_show 2 = some (.invokevirtual 111, 3, (3, 131, 1), [312]) := rfl
theorem at_X6_show_21 : ab_at mX6_show 21 = some (.aload_n 0, 1, (0, 99999, 0), []) := rfl
theorem at_X6_show_22 : ab_at mX6_show 22 = some (.iconst (-1), 1, (0, 99999, 0), []) := rfl
theorem at_X6_show_23 : ab_at mX6_show 23 = some (.invokevirtual 115, 3, (3, 129, 1), [313]) := rfl
theorem at_X6_show_26 : ab_at mX6_show 26 = some (.ireturn, 1, (0, 99999, 0), []) := rfl
theorem at_X6_show_27 : ab_at mX6_show 27 = some (.aload_n 0, 1, (0, 99999, 0), []) := rfl
theorem at_X6_show_28 : ab_at mX6_show 28 = some (.getfield 47, 3, (1, 6, 17), [314]) := rfl
theorem at_X6_show_31 : ab_at mX6_show 31 = some (.iload_n 1, 1, (0, 99999, 0), []) := rfl
theorem at_X6_show_32 : ab_at mX6_show 32 = some (.iload_n 2, 1, (0, 99999, 0), []) := rfl
theorem at_X6_show_33 : ab_at mX6_show 33 = some (.iconst (-1), 1, (0, 99999, 0), []) := rfl
theorem at_X6_show_34 : ab_at mX6_show 34 = some (.if_icmp .ne 7, 3, (0, 99999, 0), []) := rfl
theorem at_X6_show_42 : ab_at mX6_show 42 = some (.iastore, 1, (0, 99999, 0), []) := rfl
theorem at_X6_show_43 : ab_at mX6_show 43 = some (.aload_n 0, 1, (0, 99999, 0), []) := rfl
theorem at_X6_show_44 : ab_at mX6_show 44 = some (.getfield 56, 3, (1, 6, 20), [320]) := rfl
theorem at_X6_show_47 : ab_at mX6_show 47 = some (.iload_n 1, 1, (0, 99999, 0), []) := rfl
theorem at_X6_show_48 : ab_at mX6_show 48 = some (.iload_n 2, 1, (0, 99999, 0), []) := rfl
theorem at_X6_show_49 : ab_at mX6_show 49 = some (.iastore, 1, (0, 99999, 0), []) := rfl
theorem at_X6_show_5 : ab_at mX6_show 5 = some (.ifCond .eq 16, 3, (0, 99999, 0), []) := rfl
theorem at_X6_show_50 : ab_at mX6_show 50 = some (.iload_n 2, 1, (0, 99999, 0), []) := rfl
theorem at_X6_show_51 : ab_at mX6_show 51 = some (.iconst (-1), 1, (0, 99999, 0), []) := rfl
theorem at_X6_show_52 : ab_at mX6_show 52 = some (.if_icmp .ne 7, 3, (0, 99999, 0), []) := rfl
theorem at_X6_show_60 : ab_at mX6_show 60 = some (.ireturn, 1, (0, 99999, 0), []) := rfl
theorem at_X6_show_8 : ab_at mX6_show 8 = some (.iload_n 2, 1, (0, 99999, 0), []) := rfl
theorem at_X6_show_9 : ab_at mX6_show 9 = some (.iconst (-1), 1, (0, 99999, 0), []) := rfl
theorem at_X6_sinking_0 : ab_at mX6_sinking 0 = some (.aload_n 0, 1, (0, 99999, 0), []) := rfl
theorem at_X6_sinking_1 : ab_at mX6_sinking 1 = some (.getfield 20, 3, (1, 6, 8), [321]) := rfl
theorem at_X6_sinking_102 : ab_at mX6_sinking 102 = some (.iload 5, 2, (0, 99999, 0), []) := rfl
theorem at_X6_sinking_104 : ab_at mX6_sinking 104 = some (.ireturn, 1, (0, 99999, 0), []) := rfl
theorem at_X6_sinking_12 : ab_at mX6_sinking 12 = some (.iload_n 3, 1, (0, 99999, 0), []) := rfl
theorem at_X6_sinking_13 : ab_at mX6_sinking 13 = some (.bipush 6, 2, (0, 99999, 0), []) := rfl
theorem at_X6_sinking_15 : ab_at mX6_sinking 15 = some (.if_icmp .ne 7, 3, (0, 99999, 0), []) := rfl
theorem at_X6_sinking_22 : ab_at mX6_sinking 22 = some (.iconst 0, 1, (0, 99999, 0), []) := rfl
theorem at_X6_sinking_23 : ab_at mX6_sinking 23 = some (.istore 4, 2, (0, 99999, 0), []) := rfl
theorem at_X6_sinking_25 : ab_at mX6_sinking 25 = some (.iload_n 3, 1, (0, 99999, 0), []) := rfl
theorem at_X6_sinking_26 : ab_at mX6_sinking 26 = some (.iconst 5, 1, (0, 99999, 0), []) := rfl
theorem at_X6_sinking_27 : ab_at mX6_sinking 27 = some (.if_icmp .ne 9, 3, (0, 99999, 0), []) := rfl
theorem at_X6_sinking_36 : ab_at mX6_sinking 36 = some (.iload 4, 2, (0, 99999, 0), []) := rfl
theorem at_X6_sinking_38 : ab_at mX6_sinking 38 = some (.ifCond .eq 9, 3, (0, 99999, 0), []) := rfl
theorem at_X6_sinking_4 : ab_at mX6_sinking 4 = some (.iload_n 1, 1, (0, 99999, 0), []) := rfl
theorem at_X6_sinking_47 : ab_at mX6_sinking 47 = some (.aload_n 0, 1, (0, 99999, 0), []) := rfl
theorem at_X6_sinking_48 : ab_at mX6_sinking 48 = some (.bipush 12, 2, (0, 99999, 0), []) := rfl
theorem at_X6_sinking_5 : ab_at mX6_sinking 5 = some (.iaload, 1, (0, 99999, 0), []) := rfl
theorem at_X6_sinking_50 : ab_at mX6_sinking 50 = some (.invokevirtual 294, 3, (3, 204, 1), [415]) := rfl
theorem at_X6_sinking_53 : ab_at mX6_sinking 53 = some (.aload_n 0, 1, (0, 99999, 0), []) := rfl
theorem at_X6_sinking_54 : ab_at mX6_sinking 54 = some (.iload_n 1, 1, (0, 99999, 0), []) := rfl
theorem at_X6_sinking_55 : ab_at mX6_sinking 55 = some (.iload_n 2, 1, (0, 99999, 0), []) := rfl
theorem at_X6_sinking_56 : ab_at mX6_sinking 56 = some (.invokevirtual 300, 3, (3, 206, 2), [417]) := rfl
theorem at_X6_sinking_59 : ab_at mX6_sinking 59 = some (.istore 5, 2, (0, 99999, 0), []) := rfl
theorem at_X6_sinking_6 : ab_at mX6_sinking 6 = some (.istore_n 3, 1, (0, 99999, 0), []) := rfl
theorem at_X6_sinking_61 : ab_at mX6_sinking 61 = some (.iload 5, 2, (0, 99999, 0), []) := rfl
theorem at_X6_sinking_63 : ab_at mX6_sinking 63 = some (.aload_n 0, 1, (0, 99999, 0), []) := rfl
theorem at_X6_sinking_64 : ab_at mX6_sinking 64 = some (.iload_n 1, 1, (0, 99999, 0), []) := rfl
theorem at_X6_sinking_65 : ab_at mX6_sinking 65 = some (.iload_n 2, 1, (0, 99999, 0), []) := rfl
theorem at_X6_sinking_66 : ab_at mX6_sinking 66 = some (.aload_n 0, 1, (0, 99999, 0), []) := rfl
theorem at_X6_sinking_67 : ab_at mX6_sinking 67 = some (.getfield 23, 3, (1, 6, 9), [325]) := rfl
theorem at_X6_sinking_7 : ab_at mX6_sinking 7 = some (.iload_n 3, 1, (0, 99999, 0), []) := rfl
theorem at_X6_sinking_70 : ab_at mX6_sinking 70 = some (.iload_n 1, 1, (0, 99999, 0), []) := rfl
theorem at_X6_sinking_71 : ab_at mX6_sinking 71 = some (.iaload, 1, (0, 99999, 0), []) := rfl
theorem at_X6_sinking_72 : ab_at mX6_sinking 72 = some (.isub, 1, (0, 99999, 0), []) := rfl
theorem at_X6_sinking_73 : ab_at mX6_sinking 73 = some (.invokevirtual 297, 3, (3, 205, 2), [416]) := rfl
theorem at_X6_sinking_76 : ab_at mX6_sinking 76 = some (.ixor, 1, (0, 99999, 0), []) := rfl
theorem at_X6_sinking_77 : ab_at mX6_sinking 77 = some (.istore 5, 2, (0, 99999, 0), []) := rfl
theorem at_X6_sinking_79 : ab_at mX6_sinking 79 = some (.iload 4, 2, (0, 99999, 0), []) := rfl
theorem at_X6_sinking_8 : ab_at mX6_sinking 8 = some (.iconst 4, 1, (0, 99999, 0), []) := rfl
theorem at_X6_sinking_81 : ab_at mX6_sinking 81 = some (.ifCond .eq 9, 3, (0, 99999, 0), []) := rfl
theorem at_X6_sinking_9 : ab_at mX6_sinking 9 = some (.if_icmp .eq 9, 3, (0, 99999, 0), []) := rfl
theorem at_X6_sinking_90 : ab_at mX6_sinking 90 = some (.iload_n 3, 1, (0, 99999, 0), []) := rfl
theorem at_X6_sinking_91 : ab_at mX6_sinking 91 = some (.iconst 5, 1, (0, 99999, 0), []) := rfl
theorem at_X6_sinking_92 : ab_at mX6_sinking 92 = some (.if_icmp .ne 10, 3, (0, 99999, 0), []) := rfl
theorem at_X6_square_0 : ab_at mX6_square 0 = some (.aload_n 0, 1, (0, 99999, 0), []) := rfl
theorem at_X6_square_1 : ab_at mX6_square 1 = some (.iload_n 1, 1, (0, 99999, 0), []) := rfl
theorem at_X6_square_10 : ab_at mX6_square 10 = some (.aload_n 0, 1, (0, 99999, 0), []) := rfl
theorem at_X6_square_11 : ab_at mX6_square 11 = some (.iload_n 2, 1, (0, 99999, 0), []) := rfl
theorem at_X6_square_12 : ab_at mX6_square 12 = some (.invokevirtual 115, 3, (3, 129, 1), [313]) := rfl
theorem at_X6_square_15 : ab_at mX6_square 15 = some (.ireturn, 1, (0, 99999, 0), []) := rfl
theorem at_X6_square_2 : ab_at mX6_square 2 = some (.invokevirtual 194, 3, (3, 142, 1), [364]) := rfl
theorem at_X6_square_5 : ab_at mX6_square 5 = some (.istore_n 2, 1, (0, 99999, 0), []) := rfl
theorem at_X6_square_6 : ab_at mX6_square 6 = some (.iload_n 2, 1, (0, 99999, 0), []) := rfl
theorem at_X6_square_62 : ab_at mX6_square 62 = some (.iload 4, 2, (0, 99999, 0), []) := rfl
theorem at_X6_square_64 : ab_at mX6_square 64 = some (.ifCond .eq 69, 3, (0, 99999, 0), []) := rfl
theorem at_X6_square_67 : ab_at mX6_square 67 = some (.aload_n 0, 1, (0, 99999, 0), []) := rfl
theorem at_X6_square_68 : ab_at mX6_square 68 = some (.getfield 151, 3, (1, 6, 28), [343]) := rfl
theorem at_X6_square_7 : ab_at mX6_square 7 = some (.ifCond .eq 9, 3, (0, 99999, 0), []) := rfl
theorem at_X6_square_71 : ab_at mX6_square 71 = some (.aload_n 0, 1, (0, 99999, 0), []) := rfl
theorem at_X6_square_72 : ab_at mX6_square 72 = some (.getfield 154, 3, (1, 6, 29), [344]) := rfl
theorem at_X6_square_75 : ab_at mX6_square 75 = some (.if_icmp .ge 58, 3, (0, 99999, 0), []) := rfl
theorem at_X6_stands_0 : ab_at mX6_stands 0 = some (.iconst 0, 1, (0, 99999, 0), []) := rfl
theorem at_X6_stands_1 : ab_at mX6_stands 1 = some (.istore_n 2, 1, (0, 99999, 0), []) := rfl
theorem at_X6_stands_10 : ab_at mX6_stands 10 = some (.aload_n 0, 1, (0, 99999, 0), []) := rfl
theorem at_X6_stands_11 : ab_at mX6_stands 11 = some (.getfield 66, 3, (1, 6, 23), [342]) := rfl
theorem at_X6_stands_14 : ab_at mX6_stands 14 = some (.iload_n 2, 1, (0, 99999, 0), []) := rfl
theorem at_X6_stands_15 : ab_at mX6_stands 15 = some (.iaload, 1, (0, 99999, 0), []) := rfl
theorem at_X6_stands_16 : ab_at mX6_stands 16 = some (.ifCond .ne 7, 3, (0, 99999, 0), []) := rfl
theorem at_X6_stands_19 : ab_at mX6_stands 19 = some (.iconst 1, 1, (0, 99999, 0), []) := rfl
theorem at_X6_stands_2 : ab_at mX6_stands 2 = some (.iconst 0, 1, (0, 99999, 0), []) := rfl
theorem at_X6_stands_20 : ab_at mX6_stands 20 = some (.goto 4, 3, (0, 99999, 0), []) := rfl
theorem at_X6_stands_23 : ab_at mX6_stands 23 = some (.iconst 0, 1, (0, 99999, 0), []) := rfl
theorem at_X6_stands_24 : ab_at mX6_stands 24 = some (.iadd, 1, (0, 99999, 0), []) := rfl
theorem at_X6_stands_25 : ab_at mX6_stands 25 = some (.istore_n 3, 1, (0, 99999, 0), []) := rfl
theorem at_X6_stands_26 : ab_at mX6_stands 26 = some (.iinc 2 1, 3, (0, 99999, 0), []) := rfl
theorem at_X6_stands_29 : ab_at mX6_stands 29 = some (.goto (-25), 3, (0, 99999, 0), []) := rfl
theorem at_X6_stands_3 : ab_at mX6_stands 3 = some (.istore_n 3, 1, (0, 99999, 0), []) := rfl
theorem at_X6_stands_32 : ab_at mX6_stands 32 = some (.aload_n 0, 1, (0, 99999, 0), []) := rfl
theorem at_X6_stands_33 : ab_at mX6_stands 33 = some (.getfield 151, 3, (1, 6, 28), [343]) := rfl
theorem at_X6_stands_36 : ab_at mX6_stands 36 = some (.istore_n 3, 1, (0, 99999, 0), []) := rfl
theorem at_X6_stands_4 : ab_at mX6_stands 4 = some (.iload_n 3, 1, (0, 99999, 0), []) := rfl
theorem at_X6_stands_5 : ab_at mX6_stands 5 = some (.iload_n 1, 1, (0, 99999, 0), []) := rfl
theorem at_X6_stands_6 : ab_at mX6_stands 6 = some (.if_icmp .ge 26, 3, (0, 99999, 0), []) := rfl
theorem at_X6_stands_9 : ab_at mX6_stands 9 = some (.iload_n 3, 1, (0, 99999, 0), []) := rfl
theorem at_X6_status_0 : ab_at mX6_status 0 = some (.iload_n 1, 1, (0, 99999, 0), []) := rfl
theorem at_X6_status_1 : ab_at mX6_status 1 = some (.bipush 11, 2, (0, 99999, 0), []) := rfl
theorem at_X6_status_22 : ab_at mX6_status 22 = some (.iload_n 1, 1, (0, 99999, 0), []) := rfl
theorem at_X6_status_23 : ab_at mX6_status 23 = some (.tableswitch 115 0 9 #[53, 58, 63, 74, 85, 90, 95, 100, 105, 110], 53, (0, 99999, 0), []) := rfl
theorem at_X6_status_3 : ab_at mX6_status 3 = some (.if_icmp .lt 19, 3, (0, 99999, 0), []) := rfl
theorem at_X6_tell_0 : ab_at mX6_tell 0 = some (.aload_n 0, 1, (0, 99999, 0), []) := rfl
theorem at_X6_tell_1 : ab_at mX6_tell 1 = some (.iload_n 1, 1, (0, 99999, 0), []) := rfl
theorem at_X6_tell_14 : ab_at mX6_tell 14 = some (.iload_n 2, 1, (0, 99999, 0), []) := rfl
theorem at_X6_tell_15 : ab_at mX6_tell 15 = some (.ifCond .lt 38, 3, (0, 99999, 0), []) := rfl
theorem at_X6_tell_18 : ab_at mX6_tell 18 = some (.iload_n 2, 1, (0, 99999, 0), []) := rfl
theorem at_X6_tell_19 : ab_at mX6_tell 19 = some (.iconst 2, 1, (0, 99999, 0), []) := rfl
theorem at_X6_tell_2 : ab_at mX6_tell 2 = some (.invokevirtual 142, 3, (3, 133, 1), [339]) := rfl
theorem at_X6_tell_20 : ab_at mX6_tell 20 = some (.if_icmp .gt 33, 3, (0, 99999, 0), []) := rfl
theorem at_X6_tell_23 : ab_at mX6_tell 23 = some (.aload_n 0, 1, (0, 99999, 0), []) := rfl
theorem at_X6_tell_24 : ab_at mX6_tell 24 = some (.iload_n 3, 1, (0, 99999, 0), []) := rfl
theorem at_X6_tell_25 : ab_at mX6_tell 25 = some (.iconst 0, 1, (0, 99999, 0), []) := rfl
theorem at_X6_tell_26 : ab_at mX6_tell 26 = some (.iload_n 2, 1, (0, 99999, 0), []) := rfl
theorem at_X6_tell_27 : ab_at mX6_tell 27 = some (.ifCond .ne 8, 3, (0, 99999, 0), []) := rfl
theorem at_X6_tell_35 : ab_at mX6_tell 35 = some (.iload_n 2, 1, (0, 99999, 0), []) := rfl
theorem at_X6_tell_36 : ab_at mX6_tell 36 = some (.iconst 1, 1, (0, 99999, 0), []) := rfl
theorem at_X6_tell_37 : ab_at mX6_tell 37 = some (.if_icmp .ne 8, 3, (0, 99999, 0), []) := rfl
theorem at_X6_tell_47 : ab_at mX6_tell 47 = some (.invokevirtual 128, 3, (3, 134, 3), [333]) := rfl
theorem at_X6_tell_5 : ab_at mX6_tell 5 = some (.ifCond .ne 9, 3, (0, 99999, 0), []) := rfl
theorem at_X6_tell_50 : ab_at mX6_tell 50 = some (.ifCond .ne 10, 3, (0, 99999, 0), []) := rfl
theorem at_X6_tell_53 : ab_at mX6_tell 53 = some (.aload_n 0, 1, (0, 99999, 0), []) := rfl
theorem at_X6_tell_54 : ab_at mX6_tell 54 = some (.bipush (-6), 2, (0, 99999, 0), []) := rfl
theorem at_X6_tell_56 : ab_at mX6_tell 56 = some (.invokevirtual 115, 3, (3, 129, 1), [313]) := rfl
theorem at_X6_tell_59 : ab_at mX6_tell 59 = some (.ireturn, 1, (0, 99999, 0), []) := rfl
theorem at_X6_tellsBest_121 : ab_at mX6_tellsBest 121 = some (.iinc 2 1, 3, (0, 99999, 0), []) := rfl
theorem at_X6_tellsBest_124 : ab_at mX6_tellsBest 124 = some (.goto (-101), 3, (0, 99999, 0), []) := rfl
theorem at_X6_tellsBest_23 : ab_at mX6_tellsBest 23 = some (.iload_n 2, 1, (0, 99999, 0), []) := rfl
theorem at_X6_tellsBest_24 : ab_at mX6_tellsBest 24 = some (.iconst 1, 1, (0, 99999, 0), []) := rfl
theorem at_X6_tellsBest_25 : ab_at mX6_tellsBest 25 = some (.aload_n 0, 1, (0, 99999, 0), []) := rfl
theorem at_X6_tellsBest_26 : ab_at mX6_tellsBest 26 = some (.getfield 105, 3, (1, 6, 0), [310]) := rfl
theorem at_X6_tellsBest_29 : ab_at mX6_tellsBest 29 = some (.ishl, 1, (0, 99999, 0), []) := rfl
theorem at_X6_tellsBest_30 : ab_at mX6_tellsBest 30 = some (.if_icmp .ge 97, 3, (0, 99999, 0), []) := rfl
theorem at_X6_tellsBest_33 : ab_at mX6_tellsBest 33 = some (.iload_n 2, 1, (0, 99999, 0), []) := rfl
theorem at_X6_tellsBest_34 : ab_at mX6_tellsBest 34 = some (.iload_n 1, 1, (0, 99999, 0), []) := rfl
theorem at_X6_tellsBest_35 : ab_at mX6_tellsBest 35 = some (.iand, 1, (0, 99999, 0), []) := rfl
theorem at_X6_tellsBest_36 : ab_at mX6_tellsBest 36 = some (.iload_n 2, 1, (0, 99999, 0), []) := rfl
theorem at_X6_tellsBest_37 : ab_at mX6_tellsBest 37 = some (.if_icmp .eq 6, 3, (0, 99999, 0), []) := rfl
theorem at_X6_tellsBest_43 : ab_at mX6_tellsBest 43 = some (.aload_n 0, 1, (0, 99999, 0), []) := rfl
theorem at_X6_tellsBest_44 : ab_at mX6_tellsBest 44 = some (.iload_n 2, 1, (0, 99999, 0), []) := rfl
theorem at_X6_tellsBest_45 : ab_at mX6_tellsBest 45 = some (.invokevirtual 204, 3, (3, 168, 1), [373]) := rfl
theorem at_X6_tellsBest_48 : ab_at mX6_tellsBest 48 = some (.istore_n 3, 1, (0, 99999, 0), []) := rfl
theorem at_X6_tellsBest_49 : ab_at mX6_tellsBest 49 = some (.iload_n 3, 1, (0, 99999, 0), []) := rfl
theorem at_X6_tellsBest_50 : ab_at mX6_tellsBest 50 = some (.bipush 99, 2, (0, 99999, 0), []) := rfl
theorem at_X6_tellsBest_52 : ab_at mX6_tellsBest 52 = some (.if_icmp .le 6, 3, (0, 99999, 0), []) := rfl
theorem at_X6_tellsBest_58 : ab_at mX6_tellsBest 58 = some (.aload_n 0, 1, (0, 99999, 0), []) := rfl
theorem at_X6_tellsBest_59 : ab_at mX6_tellsBest 59 = some (.getfield 87, 3, (1, 6, 35), [372]) := rfl
theorem at_X6_tellsBest_62 : ab_at mX6_tellsBest 62 = some (.iload_n 3, 1, (0, 99999, 0), []) := rfl
theorem at_X6_tellsBest_63 : ab_at mX6_tellsBest 63 = some (.iaload, 1, (0, 99999, 0), []) := rfl
theorem at_X6_tellsBest_64 : ab_at mX6_tellsBest 64 = some (.istore 4, 2, (0, 99999, 0), []) := rfl
theorem at_X6_tellsBest_66 : ab_at mX6_tellsBest 66 = some (.iload 4, 2, (0, 99999, 0), []) := rfl
theorem at_X6_tellsBest_68 : ab_at mX6_tellsBest 68 = some (.iconst (-1), 1, (0, 99999, 0), []) := rfl
theorem at_X6_tellsBest_69 : ab_at mX6_tellsBest 69 = some (.if_icmp .ne 7, 3, (0, 99999, 0), []) := rfl
theorem at_X6_tellsBest_76 : ab_at mX6_tellsBest 76 = some (.aload_n 0, 1, (0, 99999, 0), []) := rfl
theorem at_X6_tellsBest_77 : ab_at mX6_tellsBest 77 = some (.iload 4, 2, (0, 99999, 0), []) := rfl
theorem at_X6_tellsBest_79 : ab_at mX6_tellsBest 79 = some (.invokevirtual 207, 3, (3, 167, 1), [374]) := rfl
theorem at_X6_tellsBest_82 : ab_at mX6_tellsBest 82 = some (.aload_n 0, 1, (0, 99999, 0), []) := rfl
theorem at_X6_tellsBest_83 : ab_at mX6_tellsBest 83 = some (.iload_n 2, 1, (0, 99999, 0), []) := rfl
theorem at_X6_tellsBest_84 : ab_at mX6_tellsBest 84 = some (.invokevirtual 207, 3, (3, 167, 1), [374]) := rfl
theorem at_X6_tellsBest_87 : ab_at mX6_tellsBest 87 = some (.isub, 1, (0, 99999, 0), []) := rfl
theorem at_X6_tellsBest_88 : ab_at mX6_tellsBest 88 = some (.istore 5, 2, (0, 99999, 0), []) := rfl
theorem at_X6_tellsBest_90 : ab_at mX6_tellsBest 90 = some (.iload 5, 2, (0, 99999, 0), []) := rfl
theorem at_X6_tellsBest_92 : ab_at mX6_tellsBest 92 = some (.ifCond .gt 22, 3, (0, 99999, 0), []) := rfl
theorem at_X6_tellsThrow_22 : ab_at mX6_tellsThrow 22 = some (.iload_n 2, 1, (0, 99999, 0), []) := rfl
theorem at_X6_tellsThrow_23 : ab_at mX6_tellsThrow 23 = some (.aload_n 0, 1, (0, 99999, 0), []) := rfl
theorem at_X6_tellsThrow_24 : ab_at mX6_tellsThrow 24 = some (.getfield 32, 3, (1, 6, 12), [328]) := rfl
theorem at_X6_tellsThrow_27 : ab_at mX6_tellsThrow 27 = some (.iload_n 1, 1, (0, 99999, 0), []) := rfl
theorem at_X6_tellsThrow_28 : ab_at mX6_tellsThrow 28 = some (.iaload, 1, (0, 99999, 0), []) := rfl
theorem at_X6_tellsThrow_29 : ab_at mX6_tellsThrow 29 = some (.if_icmp .gt 58, 3, (0, 99999, 0), []) := rfl
theorem at_X6_tellsThrow_32 : ab_at mX6_tellsThrow 32 = some (.aload_n 0, 1, (0, 99999, 0), []) := rfl
theorem at_X6_tellsThrow_33 : ab_at mX6_tellsThrow 33 = some (.iload_n 1, 1, (0, 99999, 0), []) := rfl
theorem at_X6_tellsThrow_34 : ab_at mX6_tellsThrow 34 = some (.iload_n 2, 1, (0, 99999, 0), []) := rfl
theorem at_X6_tellsThrow_35 : ab_at mX6_tellsThrow 35 = some (.invokevirtual 236, 3, (3, 176, 2), [383]) := rfl
theorem at_X6_tellsThrow_38 : ab_at mX6_tellsThrow 38 = some (.istore_n 3, 1, (0, 99999, 0), []) := rfl
theorem at_X6_tellsThrow_39 : ab_at mX6_tellsThrow 39 = some (.iload_n 3, 1, (0, 99999, 0), []) := rfl
theorem at_X6_tellsThrow_40 : ab_at mX6_tellsThrow 40 = some (.iconst (-1), 1, (0, 99999, 0), []) := rfl
theorem at_X6_tellsThrow_41 : ab_at mX6_tellsThrow 41 = some (.if_icmp .eq 40, 3, (0, 99999, 0), []) := rfl
theorem at_X6_tellsThrow_44 : ab_at mX6_tellsThrow 44 = some (.aload_n 0, 1, (0, 99999, 0), []) := rfl
theorem at_X6_tellsThrow_45 : ab_at mX6_tellsThrow 45 = some (.getfield 230, 3, (1, 6, 36), [384]) := rfl
theorem at_X6_tellsThrow_48 : ab_at mX6_tellsThrow 48 = some (.iconst (-1), 1, (0, 99999, 0), []) := rfl
theorem at_X6_tellsThrow_49 : ab_at mX6_tellsThrow 49 = some (.if_icmp .eq 18, 3, (0, 99999, 0), []) := rfl
theorem at_X6_tellsThrow_81 : ab_at mX6_tellsThrow 81 = some (.iinc 2 1, 3, (0, 99999, 0), []) := rfl
theorem at_X6_tellsThrow_84 : ab_at mX6_tellsThrow 84 = some (.goto (-62), 3, (0, 99999, 0), []) := rfl
theorem at_X6_thrown_0 : ab_at mX6_thrown 0 = some (.iload_n 2, 1, (0, 99999, 0), []) := rfl
theorem at_X6_thrown_1 : ab_at mX6_thrown 1 = some (.aload_n 0, 1, (0, 99999, 0), []) := rfl
theorem at_X6_thrown_12 : ab_at mX6_thrown 12 = some (.isub, 1, (0, 99999, 0), []) := rfl
theorem at_X6_thrown_13 : ab_at mX6_thrown 13 = some (.istore_n 3, 1, (0, 99999, 0), []) := rfl
theorem at_X6_thrown_14 : ab_at mX6_thrown 14 = some (.aload_n 0, 1, (0, 99999, 0), []) := rfl
theorem at_X6_thrown_15 : ab_at mX6_thrown 15 = some (.iload_n 2, 1, (0, 99999, 0), []) := rfl
theorem at_X6_thrown_16 : ab_at mX6_thrown 16 = some (.iconst 0, 1, (0, 99999, 0), []) := rfl
theorem at_X6_thrown_17 : ab_at mX6_thrown 17 = some (.bipush 99, 2, (0, 99999, 0), []) := rfl
theorem at_X6_thrown_19 : ab_at mX6_thrown 19 = some (.invokevirtual 128, 3, (3, 134, 3), [333]) := rfl
theorem at_X6_thrown_2 : ab_at mX6_thrown 2 = some (.iload_n 1, 1, (0, 99999, 0), []) := rfl
theorem at_X6_thrown_22 : ab_at mX6_thrown 22 = some (.ifCond .eq 17, 3, (0, 99999, 0), []) := rfl
theorem at_X6_thrown_25 : ab_at mX6_thrown 25 = some (.iload_n 2, 1, (0, 99999, 0), []) := rfl
theorem at_X6_thrown_26 : ab_at mX6_thrown 26 = some (.aload_n 0, 1, (0, 99999, 0), []) := rfl
theorem at_X6_thrown_27 : ab_at mX6_thrown 27 = some (.getfield 32, 3, (1, 6, 12), [328]) := rfl
theorem at_X6_thrown_3 : ab_at mX6_thrown 3 = some (.aload_n 0, 1, (0, 99999, 0), []) := rfl
theorem at_X6_thrown_30 : ab_at mX6_thrown 30 = some (.iload_n 1, 1, (0, 99999, 0), []) := rfl
theorem at_X6_thrown_31 : ab_at mX6_thrown 31 = some (.iaload, 1, (0, 99999, 0), []) := rfl
theorem at_X6_thrown_32 : ab_at mX6_thrown 32 = some (.if_icmp .gt 7, 3, (0, 99999, 0), []) := rfl
theorem at_X6_thrown_35 : ab_at mX6_thrown 35 = some (.iload_n 3, 1, (0, 99999, 0), []) := rfl
theorem at_X6_thrown_36 : ab_at mX6_thrown 36 = some (.ifCond .ge 7, 3, (0, 99999, 0), []) := rfl
theorem at_X6_thrown_39 : ab_at mX6_thrown 39 = some (.iconst (-1), 1, (0, 99999, 0), []) := rfl
theorem at_X6_thrown_4 : ab_at mX6_thrown 4 = some (.getfield 38, 3, (1, 6, 14), [330]) := rfl
theorem at_X6_thrown_40 : ab_at mX6_thrown 40 = some (.goto 8, 3, (0, 99999, 0), []) := rfl
theorem at_X6_thrown_43 : ab_at mX6_thrown 43 = some (.aload_n 0, 1, (0, 99999, 0), []) := rfl
theorem at_X6_thrown_44 : ab_at mX6_thrown 44 = some (.iload_n 3, 1, (0, 99999, 0), []) := rfl
theorem at_X6_thrown_45 : ab_at mX6_thrown 45 = some (.invokevirtual 227, 3, (3, 172, 1), [380]) := rfl
theorem at_X6_thrown_48 : ab_at mX6_thrown 48 = some (.ireturn, 1, (0, 99999, 0), []) := rfl
theorem at_X6_thrown_7 : ab_at mX6_thrown 7 = some (.iload_n 1, 1, (0, 99999, 0), []) := rfl
theorem at_X6_thrown_8 : ab_at mX6_thrown 8 = some (.iaload, 1, (0, 99999, 0), []) := rfl
theorem at_X6_thrown_9 : ab_at mX6_thrown 9 = some (.invokevirtual 223, 3, (3, 174, 2), [379]) := rfl
theorem at_X6_throwsIn_0 : ab_at mX6_throwsIn 0 = some (.aload_n 0, 1, (0, 99999, 0), []) := rfl
theorem at_X6_throwsIn_1 : ab_at mX6_throwsIn 1 = some (.getfield 32, 3, (1, 6, 12), [328]) := rfl
theorem at_X6_throwsIn_10 : ab_at mX6_throwsIn 10 = some (.aload_n 0, 1, (0, 99999, 0), []) := rfl
theorem at_X6_throwsIn_11 : ab_at mX6_throwsIn 11 = some (.getfield 41, 3, (1, 6, 15), [331]) := rfl
theorem at_X6_throwsIn_14 : ab_at mX6_throwsIn 14 = some (.iload_n 1, 1, (0, 99999, 0), []) := rfl
theorem at_X6_throwsIn_15 : ab_at mX6_throwsIn 15 = some (.dup2, 1, (0, 99999, 0), []) := rfl
theorem at_X6_throwsIn_16 : ab_at mX6_throwsIn 16 = some (.iaload, 1, (0, 99999, 0), []) := rfl
theorem at_X6_throwsIn_17 : ab_at mX6_throwsIn 17 = some (.iconst 1, 1, (0, 99999, 0), []) := rfl
theorem at_X6_throwsIn_18 : ab_at mX6_throwsIn 18 = some (.iadd, 1, (0, 99999, 0), []) := rfl
theorem at_X6_throwsIn_19 : ab_at mX6_throwsIn 19 = some (.iastore, 1, (0, 99999, 0), []) := rfl
theorem at_X6_throwsIn_20 : ab_at mX6_throwsIn 20 = some (.aload_n 0, 1, (0, 99999, 0), []) := rfl
theorem at_X6_throwsIn_21 : ab_at mX6_throwsIn 21 = some (.dup, 1, (0, 99999, 0), []) := rfl
theorem at_X6_throwsIn_22 : ab_at mX6_throwsIn 22 = some (.getfield 188, 3, (1, 6, 3), [361]) := rfl
theorem at_X6_throwsIn_25 : ab_at mX6_throwsIn 25 = some (.iload_n 2, 1, (0, 99999, 0), []) := rfl
theorem at_X6_throwsIn_26 : ab_at mX6_throwsIn 26 = some (.iadd, 1, (0, 99999, 0), []) := rfl
theorem at_X6_throwsIn_27 : ab_at mX6_throwsIn 27 = some (.putfield 188, 3, (1, 6, 3), [359]) := rfl
theorem at_X6_throwsIn_30 : ab_at mX6_throwsIn 30 = some (.iconst 0, 1, (0, 99999, 0), []) := rfl
theorem at_X6_throwsIn_31 : ab_at mX6_throwsIn 31 = some (.istore 4, 2, (0, 99999, 0), []) := rfl
theorem at_X6_throwsIn_4 : ab_at mX6_throwsIn 4 = some (.iload_n 1, 1, (0, 99999, 0), []) := rfl
theorem at_X6_throwsIn_5 : ab_at mX6_throwsIn 5 = some (.dup2, 1, (0, 99999, 0), []) := rfl
theorem at_X6_throwsIn_6 : ab_at mX6_throwsIn 6 = some (.iaload, 1, (0, 99999, 0), []) := rfl
theorem at_X6_throwsIn_7 : ab_at mX6_throwsIn 7 = some (.iload_n 2, 1, (0, 99999, 0), []) := rfl
theorem at_X6_throwsIn_8 : ab_at mX6_throwsIn 8 = some (.isub, 1, (0, 99999, 0), []) := rfl
theorem at_X6_throwsIn_9 : ab_at mX6_throwsIn 9 = some (.iastore, 1, (0, 99999, 0), []) := rfl
theorem at_X6_trace_0 : ab_at mX6_trace 0 = some (.iload_n 1, 1, (0, 99999, 0), []) := rfl
theorem at_X6_trace_1 : ab_at mX6_trace 1 = some (.ifCond .lt 26, 3, (0, 99999, 0), []) := rfl
theorem at_X6_trace_27 : ab_at mX6_trace 27 = some (.iconst (-1), 1, (0, 99999, 0), []) := rfl
theorem at_X6_trace_28 : ab_at mX6_trace 28 = some (.ireturn, 1, (0, 99999, 0), []) := rfl
theorem at_X6_trace_4 : ab_at mX6_trace 4 = some (.iload_n 1, 1, (0, 99999, 0), []) := rfl
theorem at_X6_trace_5 : ab_at mX6_trace 5 = some (.bipush 20, 2, (0, 99999, 0), []) := rfl
theorem at_X6_trace_7 : ab_at mX6_trace 7 = some (.if_icmp .ge 20, 3, (0, 99999, 0), []) := rfl
theorem at_X6_wanted_0 : ab_at mX6_wanted 0 = some (.aload_n 0, 1, (0, 99999, 0), []) := rfl
theorem at_X6_wanted_1 : ab_at mX6_wanted 1 = some (.iload_n 1, 1, (0, 99999, 0), []) := rfl
theorem at_X6_wanted_12 : ab_at mX6_wanted 12 = some (.aload_n 0, 1, (0, 99999, 0), []) := rfl
theorem at_X6_wanted_13 : ab_at mX6_wanted 13 = some (.getfield 47, 3, (1, 6, 17), [314]) := rfl
theorem at_X6_wanted_16 : ab_at mX6_wanted 16 = some (.iload_n 1, 1, (0, 99999, 0), []) := rfl
theorem at_X6_wanted_17 : ab_at mX6_wanted 17 = some (.iaload, 1, (0, 99999, 0), []) := rfl
theorem at_X6_wanted_18 : ab_at mX6_wanted 18 = some (.iconst 2, 1, (0, 99999, 0), []) := rfl
theorem at_X6_wanted_19 : ab_at mX6_wanted 19 = some (.if_icmp .ne 8, 3, (0, 99999, 0), []) := rfl
theorem at_X6_wanted_2 : ab_at mX6_wanted 2 = some (.invokevirtual 111, 3, (3, 131, 1), [312]) := rfl
theorem at_X6_wanted_22 : ab_at mX6_wanted 22 = some (.bipush (-2), 2, (0, 99999, 0), []) := rfl
theorem at_X6_wanted_24 : ab_at mX6_wanted 24 = some (.goto 18, 3, (0, 99999, 0), []) := rfl
theorem at_X6_wanted_27 : ab_at mX6_wanted 27 = some (.aload_n 0, 1, (0, 99999, 0), []) := rfl
theorem at_X6_wanted_28 : ab_at mX6_wanted 28 = some (.getfield 47, 3, (1, 6, 17), [314]) := rfl
theorem at_X6_wanted_31 : ab_at mX6_wanted 31 = some (.iload_n 1, 1, (0, 99999, 0), []) := rfl
theorem at_X6_wanted_32 : ab_at mX6_wanted 32 = some (.iaload, 1, (0, 99999, 0), []) := rfl
theorem at_X6_wanted_33 : ab_at mX6_wanted 33 = some (.ifCond .ne 8, 3, (0, 99999, 0), []) := rfl
theorem at_X6_wanted_36 : ab_at mX6_wanted 36 = some (.bipush (-3), 2, (0, 99999, 0), []) := rfl
theorem at_X6_wanted_38 : ab_at mX6_wanted 38 = some (.goto 4, 3, (0, 99999, 0), []) := rfl
theorem at_X6_wanted_41 : ab_at mX6_wanted 41 = some (.iconst 0, 1, (0, 99999, 0), []) := rfl
theorem at_X6_wanted_42 : ab_at mX6_wanted 42 = some (.ireturn, 1, (0, 99999, 0), []) := rfl
theorem at_X6_wanted_5 : ab_at mX6_wanted 5 = some (.ifCond .ne 7, 3, (0, 99999, 0), []) := rfl
theorem at_X6_wanted_8 : ab_at mX6_wanted 8 = some (.iconst (-1), 1, (0, 99999, 0), []) := rfl
theorem at_X6_wanted_9 : ab_at mX6_wanted 9 = some (.goto 33, 3, (0, 99999, 0), []) := rfl
theorem at_X6_word_0 : ab_at mX6_word 0 = some (.iconst 0, 1, (0, 99999, 0), []) := rfl
theorem at_X6_word_1 : ab_at mX6_word 1 = some (.istore_n 1, 1, (0, 99999, 0), []) := rfl
theorem at_X6_word_10 : ab_at mX6_word 10 = some (.bipush 7, 2, (0, 99999, 0), []) := rfl
theorem at_X6_word_12 : ab_at mX6_word 12 = some (.if_icmp .ge 118, 3, (0, 99999, 0), []) := rfl
theorem at_X6_word_15 : ab_at mX6_word 15 = some (.aload_n 0, 1, (0, 99999, 0), []) := rfl
theorem at_X6_word_16 : ab_at mX6_word 16 = some (.getfield 151, 3, (1, 6, 28), [343]) := rfl
theorem at_X6_word_19 : ab_at mX6_word 19 = some (.istore 4, 2, (0, 99999, 0), []) := rfl
theorem at_X6_word_2 : ab_at mX6_word 2 = some (.aload_n 0, 1, (0, 99999, 0), []) := rfl
theorem at_X6_word_21 : ab_at mX6_word 21 = some (.iload_n 1, 1, (0, 99999, 0), []) := rfl
theorem at_X6_word_22 : ab_at mX6_word 22 = some (.istore 5, 2, (0, 99999, 0), []) := rfl
theorem at_X6_word_24 : ab_at mX6_word 24 = some (.aload_n 0, 1, (0, 99999, 0), []) := rfl
theorem at_X6_word_25 : ab_at mX6_word 25 = some (.getfield 66, 3, (1, 6, 23), [342]) := rfl
theorem at_X6_word_28 : ab_at mX6_word 28 = some (.iload 5, 2, (0, 99999, 0), []) := rfl
theorem at_X6_word_3 : ab_at mX6_word 3 = some (.getfield 151, 3, (1, 6, 28), [343]) := rfl
theorem at_X6_word_30 : ab_at mX6_word 30 = some (.iaload, 1, (0, 99999, 0), []) := rfl
theorem at_X6_word_31 : ab_at mX6_word 31 = some (.ifCond .eq 44, 3, (0, 99999, 0), []) := rfl
theorem at_X6_word_6 : ab_at mX6_word 6 = some (.istore_n 2, 1, (0, 99999, 0), []) := rfl
theorem at_X6_word_7 : ab_at mX6_word 7 = some (.iconst 0, 1, (0, 99999, 0), []) := rfl
theorem at_X6_word_8 : ab_at mX6_word 8 = some (.istore_n 3, 1, (0, 99999, 0), []) := rfl
theorem at_X6_word_9 : ab_at mX6_word 9 = some (.iload_n 3, 1, (0, 99999, 0), []) := rfl
theorem at_X6_wrong_0 : ab_at mX6_wrong 0 = some (.aload_n 0, 1, (0, 99999, 0), []) := rfl
theorem at_X6_wrong_1 : ab_at mX6_wrong 1 = some (.iload_n 1, 1, (0, 99999, 0), []) := rfl
theorem at_X6_wrong_2 : ab_at mX6_wrong 2 = some (.putfield 148, 3, (1, 6, 31), [341]) := rfl
theorem at_X6_wrong_5 : ab_at mX6_wrong 5 = some (.iconst 0, 1, (0, 99999, 0), []) := rfl
theorem at_X6_wrong_6 : ab_at mX6_wrong 6 = some (.ireturn, 1, (0, 99999, 0), []) := rfl
