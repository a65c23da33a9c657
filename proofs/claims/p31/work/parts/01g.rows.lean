theorem dX6_digest_145 : decode cX6_digest 145 = .ok (.aload_n 0, 1) := by decide +kernel
theorem dX6_digest_146 : decode cX6_digest 146 = .ok (.aload_n 0, 1) := by decide +kernel
theorem dX6_digest_147 : decode cX6_digest 147 = .ok (.getfield 21, 3) := by decide +kernel
theorem dX6_digest_150 : decode cX6_digest 150 = .ok (.iload_n 3, 1) := by decide +kernel
theorem dX6_digest_151 : decode cX6_digest 151 = .ok (.invokevirtual 178, 3) := by decide +kernel
theorem dX6_digest_154 : decode cX6_digest 154 = .ok (.invokevirtual 120, 3) := by decide +kernel
theorem dX6_digest_157 : decode cX6_digest 157 = .ok (.i2l, 1) := by decide +kernel
theorem dX6_digest_158 : decode cX6_digest 158 = .ok (.ladd, 1) := by decide +kernel
theorem dX6_digest_159 : decode cX6_digest 159 = .ok (.lstore_n 1, 1) := by decide +kernel
theorem dX6_digest_160 : decode cX6_digest 160 = .ok (.iinc 3 1, 3) := by decide +kernel
theorem dX6_digest_163 : decode cX6_digest 163 = .ok (.goto (-34), 3) := by decide +kernel
theorem dX6_digest_166 : decode cX6_digest 166 = .ok (.iconst 1, 1) := by decide +kernel
theorem dX6_digest_167 : decode cX6_digest 167 = .ok (.istore_n 3, 1) := by decide +kernel
theorem dX6_digest_168 : decode cX6_digest 168 = .ok (.iload_n 3, 1) := by decide +kernel
theorem dX6_digest_169 : decode cX6_digest 169 = .ok (.aload_n 0, 1) := by decide +kernel
theorem dX6_digest_170 : decode cX6_digest 170 = .ok (.getfield 10, 3) := by decide +kernel
theorem dX6_digest_173 : decode cX6_digest 173 = .ok (.invokevirtual 93, 3) := by decide +kernel
theorem dX6_digest_176 : decode cX6_digest 176 = .ok (.if_icmp .gt 25, 3) := by decide +kernel
theorem dX6_digest_179 : decode cX6_digest 179 = .ok (.lload_n 1, 1) := by decide +kernel
theorem dX6_digest_180 : decode cX6_digest 180 = .ok (.ldc2_w 230, 3) := by decide +kernel
theorem dX6_digest_183 : decode cX6_digest 183 = .ok (.lmul, 1) := by decide +kernel
theorem dX6_digest_184 : decode cX6_digest 184 = .ok (.aload_n 0, 1) := by decide +kernel
theorem dX6_digest_185 : decode cX6_digest 185 = .ok (.getfield 21, 3) := by decide +kernel
theorem dX6_digest_188 : decode cX6_digest 188 = .ok (.iload_n 3, 1) := by decide +kernel
theorem dX6_digest_189 : decode cX6_digest 189 = .ok (.invokevirtual 190, 3) := by decide +kernel
theorem dX6_digest_192 : decode cX6_digest 192 = .ok (.i2l, 1) := by decide +kernel
theorem dX6_digest_193 : decode cX6_digest 193 = .ok (.ladd, 1) := by decide +kernel
theorem dX6_digest_194 : decode cX6_digest 194 = .ok (.lstore_n 1, 1) := by decide +kernel
theorem dX6_digest_195 : decode cX6_digest 195 = .ok (.iinc 3 1, 3) := by decide +kernel
theorem dX6_digest_198 : decode cX6_digest 198 = .ok (.goto (-30), 3) := by decide +kernel
theorem dX6_digest_201 : decode cX6_digest 201 = .ok (.iconst 0, 1) := by decide +kernel
theorem dX6_digest_202 : decode cX6_digest 202 = .ok (.istore_n 3, 1) := by decide +kernel
theorem dX6_digest_203 : decode cX6_digest 203 = .ok (.iload_n 3, 1) := by decide +kernel
theorem dX6_digest_204 : decode cX6_digest 204 = .ok (.iconst 2, 1) := by decide +kernel
theorem dX6_digest_205 : decode cX6_digest 205 = .ok (.if_icmp .gt 25, 3) := by decide +kernel
theorem dX6_digest_208 : decode cX6_digest 208 = .ok (.lload_n 1, 1) := by decide +kernel
theorem dX6_digest_209 : decode cX6_digest 209 = .ok (.ldc2_w 230, 3) := by decide +kernel
theorem dX6_digest_212 : decode cX6_digest 212 = .ok (.lmul, 1) := by decide +kernel
theorem dX6_digest_213 : decode cX6_digest 213 = .ok (.aload_n 0, 1) := by decide +kernel
theorem dX6_digest_214 : decode cX6_digest 214 = .ok (.getfield 21, 3) := by decide +kernel
theorem dX6_digest_217 : decode cX6_digest 217 = .ok (.iload_n 3, 1) := by decide +kernel
theorem dX6_digest_218 : decode cX6_digest 218 = .ok (.invokevirtual 225, 3) := by decide +kernel
theorem dX6_digest_221 : decode cX6_digest 221 = .ok (.i2l, 1) := by decide +kernel
theorem dX6_digest_222 : decode cX6_digest 222 = .ok (.ladd, 1) := by decide +kernel
theorem dX6_digest_223 : decode cX6_digest 223 = .ok (.lstore_n 1, 1) := by decide +kernel
theorem dX6_digest_224 : decode cX6_digest 224 = .ok (.iinc 3 1, 3) := by decide +kernel
theorem dX6_digest_227 : decode cX6_digest 227 = .ok (.goto (-24), 3) := by decide +kernel
theorem dX6_digest_230 : decode cX6_digest 230 = .ok (.aload_n 0, 1) := by decide +kernel
theorem dX6_digest_231 : decode cX6_digest 231 = .ok (.getfield 28, 3) := by decide +kernel
theorem dX6_digest_234 : decode cX6_digest 234 = .ok (.iconst 3, 1) := by decide +kernel
theorem dX6_digest_235 : decode cX6_digest 235 = .ok (.invokevirtual 205, 3) := by decide +kernel
theorem dX6_digest_238 : decode cX6_digest 238 = .ok (.lload_n 1, 1) := by decide +kernel
theorem dX6_digest_239 : decode cX6_digest 239 = .ok (.ldc2_w 230, 3) := by decide +kernel
theorem dX6_digest_242 : decode cX6_digest 242 = .ok (.lmul, 1) := by decide +kernel
theorem dX6_digest_243 : decode cX6_digest 243 = .ok (.aload_n 0, 1) := by decide +kernel
theorem dX6_digest_244 : decode cX6_digest 244 = .ok (.getfield 28, 3) := by decide +kernel
theorem dX6_digest_247 : decode cX6_digest 247 = .ok (.invokevirtual 208, 3) := by decide +kernel
theorem dX6_digest_250 : decode cX6_digest 250 = .ok (.i2l, 1) := by decide +kernel
theorem dX6_digest_251 : decode cX6_digest 251 = .ok (.ladd, 1) := by decide +kernel
theorem dX6_digest_252 : decode cX6_digest 252 = .ok (.lstore_n 1, 1) := by decide +kernel
theorem dX6_digest_253 : decode cX6_digest 253 = .ok (.lload_n 1, 1) := by decide +kernel
theorem dX6_digest_254 : decode cX6_digest 254 = .ok (.ldc2_w 230, 3) := by decide +kernel
theorem dX6_digest_257 : decode cX6_digest 257 = .ok (.lmul, 1) := by decide +kernel
theorem dX6_digest_258 : decode cX6_digest 258 = .ok (.aload_n 0, 1) := by decide +kernel
theorem dX6_digest_259 : decode cX6_digest 259 = .ok (.getfield 28, 3) := by decide +kernel
theorem dX6_digest_262 : decode cX6_digest 262 = .ok (.invokevirtual 211, 3) := by decide +kernel
theorem dX6_digest_265 : decode cX6_digest 265 = .ok (.i2l, 1) := by decide +kernel
theorem dX6_digest_266 : decode cX6_digest 266 = .ok (.ladd, 1) := by decide +kernel
theorem dX6_digest_267 : decode cX6_digest 267 = .ok (.lreturn, 1) := by decide +kernel
set_option maxRecDepth 20000 in
theorem ggX6_refuseNoChange_X2_bells : GoodIn wsX6_refuseNoChange wsX2_bells := goodIn_r _ [8, 9, 20, 21, 22, 23] (by decide +kernel) (by decide +kernel)
set_option maxRecDepth 20000 in
theorem gX6_refuseNoChange_X2_bells : GoodIn wsX6_refuseNoChange (wsV RX6 93 RX2 yX2_bells wsX2_bells) := goodIn_app (goodIn_of _ (by decide +kernel)) ggX6_refuseNoChange_X2_bells
set_option maxRecDepth 20000 in
theorem ggX6_refuseNoChange_X3_canBeRung : GoodIn wsX6_refuseNoChange wsX3_canBeRung := goodIn_r _ [13, 14, 15, 12, 16] (by decide +kernel) (by decide +kernel)
set_option maxRecDepth 20000 in
theorem gX6_refuseNoChange_X3_canBeRung : GoodIn wsX6_refuseNoChange (va_wsS RX6 96 yX3_canBeRung wsX3_canBeRung) := goodIn_app (goodIn_of _ (by decide +kernel)) ggX6_refuseNoChange_X3_canBeRung
theorem dX6_refuseNoChange_0 : decode cX6_refuseNoChange 0 = .ok (.iload_n 1, 1) := by decide +kernel
theorem dX6_refuseNoChange_1 : decode cX6_refuseNoChange 1 = .ok (.aload_n 0, 1) := by decide +kernel
theorem dX6_refuseNoChange_2 : decode cX6_refuseNoChange 2 = .ok (.getfield 10, 3) := by decide +kernel
theorem dX6_refuseNoChange_5 : decode cX6_refuseNoChange 5 = .ok (.invokevirtual 93, 3) := by decide +kernel
theorem dX6_refuseNoChange_8 : decode cX6_refuseNoChange 8 = .ok (.invokestatic 96, 3) := by decide +kernel
theorem dX6_refuseNoChange_11 : decode cX6_refuseNoChange 11 = .ok (.ifCond .ne 13, 3) := by decide +kernel
theorem dX6_refuseNoChange_14 : decode cX6_refuseNoChange 14 = .ok (.new 32, 3) := by decide +kernel
theorem dX6_refuseNoChange_17 : decode cX6_refuseNoChange 17 = .ok (.dup, 1) := by decide +kernel
theorem dX6_refuseNoChange_18 : decode cX6_refuseNoChange 18 = .ok (.ldc 237, 2) := by decide +kernel
theorem dX6_refuseNoChange_20 : decode cX6_refuseNoChange 20 = .ok (.invokespecial 36, 3) := by decide +kernel
theorem dX6_refuseNoChange_23 : decode cX6_refuseNoChange 23 = .ok (.athrow, 1) := by decide +kernel
theorem dX6_refuseNoChange_24 : decode cX6_refuseNoChange 24 = .ok (.return_, 1) := by decide +kernel
theorem dX6_refuseNoCall_0 : decode cX6_refuseNoCall 0 = .ok (.iload_n 1, 1) := by decide +kernel
theorem dX6_refuseNoCall_1 : decode cX6_refuseNoCall 1 = .ok (.ifCond .lt 8, 3) := by decide +kernel
theorem dX6_refuseNoCall_4 : decode cX6_refuseNoCall 4 = .ok (.iload_n 1, 1) := by decide +kernel
theorem dX6_refuseNoCall_5 : decode cX6_refuseNoCall 5 = .ok (.iconst 2, 1) := by decide +kernel
theorem dX6_refuseNoCall_6 : decode cX6_refuseNoCall 6 = .ok (.if_icmp .le 13, 3) := by decide +kernel
theorem dX6_refuseNoCall_9 : decode cX6_refuseNoCall 9 = .ok (.new 32, 3) := by decide +kernel
theorem dX6_refuseNoCall_12 : decode cX6_refuseNoCall 12 = .ok (.dup, 1) := by decide +kernel
theorem dX6_refuseNoCall_13 : decode cX6_refuseNoCall 13 = .ok (.ldc 239, 2) := by decide +kernel
theorem dX6_refuseNoCall_15 : decode cX6_refuseNoCall 15 = .ok (.invokespecial 36, 3) := by decide +kernel
theorem dX6_refuseNoCall_18 : decode cX6_refuseNoCall 18 = .ok (.athrow, 1) := by decide +kernel
theorem dX6_refuseNoCall_19 : decode cX6_refuseNoCall 19 = .ok (.return_, 1) := by decide +kernel
set_option maxRecDepth 20000 in
theorem ggX6_refuseNoCallPlace_X5_callCount : GoodIn wsX6_refuseNoCallPlace wsX5_callCount := goodIn_r _ [8, 9, 10, 11, 12, 13, 14, 15, 19, 20, 21, 22, 23, 24, 25, 26] (by decide +kernel) (by decide +kernel)
set_option maxRecDepth 20000 in
theorem gX6_refuseNoCallPlace_X5_callCount : GoodIn wsX6_refuseNoCallPlace (wsV RX6 100 RX5 yX5_callCount wsX5_callCount) := goodIn_app (goodIn_of _ (by decide +kernel)) ggX6_refuseNoCallPlace_X5_callCount
theorem dX6_refuseNoCallPlace_0 : decode cX6_refuseNoCallPlace 0 = .ok (.iload_n 1, 1) := by decide +kernel
theorem dX6_refuseNoCallPlace_1 : decode cX6_refuseNoCallPlace 1 = .ok (.ifCond .lt 14, 3) := by decide +kernel
theorem dX6_refuseNoCallPlace_4 : decode cX6_refuseNoCallPlace 4 = .ok (.iload_n 1, 1) := by decide +kernel
theorem dX6_refuseNoCallPlace_5 : decode cX6_refuseNoCallPlace 5 = .ok (.aload_n 0, 1) := by decide +kernel
theorem dX6_refuseNoCallPlace_6 : decode cX6_refuseNoCallPlace 6 = .ok (.getfield 21, 3) := by decide +kernel
theorem dX6_refuseNoCallPlace_9 : decode cX6_refuseNoCallPlace 9 = .ok (.invokevirtual 100, 3) := by decide +kernel
theorem dX6_refuseNoCallPlace_12 : decode cX6_refuseNoCallPlace 12 = .ok (.if_icmp .lt 13, 3) := by decide +kernel
theorem dX6_refuseNoCallPlace_15 : decode cX6_refuseNoCallPlace 15 = .ok (.new 108, 3) := by decide +kernel
theorem dX6_refuseNoCallPlace_18 : decode cX6_refuseNoCallPlace 18 = .ok (.dup, 1) := by decide +kernel
theorem dX6_refuseNoCallPlace_19 : decode cX6_refuseNoCallPlace 19 = .ok (.ldc 241, 2) := by decide +kernel
theorem dX6_refuseNoCallPlace_21 : decode cX6_refuseNoCallPlace 21 = .ok (.invokespecial 112, 3) := by decide +kernel
theorem dX6_refuseNoCallPlace_24 : decode cX6_refuseNoCallPlace 24 = .ok (.athrow, 1) := by decide +kernel
theorem dX6_refuseNoCallPlace_25 : decode cX6_refuseNoCallPlace 25 = .ok (.return_, 1) := by decide +kernel
set_option maxRecDepth 20000 in
theorem ggX6_refuseNoRowNumber_X5_rowCount : GoodIn wsX6_refuseNoRowNumber wsX5_rowCount := goodIn_r _ [8, 9, 10, 11, 12, 13, 14, 15, 19, 20, 21, 22, 23, 24, 25, 26] (by decide +kernel) (by decide +kernel)
set_option maxRecDepth 20000 in
theorem gX6_refuseNoRowNumber_X5_rowCount : GoodIn wsX6_refuseNoRowNumber (wsV RX6 151 RX5 yX5_rowCount wsX5_rowCount) := goodIn_app (goodIn_of _ (by decide +kernel)) ggX6_refuseNoRowNumber_X5_rowCount
theorem dX6_refuseNoRowNumber_0 : decode cX6_refuseNoRowNumber 0 = .ok (.iload_n 1, 1) := by decide +kernel
theorem dX6_refuseNoRowNumber_1 : decode cX6_refuseNoRowNumber 1 = .ok (.ifCond .lt 14, 3) := by decide +kernel
theorem dX6_refuseNoRowNumber_4 : decode cX6_refuseNoRowNumber 4 = .ok (.iload_n 1, 1) := by decide +kernel
theorem dX6_refuseNoRowNumber_5 : decode cX6_refuseNoRowNumber 5 = .ok (.aload_n 0, 1) := by decide +kernel
theorem dX6_refuseNoRowNumber_6 : decode cX6_refuseNoRowNumber 6 = .ok (.getfield 21, 3) := by decide +kernel
theorem dX6_refuseNoRowNumber_9 : decode cX6_refuseNoRowNumber 9 = .ok (.invokevirtual 151, 3) := by decide +kernel
theorem dX6_refuseNoRowNumber_12 : decode cX6_refuseNoRowNumber 12 = .ok (.if_icmp .lt 13, 3) := by decide +kernel
theorem dX6_refuseNoRowNumber_15 : decode cX6_refuseNoRowNumber 15 = .ok (.new 108, 3) := by decide +kernel
theorem dX6_refuseNoRowNumber_18 : decode cX6_refuseNoRowNumber 18 = .ok (.dup, 1) := by decide +kernel
theorem dX6_refuseNoRowNumber_19 : decode cX6_refuseNoRowNumber 19 = .ok (.ldc 243, 2) := by decide +kernel
theorem dX6_refuseNoRowNumber_21 : decode cX6_refuseNoRowNumber 21 = .ok (.invokespecial 112, 3) := by decide +kernel
theorem dX6_refuseNoRowNumber_24 : decode cX6_refuseNoRowNumber 24 = .ok (.athrow, 1) := by decide +kernel
theorem dX6_refuseNoRowNumber_25 : decode cX6_refuseNoRowNumber 25 = .ok (.return_, 1) := by decide +kernel
set_option maxRecDepth 20000 in
theorem ggX6_refuseNoBell_X2_bells : GoodIn wsX6_refuseNoBell wsX2_bells := goodIn_r _ [8, 9, 13, 14, 15, 16] (by decide +kernel) (by decide +kernel)
set_option maxRecDepth 20000 in
theorem gX6_refuseNoBell_X2_bells : GoodIn wsX6_refuseNoBell (wsV RX6 93 RX2 yX2_bells wsX2_bells) := goodIn_app (goodIn_of _ (by decide +kernel)) ggX6_refuseNoBell_X2_bells
theorem dX6_refuseNoBell_0 : decode cX6_refuseNoBell 0 = .ok (.iload_n 1, 1) := by decide +kernel
theorem dX6_refuseNoBell_1 : decode cX6_refuseNoBell 1 = .ok (.iconst 1, 1) := by decide +kernel
theorem dX6_refuseNoBell_2 : decode cX6_refuseNoBell 2 = .ok (.if_icmp .lt 14, 3) := by decide +kernel
theorem dX6_refuseNoBell_5 : decode cX6_refuseNoBell 5 = .ok (.iload_n 1, 1) := by decide +kernel
theorem dX6_refuseNoBell_6 : decode cX6_refuseNoBell 6 = .ok (.aload_n 0, 1) := by decide +kernel
theorem dX6_refuseNoBell_7 : decode cX6_refuseNoBell 7 = .ok (.getfield 10, 3) := by decide +kernel
theorem dX6_refuseNoBell_10 : decode cX6_refuseNoBell 10 = .ok (.invokevirtual 93, 3) := by decide +kernel
theorem dX6_refuseNoBell_13 : decode cX6_refuseNoBell 13 = .ok (.if_icmp .le 13, 3) := by decide +kernel
theorem dX6_refuseNoBell_16 : decode cX6_refuseNoBell 16 = .ok (.new 108, 3) := by decide +kernel
theorem dX6_refuseNoBell_19 : decode cX6_refuseNoBell 19 = .ok (.dup, 1) := by decide +kernel
theorem dX6_refuseNoBell_20 : decode cX6_refuseNoBell 20 = .ok (.ldc 245, 2) := by decide +kernel
theorem dX6_refuseNoBell_22 : decode cX6_refuseNoBell 22 = .ok (.invokespecial 112, 3) := by decide +kernel
theorem dX6_refuseNoBell_25 : decode cX6_refuseNoBell 25 = .ok (.athrow, 1) := by decide +kernel
theorem dX6_refuseNoBell_26 : decode cX6_refuseNoBell 26 = .ok (.return_, 1) := by decide +kernel
theorem dX6_refuseNoLeads_0 : decode cX6_refuseNoLeads 0 = .ok (.iload_n 1, 1) := by decide +kernel
theorem dX6_refuseNoLeads_1 : decode cX6_refuseNoLeads 1 = .ok (.ifCond .lt 8, 3) := by decide +kernel
theorem dX6_refuseNoLeads_4 : decode cX6_refuseNoLeads 4 = .ok (.iload_n 1, 1) := by decide +kernel
theorem dX6_refuseNoLeads_5 : decode cX6_refuseNoLeads 5 = .ok (.iconst 5, 1) := by decide +kernel
theorem dX6_refuseNoLeads_6 : decode cX6_refuseNoLeads 6 = .ok (.if_icmp .le 13, 3) := by decide +kernel
theorem dX6_refuseNoLeads_9 : decode cX6_refuseNoLeads 9 = .ok (.new 32, 3) := by decide +kernel
theorem dX6_refuseNoLeads_12 : decode cX6_refuseNoLeads 12 = .ok (.dup, 1) := by decide +kernel
theorem dX6_refuseNoLeads_13 : decode cX6_refuseNoLeads 13 = .ok (.ldc 247, 2) := by decide +kernel
theorem dX6_refuseNoLeads_15 : decode cX6_refuseNoLeads 15 = .ok (.invokespecial 36, 3) := by decide +kernel
theorem dX6_refuseNoLeads_18 : decode cX6_refuseNoLeads 18 = .ok (.athrow, 1) := by decide +kernel
theorem dX6_refuseNoLeads_19 : decode cX6_refuseNoLeads 19 = .ok (.return_, 1) := by decide +kernel
set_option maxRecDepth 20000 in
theorem ggX6_packedOrRefused_X2_bells : GoodIn wsX6_packedOrRefused wsX2_bells := goodIn_r _ [8, 9, 20, 21, 22, 23] (by decide +kernel) (by decide +kernel)
set_option maxRecDepth 20000 in
theorem gX6_packedOrRefused_X2_bells : GoodIn wsX6_packedOrRefused (wsV RX6 93 RX2 yX2_bells wsX2_bells) := goodIn_app (goodIn_of _ (by decide +kernel)) ggX6_packedOrRefused_X2_bells
set_option maxRecDepth 20000 in
theorem ggX6_packedOrRefused_X3_packed : GoodIn wsX6_packedOrRefused wsX3_packed := goodIn_r _ [13, 14, 15, 12, 16] (by decide +kernel) (by decide +kernel)
set_option maxRecDepth 20000 in
theorem gX6_packedOrRefused_X3_packed : GoodIn wsX6_packedOrRefused (va_wsS RX6 249 yX3_packed wsX3_packed) := goodIn_app (goodIn_of _ (by decide +kernel)) ggX6_packedOrRefused_X3_packed
theorem dX6_packedOrRefused_0 : decode cX6_packedOrRefused 0 = .ok (.iload_n 1, 1) := by decide +kernel
theorem dX6_packedOrRefused_1 : decode cX6_packedOrRefused 1 = .ok (.aload_n 0, 1) := by decide +kernel
theorem dX6_packedOrRefused_2 : decode cX6_packedOrRefused 2 = .ok (.getfield 10, 3) := by decide +kernel
theorem dX6_packedOrRefused_5 : decode cX6_packedOrRefused 5 = .ok (.invokevirtual 93, 3) := by decide +kernel
theorem dX6_packedOrRefused_8 : decode cX6_packedOrRefused 8 = .ok (.invokestatic 249, 3) := by decide +kernel
theorem dX6_packedOrRefused_11 : decode cX6_packedOrRefused 11 = .ok (.istore_n 2, 1) := by decide +kernel
theorem dX6_packedOrRefused_12 : decode cX6_packedOrRefused 12 = .ok (.iload_n 2, 1) := by decide +kernel
theorem dX6_packedOrRefused_13 : decode cX6_packedOrRefused 13 = .ok (.iconst (-1), 1) := by decide +kernel
theorem dX6_packedOrRefused_14 : decode cX6_packedOrRefused 14 = .ok (.if_icmp .ne 13, 3) := by decide +kernel
theorem dX6_packedOrRefused_17 : decode cX6_packedOrRefused 17 = .ok (.new 32, 3) := by decide +kernel
theorem dX6_packedOrRefused_20 : decode cX6_packedOrRefused 20 = .ok (.dup, 1) := by decide +kernel
theorem dX6_packedOrRefused_21 : decode cX6_packedOrRefused 21 = .ok (.ldc 252, 2) := by decide +kernel
theorem dX6_packedOrRefused_23 : decode cX6_packedOrRefused 23 = .ok (.invokespecial 36, 3) := by decide +kernel
theorem dX6_packedOrRefused_26 : decode cX6_packedOrRefused 26 = .ok (.athrow, 1) := by decide +kernel
theorem dX6_packedOrRefused_27 : decode cX6_packedOrRefused 27 = .ok (.iload_n 2, 1) := by decide +kernel
theorem dX6_packedOrRefused_28 : decode cX6_packedOrRefused 28 = .ok (.ireturn, 1) := by decide +kernel
set_option maxRecDepth 20000 in
theorem ggX6_numberOf_X2_bells : GoodIn wsX6_numberOf wsX2_bells := goodIn_r _ [6, 7, 18, 19, 20, 21] (by decide +kernel) (by decide +kernel)
set_option maxRecDepth 20000 in
theorem gX6_numberOf_X2_bells : GoodIn wsX6_numberOf (wsV RX6 93 RX2 yX2_bells wsX2_bells) := goodIn_app (goodIn_of _ (by decide +kernel)) ggX6_numberOf_X2_bells
set_option maxRecDepth 20000 in
theorem ggX6_numberOf_X3_number : GoodIn wsX6_numberOf wsX3_number := goodIn_r _ [11, 12, 13, 10, 14] (by decide +kernel) (by decide +kernel)
set_option maxRecDepth 20000 in
theorem gX6_numberOf_X3_number : GoodIn wsX6_numberOf (va_wsS RX6 52 yX3_number wsX3_number) := goodIn_app (goodIn_of _ (by decide +kernel)) ggX6_numberOf_X3_number
theorem dX6_numberOf_0 : decode cX6_numberOf 0 = .ok (.iload_n 1, 1) := by decide +kernel
theorem dX6_numberOf_1 : decode cX6_numberOf 1 = .ok (.aload_n 0, 1) := by decide +kernel
theorem dX6_numberOf_2 : decode cX6_numberOf 2 = .ok (.getfield 10, 3) := by decide +kernel
theorem dX6_numberOf_5 : decode cX6_numberOf 5 = .ok (.invokevirtual 93, 3) := by decide +kernel
theorem dX6_numberOf_8 : decode cX6_numberOf 8 = .ok (.invokestatic 52, 3) := by decide +kernel
theorem dX6_numberOf_11 : decode cX6_numberOf 11 = .ok (.ireturn, 1) := by decide +kernel
set_option maxRecDepth 20000 in
theorem ggX7_init_X6_init : GoodIn wsX7_init wsX6_init := goodIn_r _ [18, 19, 2, 3, 20, 21, 22, 23, 24, 25, 26, 27, 28, 29, 30, 31, 32, 33, 34, 35, 36, 37, 38, 39, 40, 41, 42, 43, 44, 45, 46, 47, 48, 49, 9, 50, 51, 52, 53, 54, 55, 56, 57, 58, 59, 60, 61, 62, 63, 64, 65, 66, 67, 68, 69, 70, 71, 72, 73, 74, 75, 76, 77, 78, 79, 91, 92, 93, 94, 80, 81, 82, 95, 96, 97, 98, 99, 100, 101, 102, 103, 104, 105, 106, 107] (by decide +kernel) (by decide +kernel)
set_option maxRecDepth 20000 in
theorem gX7_init_X6_init : GoodIn wsX7_init (wsX6_init) := ggX7_init_X6_init
theorem dX7_init_0 : decode cX7_init 0 = .ok (.aload_n 0, 1) := by decide +kernel
theorem dX7_init_1 : decode cX7_init 1 = .ok (.invokespecial 1, 3) := by decide +kernel
theorem dX7_init_4 : decode cX7_init 4 = .ok (.aload_n 0, 1) := by decide +kernel
theorem dX7_init_5 : decode cX7_init 5 = .ok (.new 7, 3) := by decide +kernel
theorem dX7_init_8 : decode cX7_init 8 = .ok (.dup, 1) := by decide +kernel
theorem dX7_init_9 : decode cX7_init 9 = .ok (.invokespecial 9, 3) := by decide +kernel
theorem dX7_init_12 : decode cX7_init 12 = .ok (.putfield 10, 3) := by decide +kernel
theorem dX7_init_15 : decode cX7_init 15 = .ok (.aload_n 0, 1) := by decide +kernel
theorem dX7_init_16 : decode cX7_init 16 = .ok (.iconst 5, 1) := by decide +kernel
theorem dX7_init_17 : decode cX7_init 17 = .ok (.putfield 16, 3) := by decide +kernel
theorem dX7_init_20 : decode cX7_init 20 = .ok (.aload_n 0, 1) := by decide +kernel
theorem dX7_init_21 : decode cX7_init 21 = .ok (.iconst 0, 1) := by decide +kernel
theorem dX7_init_22 : decode cX7_init 22 = .ok (.newarray .int, 2) := by decide +kernel
theorem dX7_init_24 : decode cX7_init 24 = .ok (.putfield 20, 3) := by decide +kernel
theorem dX7_init_27 : decode cX7_init 27 = .ok (.aload_n 0, 1) := by decide +kernel
theorem dX7_init_28 : decode cX7_init 28 = .ok (.bipush 31, 2) := by decide +kernel
theorem dX7_init_30 : decode cX7_init 30 = .ok (.putfield 24, 3) := by decide +kernel
theorem dX7_init_33 : decode cX7_init 33 = .ok (.aload_n 0, 1) := by decide +kernel
theorem dX7_init_34 : decode cX7_init 34 = .ok (.bipush 31, 2) := by decide +kernel
theorem dX7_init_36 : decode cX7_init 36 = .ok (.putfield 27, 3) := by decide +kernel
theorem dX7_init_39 : decode cX7_init 39 = .ok (.aload_n 0, 1) := by decide +kernel
theorem dX7_init_40 : decode cX7_init 40 = .ok (.iconst 0, 1) := by decide +kernel
theorem dX7_init_41 : decode cX7_init 41 = .ok (.newarray .int, 2) := by decide +kernel
theorem dX7_init_43 : decode cX7_init 43 = .ok (.putfield 30, 3) := by decide +kernel
theorem dX7_init_46 : decode cX7_init 46 = .ok (.aload_n 0, 1) := by decide +kernel
theorem dX7_init_47 : decode cX7_init 47 = .ok (.aload_n 1, 1) := by decide +kernel
theorem dX7_init_48 : decode cX7_init 48 = .ok (.putfield 33, 3) := by decide +kernel
theorem dX7_init_51 : decode cX7_init 51 = .ok (.aload_n 0, 1) := by decide +kernel
theorem dX7_init_52 : decode cX7_init 52 = .ok (.iload_n 2, 1) := by decide +kernel
theorem dX7_init_53 : decode cX7_init 53 = .ok (.putfield 36, 3) := by decide +kernel
theorem dX7_init_56 : decode cX7_init 56 = .ok (.return_, 1) := by decide +kernel
set_option maxRecDepth 20000 in
theorem ggX7_draw_L_cell : GoodIn wsX7_draw wsL_cell := goodIn_r _ [5, 6] (by decide +kernel) (by decide +kernel)
set_option maxRecDepth 20000 in
theorem gX7_draw_L_cell_n39 : GoodIn wsX7_draw (wsL_cell) := ggX7_draw_L_cell
set_option maxRecDepth 20000 in
theorem ggX7_draw_L_below : GoodIn wsX7_draw wsL_below := goodIn_r _ [8, 9] (by decide +kernel) (by decide +kernel)
set_option maxRecDepth 20000 in
theorem gX7_draw_L_below_n45 : GoodIn wsX7_draw (wsL_below) := ggX7_draw_L_below
theorem dX7_draw_0 : decode cX7_draw 0 = .ok (.aload_n 0, 1) := by decide +kernel
theorem dX7_draw_1 : decode cX7_draw 1 = .ok (.getfield 33, 3) := by decide +kernel
theorem dX7_draw_4 : decode cX7_draw 4 = .ok (.aload_n 0, 1) := by decide +kernel
theorem dX7_draw_5 : decode cX7_draw 5 = .ok (.getfield 36, 3) := by decide +kernel
theorem dX7_draw_8 : decode cX7_draw 8 = .ok (.bipush 24, 2) := by decide +kernel
theorem dX7_draw_10 : decode cX7_draw 10 = .ok (.irem, 1) := by decide +kernel
theorem dX7_draw_11 : decode cX7_draw 11 = .ok (.invokestatic 39, 3) := by decide +kernel
theorem dX7_draw_14 : decode cX7_draw 14 = .ok (.aload_n 0, 1) := by decide +kernel
theorem dX7_draw_15 : decode cX7_draw 15 = .ok (.getfield 36, 3) := by decide +kernel
theorem dX7_draw_18 : decode cX7_draw 18 = .ok (.bipush 24, 2) := by decide +kernel
theorem dX7_draw_20 : decode cX7_draw 20 = .ok (.idiv, 1) := by decide +kernel
theorem dX7_draw_21 : decode cX7_draw 21 = .ok (.bipush 8, 2) := by decide +kernel
theorem dX7_draw_23 : decode cX7_draw 23 = .ok (.irem, 1) := by decide +kernel
theorem dX7_draw_24 : decode cX7_draw 24 = .ok (.ishr, 1) := by decide +kernel
theorem dX7_draw_25 : decode cX7_draw 25 = .ok (.sipush 179, 3) := by decide +kernel
theorem dX7_draw_28 : decode cX7_draw 28 = .ok (.aload_n 0, 1) := by decide +kernel
theorem dX7_draw_29 : decode cX7_draw 29 = .ok (.getfield 36, 3) := by decide +kernel
theorem dX7_draw_32 : decode cX7_draw 32 = .ok (.imul, 1) := by decide +kernel
theorem dX7_draw_33 : decode cX7_draw 33 = .ok (.iadd, 1) := by decide +kernel
theorem dX7_draw_34 : decode cX7_draw 34 = .ok (.iload_n 1, 1) := by decide +kernel
theorem dX7_draw_35 : decode cX7_draw 35 = .ok (.invokestatic 45, 3) := by decide +kernel
theorem dX7_draw_38 : decode cX7_draw 38 = .ok (.istore_n 2, 1) := by decide +kernel
theorem dX7_draw_39 : decode cX7_draw 39 = .ok (.aload_n 0, 1) := by decide +kernel
theorem dX7_draw_40 : decode cX7_draw 40 = .ok (.dup, 1) := by decide +kernel
theorem dX7_draw_41 : decode cX7_draw 41 = .ok (.getfield 36, 3) := by decide +kernel
theorem dX7_draw_44 : decode cX7_draw 44 = .ok (.iconst 1, 1) := by decide +kernel
theorem dX7_draw_45 : decode cX7_draw 45 = .ok (.iadd, 1) := by decide +kernel
theorem dX7_draw_46 : decode cX7_draw 46 = .ok (.putfield 36, 3) := by decide +kernel
theorem dX7_draw_49 : decode cX7_draw 49 = .ok (.iload_n 2, 1) := by decide +kernel
theorem dX7_draw_50 : decode cX7_draw 50 = .ok (.ireturn, 1) := by decide +kernel
theorem dX7_plus_0 : decode cX7_plus 0 = .ok (.aload_n 0, 1) := by decide +kernel
theorem dX7_plus_1 : decode cX7_plus 1 = .ok (.arraylength, 1) := by decide +kernel
theorem dX7_plus_2 : decode cX7_plus 2 = .ok (.iconst 1, 1) := by decide +kernel
theorem dX7_plus_3 : decode cX7_plus 3 = .ok (.iadd, 1) := by decide +kernel
theorem dX7_plus_4 : decode cX7_plus 4 = .ok (.newarray .int, 2) := by decide +kernel
theorem dX7_plus_6 : decode cX7_plus 6 = .ok (.astore_n 2, 1) := by decide +kernel
theorem dX7_plus_7 : decode cX7_plus 7 = .ok (.aload_n 0, 1) := by decide +kernel
theorem dX7_plus_8 : decode cX7_plus 8 = .ok (.iconst 0, 1) := by decide +kernel
theorem dX7_plus_9 : decode cX7_plus 9 = .ok (.aload_n 2, 1) := by decide +kernel
theorem dX7_plus_10 : decode cX7_plus 10 = .ok (.iconst 0, 1) := by decide +kernel
theorem dX7_plus_11 : decode cX7_plus 11 = .ok (.aload_n 0, 1) := by decide +kernel
theorem dX7_plus_12 : decode cX7_plus 12 = .ok (.arraylength, 1) := by decide +kernel
theorem dX7_plus_13 : decode cX7_plus 13 = .ok (.invokestatic 49, 3) := by decide +kernel
theorem dX7_plus_16 : decode cX7_plus 16 = .ok (.aload_n 2, 1) := by decide +kernel
theorem dX7_plus_17 : decode cX7_plus 17 = .ok (.aload_n 0, 1) := by decide +kernel
theorem dX7_plus_18 : decode cX7_plus 18 = .ok (.arraylength, 1) := by decide +kernel
theorem dX7_plus_19 : decode cX7_plus 19 = .ok (.iload_n 1, 1) := by decide +kernel
theorem dX7_plus_20 : decode cX7_plus 20 = .ok (.iastore, 1) := by decide +kernel
theorem dX7_plus_21 : decode cX7_plus 21 = .ok (.aload_n 2, 1) := by decide +kernel
theorem dX7_plus_22 : decode cX7_plus 22 = .ok (.areturn, 1) := by decide +kernel
theorem dX7_less_0 : decode cX7_less 0 = .ok (.aload_n 0, 1) := by decide +kernel
theorem dX7_less_1 : decode cX7_less 1 = .ok (.arraylength, 1) := by decide +kernel
theorem dX7_less_2 : decode cX7_less 2 = .ok (.iconst 1, 1) := by decide +kernel
theorem dX7_less_3 : decode cX7_less 3 = .ok (.isub, 1) := by decide +kernel
theorem dX7_less_4 : decode cX7_less 4 = .ok (.newarray .int, 2) := by decide +kernel
theorem dX7_less_6 : decode cX7_less 6 = .ok (.astore_n 1, 1) := by decide +kernel
theorem dX7_less_7 : decode cX7_less 7 = .ok (.aload_n 0, 1) := by decide +kernel
theorem dX7_less_8 : decode cX7_less 8 = .ok (.iconst 0, 1) := by decide +kernel
theorem dX7_less_9 : decode cX7_less 9 = .ok (.aload_n 1, 1) := by decide +kernel
theorem dX7_less_10 : decode cX7_less 10 = .ok (.iconst 0, 1) := by decide +kernel
theorem dX7_less_11 : decode cX7_less 11 = .ok (.aload_n 1, 1) := by decide +kernel
theorem dX7_less_12 : decode cX7_less 12 = .ok (.arraylength, 1) := by decide +kernel
theorem dX7_less_13 : decode cX7_less 13 = .ok (.invokestatic 49, 3) := by decide +kernel
theorem dX7_less_16 : decode cX7_less 16 = .ok (.aload_n 1, 1) := by decide +kernel
theorem dX7_less_17 : decode cX7_less 17 = .ok (.areturn, 1) := by decide +kernel
theorem dX7_tell_0 : decode cX7_tell 0 = .ok (.iconst 0, 1) := by decide +kernel
theorem dX7_tell_1 : decode cX7_tell 1 = .ok (.istore_n 1, 1) := by decide +kernel
theorem dX7_tell_2 : decode cX7_tell 2 = .ok (.aload_n 0, 1) := by decide +kernel
theorem dX7_tell_3 : decode cX7_tell 3 = .ok (.astore_n 2, 1) := by decide +kernel
theorem dX7_tell_4 : decode cX7_tell 4 = .ok (.aload_n 2, 1) := by decide +kernel
theorem dX7_tell_5 : decode cX7_tell 5 = .ok (.arraylength, 1) := by decide +kernel
theorem dX7_tell_6 : decode cX7_tell 6 = .ok (.istore_n 3, 1) := by decide +kernel
theorem dX7_tell_7 : decode cX7_tell 7 = .ok (.iconst 0, 1) := by decide +kernel
theorem dX7_tell_8 : decode cX7_tell 8 = .ok (.istore 4, 2) := by decide +kernel
theorem dX7_tell_10 : decode cX7_tell 10 = .ok (.iload 4, 2) := by decide +kernel
theorem dX7_tell_12 : decode cX7_tell 12 = .ok (.iload_n 3, 1) := by decide +kernel
theorem dX7_tell_13 : decode cX7_tell 13 = .ok (.if_icmp .ge 23, 3) := by decide +kernel
theorem dX7_tell_16 : decode cX7_tell 16 = .ok (.aload_n 2, 1) := by decide +kernel
theorem dX7_tell_17 : decode cX7_tell 17 = .ok (.iload 4, 2) := by decide +kernel
theorem dX7_tell_19 : decode cX7_tell 19 = .ok (.iaload, 1) := by decide +kernel
theorem dX7_tell_20 : decode cX7_tell 20 = .ok (.istore 5, 2) := by decide +kernel
theorem dX7_tell_22 : decode cX7_tell 22 = .ok (.bipush 10, 2) := by decide +kernel
theorem dX7_tell_24 : decode cX7_tell 24 = .ok (.iload_n 1, 1) := by decide +kernel
theorem dX7_tell_25 : decode cX7_tell 25 = .ok (.imul, 1) := by decide +kernel
theorem dX7_tell_26 : decode cX7_tell 26 = .ok (.iload 5, 2) := by decide +kernel
theorem dX7_tell_28 : decode cX7_tell 28 = .ok (.iadd, 1) := by decide +kernel
theorem dX7_tell_29 : decode cX7_tell 29 = .ok (.istore_n 1, 1) := by decide +kernel
theorem dX7_tell_30 : decode cX7_tell 30 = .ok (.iinc 4 1, 3) := by decide +kernel
theorem dX7_tell_33 : decode cX7_tell 33 = .ok (.goto (-23), 3) := by decide +kernel
theorem dX7_tell_36 : decode cX7_tell 36 = .ok (.iload_n 1, 1) := by decide +kernel
theorem dX7_tell_37 : decode cX7_tell 37 = .ok (.ireturn, 1) := by decide +kernel
theorem dX7_rounds_0 : decode cX7_rounds 0 = .ok (.aload_n 0, 1) := by decide +kernel
theorem dX7_rounds_1 : decode cX7_rounds 1 = .ok (.getfield 16, 3) := by decide +kernel
theorem dX7_rounds_4 : decode cX7_rounds 4 = .ok (.newarray .int, 2) := by decide +kernel
theorem dX7_rounds_6 : decode cX7_rounds 6 = .ok (.astore_n 1, 1) := by decide +kernel
theorem dX7_rounds_7 : decode cX7_rounds 7 = .ok (.iconst 0, 1) := by decide +kernel
theorem dX7_rounds_8 : decode cX7_rounds 8 = .ok (.istore_n 2, 1) := by decide +kernel
theorem dX7_rounds_9 : decode cX7_rounds 9 = .ok (.iload_n 2, 1) := by decide +kernel
theorem dX7_rounds_10 : decode cX7_rounds 10 = .ok (.aload_n 0, 1) := by decide +kernel
theorem dX7_rounds_11 : decode cX7_rounds 11 = .ok (.getfield 16, 3) := by decide +kernel
theorem dX7_rounds_14 : decode cX7_rounds 14 = .ok (.if_icmp .ge 15, 3) := by decide +kernel
theorem dX7_rounds_17 : decode cX7_rounds 17 = .ok (.aload_n 1, 1) := by decide +kernel
theorem dX7_rounds_18 : decode cX7_rounds 18 = .ok (.iload_n 2, 1) := by decide +kernel
theorem dX7_rounds_19 : decode cX7_rounds 19 = .ok (.iload_n 2, 1) := by decide +kernel
theorem dX7_rounds_20 : decode cX7_rounds 20 = .ok (.iconst 1, 1) := by decide +kernel
theorem dX7_rounds_21 : decode cX7_rounds 21 = .ok (.iadd, 1) := by decide +kernel
theorem dX7_rounds_22 : decode cX7_rounds 22 = .ok (.iastore, 1) := by decide +kernel
theorem dX7_rounds_23 : decode cX7_rounds 23 = .ok (.iinc 2 1, 3) := by decide +kernel
theorem dX7_rounds_26 : decode cX7_rounds 26 = .ok (.goto (-17), 3) := by decide +kernel
theorem dX7_rounds_29 : decode cX7_rounds 29 = .ok (.aload_n 1, 1) := by decide +kernel
theorem dX7_rounds_30 : decode cX7_rounds 30 = .ok (.areturn, 1) := by decide +kernel
theorem dX7_ring_0 : decode cX7_ring 0 = .ok (.iconst 0, 1) := by decide +kernel
theorem dX7_ring_1 : decode cX7_ring 1 = .ok (.istore_n 3, 1) := by decide +kernel
theorem dX7_ring_2 : decode cX7_ring 2 = .ok (.iload_n 3, 1) := by decide +kernel
theorem dX7_ring_3 : decode cX7_ring 3 = .ok (.aload_n 0, 1) := by decide +kernel
theorem dX7_ring_4 : decode cX7_ring 4 = .ok (.getfield 16, 3) := by decide +kernel
theorem dX7_ring_7 : decode cX7_ring 7 = .ok (.if_icmp .ge 46, 3) := by decide +kernel
theorem dX7_ring_10 : decode cX7_ring 10 = .ok (.iload_n 2, 1) := by decide +kernel
theorem dX7_ring_11 : decode cX7_ring 11 = .ok (.iconst 1, 1) := by decide +kernel
theorem dX7_ring_12 : decode cX7_ring 12 = .ok (.iload_n 3, 1) := by decide +kernel
theorem dX7_ring_13 : decode cX7_ring 13 = .ok (.ishl, 1) := by decide +kernel
theorem dX7_ring_14 : decode cX7_ring 14 = .ok (.idiv, 1) := by decide +kernel
theorem dX7_ring_15 : decode cX7_ring 15 = .ok (.iconst 2, 1) := by decide +kernel
theorem dX7_ring_16 : decode cX7_ring 16 = .ok (.irem, 1) := by decide +kernel
theorem dX7_ring_17 : decode cX7_ring 17 = .ok (.iconst 1, 1) := by decide +kernel
theorem dX7_ring_18 : decode cX7_ring 18 = .ok (.if_icmp .ne 6, 3) := by decide +kernel
theorem dX7_ring_21 : decode cX7_ring 21 = .ok (.goto 26, 3) := by decide +kernel
theorem dX7_ring_24 : decode cX7_ring 24 = .ok (.aload_n 1, 1) := by decide +kernel
theorem dX7_ring_25 : decode cX7_ring 25 = .ok (.iload_n 3, 1) := by decide +kernel
theorem dX7_ring_26 : decode cX7_ring 26 = .ok (.iaload, 1) := by decide +kernel
theorem dX7_ring_27 : decode cX7_ring 27 = .ok (.istore 4, 2) := by decide +kernel
theorem dX7_ring_29 : decode cX7_ring 29 = .ok (.aload_n 1, 1) := by decide +kernel
theorem dX7_ring_30 : decode cX7_ring 30 = .ok (.iload_n 3, 1) := by decide +kernel
theorem dX7_ring_31 : decode cX7_ring 31 = .ok (.aload_n 1, 1) := by decide +kernel
theorem dX7_ring_32 : decode cX7_ring 32 = .ok (.iload_n 3, 1) := by decide +kernel
theorem dX7_ring_33 : decode cX7_ring 33 = .ok (.iconst 1, 1) := by decide +kernel
theorem dX7_ring_34 : decode cX7_ring 34 = .ok (.iadd, 1) := by decide +kernel
theorem dX7_ring_35 : decode cX7_ring 35 = .ok (.iaload, 1) := by decide +kernel
theorem dX7_ring_36 : decode cX7_ring 36 = .ok (.iastore, 1) := by decide +kernel
theorem dX7_ring_37 : decode cX7_ring 37 = .ok (.aload_n 1, 1) := by decide +kernel
theorem dX7_ring_38 : decode cX7_ring 38 = .ok (.iload_n 3, 1) := by decide +kernel
theorem dX7_ring_39 : decode cX7_ring 39 = .ok (.iconst 1, 1) := by decide +kernel
theorem dX7_ring_40 : decode cX7_ring 40 = .ok (.iadd, 1) := by decide +kernel
theorem dX7_ring_41 : decode cX7_ring 41 = .ok (.iload 4, 2) := by decide +kernel
theorem dX7_ring_43 : decode cX7_ring 43 = .ok (.iastore, 1) := by decide +kernel
theorem dX7_ring_44 : decode cX7_ring 44 = .ok (.iinc 3 1, 3) := by decide +kernel
theorem dX7_ring_47 : decode cX7_ring 47 = .ok (.iinc 3 1, 3) := by decide +kernel
theorem dX7_ring_50 : decode cX7_ring 50 = .ok (.goto (-48), 3) := by decide +kernel
theorem dX7_ring_53 : decode cX7_ring 53 = .ok (.return_, 1) := by decide +kernel
set_option maxRecDepth 20000 in
theorem ggX7_any_X7_draw : GoodIn wsX7_any wsX7_draw := goodIn_r _ [6, 7, 8, 9, 10, 11, 12, 13, 14, 15, 16, 17, 18, 19, 20, 21, 22, 23] (by decide +kernel) (by decide +kernel)
set_option maxRecDepth 20000 in
theorem gX7_any_X7_draw : GoodIn wsX7_any (wsV RX7 55 RX7 yX7_draw wsX7_draw) := goodIn_app (goodIn_of _ (by decide +kernel)) ggX7_any_X7_draw
theorem dX7_any_0 : decode cX7_any 0 = .ok (.iconst 0, 1) := by decide +kernel
theorem dX7_any_1 : decode cX7_any 1 = .ok (.istore_n 1, 1) := by decide +kernel
theorem dX7_any_2 : decode cX7_any 2 = .ok (.iconst 0, 1) := by decide +kernel
theorem dX7_any_3 : decode cX7_any 3 = .ok (.istore_n 2, 1) := by decide +kernel
theorem dX7_any_4 : decode cX7_any 4 = .ok (.iload_n 2, 1) := by decide +kernel
theorem dX7_any_5 : decode cX7_any 5 = .ok (.aload_n 0, 1) := by decide +kernel
theorem dX7_any_6 : decode cX7_any 6 = .ok (.getfield 16, 3) := by decide +kernel
theorem dX7_any_9 : decode cX7_any 9 = .ok (.if_icmp .ge 39, 3) := by decide +kernel
theorem dX7_any_12 : decode cX7_any 12 = .ok (.iload_n 2, 1) := by decide +kernel
theorem dX7_any_13 : decode cX7_any 13 = .ok (.iconst 1, 1) := by decide +kernel
theorem dX7_any_14 : decode cX7_any 14 = .ok (.iadd, 1) := by decide +kernel
theorem dX7_any_15 : decode cX7_any 15 = .ok (.aload_n 0, 1) := by decide +kernel
theorem dX7_any_16 : decode cX7_any 16 = .ok (.getfield 16, 3) := by decide +kernel
theorem dX7_any_19 : decode cX7_any 19 = .ok (.if_icmp .ge 17, 3) := by decide +kernel
theorem dX7_any_22 : decode cX7_any 22 = .ok (.aload_n 0, 1) := by decide +kernel
theorem dX7_any_23 : decode cX7_any 23 = .ok (.iconst 4, 1) := by decide +kernel
theorem dX7_any_24 : decode cX7_any 24 = .ok (.invokevirtual 55, 3) := by decide +kernel
theorem dX7_any_27 : decode cX7_any 27 = .ok (.ifCond .le 9, 3) := by decide +kernel
theorem dX7_any_30 : decode cX7_any 30 = .ok (.iinc 2 1, 3) := by decide +kernel
theorem dX7_any_33 : decode cX7_any 33 = .ok (.goto 9, 3) := by decide +kernel
theorem dX7_any_36 : decode cX7_any 36 = .ok (.iload_n 1, 1) := by decide +kernel
theorem dX7_any_37 : decode cX7_any 37 = .ok (.iconst 1, 1) := by decide +kernel
theorem dX7_any_38 : decode cX7_any 38 = .ok (.iload_n 2, 1) := by decide +kernel
theorem dX7_any_39 : decode cX7_any 39 = .ok (.ishl, 1) := by decide +kernel
theorem dX7_any_40 : decode cX7_any 40 = .ok (.iadd, 1) := by decide +kernel
theorem dX7_any_41 : decode cX7_any 41 = .ok (.istore_n 1, 1) := by decide +kernel
theorem dX7_any_42 : decode cX7_any 42 = .ok (.iinc 2 1, 3) := by decide +kernel
theorem dX7_any_45 : decode cX7_any 45 = .ok (.goto (-41), 3) := by decide +kernel
theorem dX7_any_48 : decode cX7_any 48 = .ok (.iload_n 1, 1) := by decide +kernel
theorem dX7_any_49 : decode cX7_any 49 = .ok (.ireturn, 1) := by decide +kernel
set_option maxRecDepth 20000 in
theorem ggX7_begin_X7_draw : GoodIn wsX7_begin wsX7_draw := goodIn_r _ [12, 13, 14, 15, 16, 17, 18, 19, 20, 21, 91, 92, 93, 94, 95, 96, 97, 98] (by decide +kernel) (by decide +kernel)
set_option maxRecDepth 20000 in
theorem gX7_begin_X7_draw : GoodIn wsX7_begin (wsV RX7 55 RX7 yX7_draw wsX7_draw) := goodIn_app (goodIn_of _ (by decide +kernel)) ggX7_begin_X7_draw
set_option maxRecDepth 20000 in
theorem ggX7_begin_X6_begin : GoodIn wsX7_begin wsX6_begin := goodIn_ca (goodIn_r _ [26, 27, 28, 29, 30, 31, 32, 33, 34, 35, 36, 37, 38, 39, 40, 41, 42, 43, 44, 45, 46, 47, 48, 49, 50, 51, 52, 53, 54, 55, 56, 57, 58, 59, 60, 61, 62, 63, 64, 65, 66, 67, 68, 69, 70, 71, 72, 73, 74, 75, 76, 77, 78, 79, 80, 81, 82, 83, 99, 100, 101, 102, 103, 104, 105, 106, 107, 108, 109, 110, 111, 112, 113, 114] (by decide +kernel) (by decide +kernel)) (goodIn_sub (fun _ h => List.mem_cons_of_mem _ (List.mem_append_right _ h)) (by decide +kernel))
set_option maxRecDepth 20000 in
theorem gX7_begin_X6_begin : GoodIn wsX7_begin (wsV RX7 59 RX6 yX6_begin wsX6_begin) := goodIn_app (goodIn_of _ (by decide +kernel)) ggX7_begin_X6_begin
set_option maxRecDepth 20000 in
theorem ggX7_begin_X7_rounds : GoodIn wsX7_begin wsX7_rounds := goodIn_r _ [87, 1, 2, 91, 92, 93, 94, 95, 96, 97, 98] (by decide +kernel) (by decide +kernel)
set_option maxRecDepth 20000 in
theorem gX7_begin_X7_rounds : GoodIn wsX7_begin (wsV RX7 62 RX7 yX7_rounds wsX7_rounds) := goodIn_app (goodIn_of _ (by decide +kernel)) ggX7_begin_X7_rounds
set_option maxRecDepth 20000 in
theorem ggX7_begin_X7_tell : GoodIn wsX7_begin wsX7_tell := goodIn_r _ [90] (by decide +kernel) (by decide +kernel)
set_option maxRecDepth 20000 in
theorem gX7_begin_X7_tell : GoodIn wsX7_begin (va_wsS RX7 66 yX7_tell wsX7_tell) := goodIn_app (goodIn_of _ (by decide +kernel)) ggX7_begin_X7_tell
theorem dX7_begin_0 : decode cX7_begin 0 = .ok (.aload_n 0, 1) := by decide +kernel
theorem dX7_begin_1 : decode cX7_begin 1 = .ok (.iconst 4, 1) := by decide +kernel
theorem dX7_begin_2 : decode cX7_begin 2 = .ok (.aload_n 0, 1) := by decide +kernel
theorem dX7_begin_3 : decode cX7_begin 3 = .ok (.iconst 4, 1) := by decide +kernel
theorem dX7_begin_4 : decode cX7_begin 4 = .ok (.invokevirtual 55, 3) := by decide +kernel
theorem dX7_begin_7 : decode cX7_begin 7 = .ok (.iadd, 1) := by decide +kernel
theorem dX7_begin_8 : decode cX7_begin 8 = .ok (.putfield 16, 3) := by decide +kernel
theorem dX7_begin_11 : decode cX7_begin 11 = .ok (.aload_n 0, 1) := by decide +kernel
theorem dX7_begin_12 : decode cX7_begin 12 = .ok (.iconst 0, 1) := by decide +kernel
theorem dX7_begin_13 : decode cX7_begin 13 = .ok (.newarray .int, 2) := by decide +kernel
theorem dX7_begin_15 : decode cX7_begin 15 = .ok (.putfield 20, 3) := by decide +kernel
theorem dX7_begin_18 : decode cX7_begin 18 = .ok (.aload_n 0, 1) := by decide +kernel
theorem dX7_begin_19 : decode cX7_begin 19 = .ok (.iconst 0, 1) := by decide +kernel
theorem dX7_begin_20 : decode cX7_begin 20 = .ok (.newarray .int, 2) := by decide +kernel
theorem dX7_begin_22 : decode cX7_begin 22 = .ok (.putfield 30, 3) := by decide +kernel
theorem dX7_begin_25 : decode cX7_begin 25 = .ok (.aload_n 0, 1) := by decide +kernel
theorem dX7_begin_26 : decode cX7_begin 26 = .ok (.iconst 1, 1) := by decide +kernel
theorem dX7_begin_27 : decode cX7_begin 27 = .ok (.aload_n 0, 1) := by decide +kernel
theorem dX7_begin_28 : decode cX7_begin 28 = .ok (.getfield 16, 3) := by decide +kernel
theorem dX7_begin_31 : decode cX7_begin 31 = .ok (.ishl, 1) := by decide +kernel
theorem dX7_begin_32 : decode cX7_begin 32 = .ok (.iconst 1, 1) := by decide +kernel
theorem dX7_begin_33 : decode cX7_begin 33 = .ok (.isub, 1) := by decide +kernel
theorem dX7_begin_34 : decode cX7_begin 34 = .ok (.putfield 24, 3) := by decide +kernel
theorem dX7_begin_37 : decode cX7_begin 37 = .ok (.aload_n 0, 1) := by decide +kernel
theorem dX7_begin_38 : decode cX7_begin 38 = .ok (.aload_n 0, 1) := by decide +kernel
theorem dX7_begin_39 : decode cX7_begin 39 = .ok (.getfield 24, 3) := by decide +kernel
theorem dX7_begin_42 : decode cX7_begin 42 = .ok (.putfield 27, 3) := by decide +kernel
theorem dX7_begin_45 : decode cX7_begin 45 = .ok (.aload_n 0, 1) := by decide +kernel
theorem dX7_begin_46 : decode cX7_begin 46 = .ok (.getfield 10, 3) := by decide +kernel
theorem dX7_begin_49 : decode cX7_begin 49 = .ok (.aload_n 0, 1) := by decide +kernel
theorem dX7_begin_50 : decode cX7_begin 50 = .ok (.getfield 16, 3) := by decide +kernel
theorem dX7_begin_53 : decode cX7_begin 53 = .ok (.invokevirtual 59, 3) := by decide +kernel
theorem dX7_begin_56 : decode cX7_begin 56 = .ok (.aload_n 0, 1) := by decide +kernel
theorem dX7_begin_57 : decode cX7_begin 57 = .ok (.invokevirtual 62, 3) := by decide +kernel
theorem dX7_begin_60 : decode cX7_begin 60 = .ok (.invokestatic 66, 3) := by decide +kernel
theorem dX7_begin_63 : decode cX7_begin 63 = .ok (.if_icmp .ne 7, 3) := by decide +kernel
theorem dX7_begin_66 : decode cX7_begin 66 = .ok (.iconst 1, 1) := by decide +kernel
theorem dX7_begin_67 : decode cX7_begin 67 = .ok (.goto 4, 3) := by decide +kernel
theorem dX7_begin_70 : decode cX7_begin 70 = .ok (.iconst 0, 1) := by decide +kernel
theorem dX7_begin_71 : decode cX7_begin 71 = .ok (.ireturn, 1) := by decide +kernel
set_option maxRecDepth 20000 in
theorem ggX7_change_X7_any : GoodIn wsX7_change wsX7_any := goodIn_r _ [7, 8, 9, 10, 11, 6, 12, 13, 14, 15, 16, 17, 18, 19, 20, 21, 168, 169, 170, 171, 172, 173, 174, 175] (by decide +kernel) (by decide +kernel)
set_option maxRecDepth 20000 in
theorem gX7_change_X7_any : GoodIn wsX7_change (wsV RX7 70 RX7 yX7_any wsX7_any) := goodIn_app (goodIn_of _ (by decide +kernel)) ggX7_change_X7_any
set_option maxRecDepth 20000 in
theorem ggX7_change_X7_plus : GoodIn wsX7_change wsX7_plus := goodIn_r _ [24, 25, 26, 27, 28, 29] (by decide +kernel) (by decide +kernel)
set_option maxRecDepth 20000 in
theorem gX7_change_X7_plus : GoodIn wsX7_change (va_wsS RX7 74 yX7_plus wsX7_plus) := goodIn_app (goodIn_of _ (by decide +kernel)) ggX7_change_X7_plus
set_option maxRecDepth 20000 in
theorem ggX7_change_X6_change : GoodIn wsX7_change wsX6_change := goodIn_ca (goodIn_ca (goodIn_r _ [34, 35, 36, 37, 38, 39, 40, 41, 33, 42, 43, 44, 45, 46, 47, 48, 49, 50, 51, 52, 53, 54, 55, 56, 57, 58, 59, 60, 61, 62, 63, 64, 65, 66, 67, 68, 69, 70, 71, 72, 73, 74, 75, 76, 77, 78, 79, 80, 81, 82, 83, 84, 85, 86, 87, 88, 89, 90, 91, 92, 93, 94, 95, 96, 97, 98, 99, 100, 101, 102, 103, 104, 105, 106, 107, 108, 109, 110, 111, 112, 113, 114, 115, 116, 117, 118, 119, 120, 121, 122, 123, 124, 125, 126, 127, 128, 129, 130, 131, 132, 133, 134, 135, 136, 137, 138, 139, 140, 141, 142, 143, 144, 145, 146, 147, 148, 149, 150, 151, 152, 153, 154, 155, 156, 157, 158, 159, 160, 161, 162, 163, 164, 165, 166, 167, 176, 177, 178, 179, 180, 181, 182, 183, 184, 185, 186, 187, 188, 189, 190, 191] (by decide +kernel) (by decide +kernel)) (goodIn_sub (fun _ h => List.mem_cons_of_mem _ (List.mem_append_left _ (List.mem_append_right _ h))) (by decide +kernel))) (goodIn_sub (fun _ h => List.mem_cons_of_mem _ (List.mem_append_right _ h)) (by decide +kernel))
set_option maxRecDepth 20000 in
theorem gX7_change_X6_change : GoodIn wsX7_change (wsV RX7 78 RX6 yX6_change wsX6_change) := goodIn_app (goodIn_of _ (by decide +kernel)) ggX7_change_X6_change
theorem dX7_change_0 : decode cX7_change 0 = .ok (.aload_n 0, 1) := by decide +kernel
theorem dX7_change_1 : decode cX7_change 1 = .ok (.invokevirtual 70, 3) := by decide +kernel
theorem dX7_change_4 : decode cX7_change 4 = .ok (.istore_n 1, 1) := by decide +kernel
theorem dX7_change_5 : decode cX7_change 5 = .ok (.aload_n 0, 1) := by decide +kernel
theorem dX7_change_6 : decode cX7_change 6 = .ok (.getfield 20, 3) := by decide +kernel
theorem dX7_change_9 : decode cX7_change 9 = .ok (.arraylength, 1) := by decide +kernel
theorem dX7_change_10 : decode cX7_change 10 = .ok (.bipush 14, 2) := by decide +kernel
theorem dX7_change_12 : decode cX7_change 12 = .ok (.if_icmp .ne 5, 3) := by decide +kernel
theorem dX7_change_15 : decode cX7_change 15 = .ok (.iconst 1, 1) := by decide +kernel
theorem dX7_change_16 : decode cX7_change 16 = .ok (.ireturn, 1) := by decide +kernel
theorem dX7_change_17 : decode cX7_change 17 = .ok (.aload_n 0, 1) := by decide +kernel
theorem dX7_change_18 : decode cX7_change 18 = .ok (.aload_n 0, 1) := by decide +kernel
theorem dX7_change_19 : decode cX7_change 19 = .ok (.getfield 20, 3) := by decide +kernel
theorem dX7_change_22 : decode cX7_change 22 = .ok (.iload_n 1, 1) := by decide +kernel
theorem dX7_change_23 : decode cX7_change 23 = .ok (.invokestatic 74, 3) := by decide +kernel
theorem dX7_change_26 : decode cX7_change 26 = .ok (.putfield 20, 3) := by decide +kernel
theorem dX7_change_29 : decode cX7_change 29 = .ok (.aload_n 0, 1) := by decide +kernel
theorem dX7_change_30 : decode cX7_change 30 = .ok (.getfield 10, 3) := by decide +kernel
theorem dX7_change_33 : decode cX7_change 33 = .ok (.iload_n 1, 1) := by decide +kernel
theorem dX7_change_34 : decode cX7_change 34 = .ok (.invokevirtual 78, 3) := by decide +kernel
theorem dX7_change_37 : decode cX7_change 37 = .ok (.aload_n 0, 1) := by decide +kernel
theorem dX7_change_38 : decode cX7_change 38 = .ok (.getfield 20, 3) := by decide +kernel
theorem dX7_change_41 : decode cX7_change 41 = .ok (.arraylength, 1) := by decide +kernel
theorem dX7_change_42 : decode cX7_change 42 = .ok (.if_icmp .ne 7, 3) := by decide +kernel
theorem dX7_change_45 : decode cX7_change 45 = .ok (.iconst 1, 1) := by decide +kernel
theorem dX7_change_46 : decode cX7_change 46 = .ok (.goto 4, 3) := by decide +kernel
theorem dX7_change_49 : decode cX7_change 49 = .ok (.iconst 0, 1) := by decide +kernel
theorem dX7_change_50 : decode cX7_change 50 = .ok (.ireturn, 1) := by decide +kernel
set_option maxRecDepth 20000 in
theorem ggX7_mirror_X6_mirror : GoodIn wsX7_mirror wsX6_mirror := goodIn_ca (goodIn_r _ [8, 9, 10, 11, 12, 13, 14, 15, 16, 17, 18, 19, 20, 21, 22, 23, 24, 25, 26, 27, 28, 29, 30, 31, 32, 33, 34, 35, 36, 37, 38, 39, 40, 41, 42, 43, 44, 45, 46, 47, 48, 49, 50, 51, 52, 53, 54, 55, 56, 57, 58, 59, 60, 61, 62, 63, 64, 65, 66, 67, 68, 69, 70, 71, 72, 73, 74, 75, 76, 77, 78, 79, 80, 81, 82, 83, 84, 85, 86, 87, 88, 89, 90, 91, 92, 93, 94, 95, 96, 97, 98, 99, 100, 101, 102, 103, 104, 105, 106, 107, 108, 109, 110, 111, 112, 113, 114, 115, 116, 117, 118, 119, 120, 121, 122, 123, 124, 125, 126, 127, 128, 129, 130, 131, 132, 133, 134, 135, 153, 154, 155, 156, 157, 158, 159, 160, 161, 162, 163, 164, 165, 166, 167, 168] (by decide +kernel) (by decide +kernel)) (goodIn_sub (fun _ h => List.mem_cons_of_mem _ (List.mem_append_right _ h)) (by decide +kernel))
set_option maxRecDepth 20000 in
theorem gX7_mirror_X6_mirror : GoodIn wsX7_mirror (wsV RX7 81 RX6 yX6_mirror wsX6_mirror) := goodIn_app (goodIn_of _ (by decide +kernel)) ggX7_mirror_X6_mirror
set_option maxRecDepth 20000 in
theorem ggX7_mirror_X7_plus : GoodIn wsX7_mirror wsX7_plus := goodIn_r _ [139, 140, 141, 142, 143, 144] (by decide +kernel) (by decide +kernel)
set_option maxRecDepth 20000 in
theorem gX7_mirror_X7_plus : GoodIn wsX7_mirror (va_wsS RX7 74 yX7_plus wsX7_plus) := goodIn_app (goodIn_of _ (by decide +kernel)) ggX7_mirror_X7_plus
theorem dX7_mirror_0 : decode cX7_mirror 0 = .ok (.aload_n 0, 1) := by decide +kernel
theorem dX7_mirror_1 : decode cX7_mirror 1 = .ok (.getfield 20, 3) := by decide +kernel
theorem dX7_mirror_4 : decode cX7_mirror 4 = .ok (.arraylength, 1) := by decide +kernel
theorem dX7_mirror_5 : decode cX7_mirror 5 = .ok (.ifCond .le 17, 3) := by decide +kernel
theorem dX7_mirror_8 : decode cX7_mirror 8 = .ok (.aload_n 0, 1) := by decide +kernel
theorem dX7_mirror_9 : decode cX7_mirror 9 = .ok (.getfield 20, 3) := by decide +kernel
theorem dX7_mirror_12 : decode cX7_mirror 12 = .ok (.arraylength, 1) := by decide +kernel
theorem dX7_mirror_13 : decode cX7_mirror 13 = .ok (.bipush 8, 2) := by decide +kernel
theorem dX7_mirror_15 : decode cX7_mirror 15 = .ok (.if_icmp .ge 7, 3) := by decide +kernel
theorem dX7_mirror_18 : decode cX7_mirror 18 = .ok (.iconst 1, 1) := by decide +kernel
theorem dX7_mirror_19 : decode cX7_mirror 19 = .ok (.goto 4, 3) := by decide +kernel
theorem dX7_mirror_22 : decode cX7_mirror 22 = .ok (.iconst 0, 1) := by decide +kernel
theorem dX7_mirror_23 : decode cX7_mirror 23 = .ok (.istore_n 1, 1) := by decide +kernel
theorem dX7_mirror_24 : decode cX7_mirror 24 = .ok (.aload_n 0, 1) := by decide +kernel
theorem dX7_mirror_25 : decode cX7_mirror 25 = .ok (.getfield 10, 3) := by decide +kernel
theorem dX7_mirror_28 : decode cX7_mirror 28 = .ok (.invokevirtual 81, 3) := by decide +kernel
theorem dX7_mirror_31 : decode cX7_mirror 31 = .ok (.istore_n 2, 1) := by decide +kernel
theorem dX7_mirror_32 : decode cX7_mirror 32 = .ok (.iload_n 1, 1) := by decide +kernel
theorem dX7_mirror_33 : decode cX7_mirror 33 = .ok (.ifCond .ne 5, 3) := by decide +kernel
theorem dX7_mirror_36 : decode cX7_mirror 36 = .ok (.iconst 0, 1) := by decide +kernel
theorem dX7_mirror_37 : decode cX7_mirror 37 = .ok (.ireturn, 1) := by decide +kernel
theorem dX7_mirror_38 : decode cX7_mirror 38 = .ok (.aload_n 0, 1) := by decide +kernel
theorem dX7_mirror_39 : decode cX7_mirror 39 = .ok (.getfield 20, 3) := by decide +kernel
theorem dX7_mirror_42 : decode cX7_mirror 42 = .ok (.arraylength, 1) := by decide +kernel
theorem dX7_mirror_43 : decode cX7_mirror 43 = .ok (.iconst 2, 1) := by decide +kernel
theorem dX7_mirror_44 : decode cX7_mirror 44 = .ok (.isub, 1) := by decide +kernel
theorem dX7_mirror_45 : decode cX7_mirror 45 = .ok (.istore_n 3, 1) := by decide +kernel
theorem dX7_mirror_46 : decode cX7_mirror 46 = .ok (.iload_n 3, 1) := by decide +kernel
theorem dX7_mirror_47 : decode cX7_mirror 47 = .ok (.ifCond .lt 26, 3) := by decide +kernel
theorem dX7_mirror_50 : decode cX7_mirror 50 = .ok (.aload_n 0, 1) := by decide +kernel
theorem dX7_mirror_51 : decode cX7_mirror 51 = .ok (.aload_n 0, 1) := by decide +kernel
theorem dX7_mirror_52 : decode cX7_mirror 52 = .ok (.getfield 20, 3) := by decide +kernel
theorem dX7_mirror_55 : decode cX7_mirror 55 = .ok (.aload_n 0, 1) := by decide +kernel
theorem dX7_mirror_56 : decode cX7_mirror 56 = .ok (.getfield 20, 3) := by decide +kernel
theorem dX7_mirror_59 : decode cX7_mirror 59 = .ok (.iload_n 3, 1) := by decide +kernel
theorem dX7_mirror_60 : decode cX7_mirror 60 = .ok (.iaload, 1) := by decide +kernel
theorem dX7_mirror_61 : decode cX7_mirror 61 = .ok (.invokestatic 74, 3) := by decide +kernel
theorem dX7_mirror_64 : decode cX7_mirror 64 = .ok (.putfield 20, 3) := by decide +kernel
theorem dX7_mirror_67 : decode cX7_mirror 67 = .ok (.iinc 3 (-1), 3) := by decide +kernel
theorem dX7_mirror_70 : decode cX7_mirror 70 = .ok (.goto (-24), 3) := by decide +kernel
theorem dX7_mirror_73 : decode cX7_mirror 73 = .ok (.iload_n 2, 1) := by decide +kernel
theorem dX7_mirror_74 : decode cX7_mirror 74 = .ok (.aload_n 0, 1) := by decide +kernel
theorem dX7_mirror_75 : decode cX7_mirror 75 = .ok (.getfield 20, 3) := by decide +kernel
theorem dX7_mirror_78 : decode cX7_mirror 78 = .ok (.arraylength, 1) := by decide +kernel
theorem dX7_mirror_79 : decode cX7_mirror 79 = .ok (.if_icmp .ne 7, 3) := by decide +kernel
theorem dX7_mirror_82 : decode cX7_mirror 82 = .ok (.iconst 1, 1) := by decide +kernel
theorem dX7_mirror_83 : decode cX7_mirror 83 = .ok (.goto 4, 3) := by decide +kernel
theorem dX7_mirror_86 : decode cX7_mirror 86 = .ok (.iconst 0, 1) := by decide +kernel
theorem dX7_mirror_87 : decode cX7_mirror 87 = .ok (.ireturn, 1) := by decide +kernel
theorem dX7_mirror_88 : decode cX7_mirror 88 = .ok (.astore_n 2, 1) := by decide +kernel
theorem dX7_mirror_89 : decode cX7_mirror 89 = .ok (.iload_n 1, 1) := by decide +kernel
theorem dX7_mirror_90 : decode cX7_mirror 90 = .ok (.ifCond .ne 7, 3) := by decide +kernel
theorem dX7_mirror_93 : decode cX7_mirror 93 = .ok (.iconst 1, 1) := by decide +kernel
theorem dX7_mirror_94 : decode cX7_mirror 94 = .ok (.goto 4, 3) := by decide +kernel
theorem dX7_mirror_97 : decode cX7_mirror 97 = .ok (.iconst 0, 1) := by decide +kernel
theorem dX7_mirror_98 : decode cX7_mirror 98 = .ok (.ireturn, 1) := by decide +kernel
set_option maxRecDepth 20000 in
theorem ggX7_unchange_X7_less : GoodIn wsX7_unchange wsX7_less := goodIn_r _ [6, 7, 8, 9, 10, 11] (by decide +kernel) (by decide +kernel)
set_option maxRecDepth 20000 in
theorem gX7_unchange_X7_less : GoodIn wsX7_unchange (va_wsS RX7 86 yX7_less wsX7_less) := goodIn_app (goodIn_of _ (by decide +kernel)) ggX7_unchange_X7_less
set_option maxRecDepth 20000 in
theorem ggX7_unchange_X6_unchange : GoodIn wsX7_unchange wsX6_unchange := goodIn_ca (goodIn_r _ [16, 17, 18, 19, 20, 21, 22, 23, 24, 25, 26, 27, 28, 29, 30, 31, 32, 33, 34, 35, 36, 37, 38, 39, 40, 41, 42, 43, 44, 45, 46, 47, 48, 49, 50, 51, 52, 53, 54, 55, 56, 57, 58, 59, 60, 61, 62, 63, 64, 65, 66, 67, 68, 69, 70, 71, 72, 73, 74, 75, 76, 77, 78, 79, 80, 81, 82, 83, 84, 85, 86, 87, 88, 89, 90, 91, 92, 93, 94, 95, 96, 97, 98, 99, 100, 101, 102, 103, 104, 105, 106, 107, 108, 109, 110, 111, 112, 113, 114, 115, 116, 117, 118, 119, 120, 121, 122, 123, 124, 125, 126, 127, 128, 129, 130, 131, 132, 133, 134, 135, 136, 137, 138, 139, 140, 141, 142, 143, 152, 153, 154, 155, 156, 157, 158, 159, 160, 161, 162, 163, 164, 165, 166, 167] (by decide +kernel) (by decide +kernel)) (goodIn_sub (fun _ h => List.mem_cons_of_mem _ (List.mem_append_right _ h)) (by decide +kernel))
set_option maxRecDepth 20000 in
theorem gX7_unchange_X6_unchange : GoodIn wsX7_unchange (wsV RX7 90 RX6 yX6_unchange wsX6_unchange) := goodIn_app (goodIn_of _ (by decide +kernel)) ggX7_unchange_X6_unchange
theorem dX7_unchange_0 : decode cX7_unchange 0 = .ok (.aload_n 0, 1) := by decide +kernel
theorem dX7_unchange_1 : decode cX7_unchange 1 = .ok (.getfield 20, 3) := by decide +kernel
theorem dX7_unchange_4 : decode cX7_unchange 4 = .ok (.arraylength, 1) := by decide +kernel
theorem dX7_unchange_5 : decode cX7_unchange 5 = .ok (.ifCond .ne 5, 3) := by decide +kernel
theorem dX7_unchange_8 : decode cX7_unchange 8 = .ok (.iconst 1, 1) := by decide +kernel
theorem dX7_unchange_9 : decode cX7_unchange 9 = .ok (.ireturn, 1) := by decide +kernel
theorem dX7_unchange_10 : decode cX7_unchange 10 = .ok (.aload_n 0, 1) := by decide +kernel
theorem dX7_unchange_11 : decode cX7_unchange 11 = .ok (.getfield 20, 3) := by decide +kernel
theorem dX7_unchange_14 : decode cX7_unchange 14 = .ok (.aload_n 0, 1) := by decide +kernel
theorem dX7_unchange_15 : decode cX7_unchange 15 = .ok (.getfield 20, 3) := by decide +kernel
theorem dX7_unchange_18 : decode cX7_unchange 18 = .ok (.arraylength, 1) := by decide +kernel
theorem dX7_unchange_19 : decode cX7_unchange 19 = .ok (.iconst 1, 1) := by decide +kernel
theorem dX7_unchange_20 : decode cX7_unchange 20 = .ok (.isub, 1) := by decide +kernel
theorem dX7_unchange_21 : decode cX7_unchange 21 = .ok (.iaload, 1) := by decide +kernel
theorem dX7_unchange_22 : decode cX7_unchange 22 = .ok (.istore_n 1, 1) := by decide +kernel
theorem dX7_unchange_23 : decode cX7_unchange 23 = .ok (.aload_n 0, 1) := by decide +kernel
theorem dX7_unchange_24 : decode cX7_unchange 24 = .ok (.aload_n 0, 1) := by decide +kernel
theorem dX7_unchange_25 : decode cX7_unchange 25 = .ok (.getfield 20, 3) := by decide +kernel
theorem dX7_unchange_28 : decode cX7_unchange 28 = .ok (.invokestatic 86, 3) := by decide +kernel
theorem dX7_unchange_31 : decode cX7_unchange 31 = .ok (.putfield 20, 3) := by decide +kernel
theorem dX7_unchange_34 : decode cX7_unchange 34 = .ok (.aload_n 0, 1) := by decide +kernel
theorem dX7_unchange_35 : decode cX7_unchange 35 = .ok (.getfield 10, 3) := by decide +kernel
theorem dX7_unchange_38 : decode cX7_unchange 38 = .ok (.invokevirtual 90, 3) := by decide +kernel
theorem dX7_unchange_41 : decode cX7_unchange 41 = .ok (.iload_n 1, 1) := by decide +kernel
theorem dX7_unchange_42 : decode cX7_unchange 42 = .ok (.if_icmp .ne 7, 3) := by decide +kernel
theorem dX7_unchange_45 : decode cX7_unchange 45 = .ok (.iconst 1, 1) := by decide +kernel
theorem dX7_unchange_46 : decode cX7_unchange 46 = .ok (.goto 4, 3) := by decide +kernel
theorem dX7_unchange_49 : decode cX7_unchange 49 = .ok (.iconst 0, 1) := by decide +kernel
theorem dX7_unchange_50 : decode cX7_unchange 50 = .ok (.ireturn, 1) := by decide +kernel
set_option maxRecDepth 20000 in
theorem ggX7_at_X7_any : GoodIn wsX7_at wsX7_any := goodIn_r _ [8, 9, 10, 11, 12, 7, 13, 14, 15, 16, 17, 18, 19, 20, 21, 22, 158, 159, 160, 161, 162, 163, 164, 165] (by decide +kernel) (by decide +kernel)
set_option maxRecDepth 20000 in
theorem gX7_at_X7_any : GoodIn wsX7_at (wsV RX7 70 RX7 yX7_any wsX7_any) := goodIn_app (goodIn_of _ (by decide +kernel)) ggX7_at_X7_any
set_option maxRecDepth 20000 in
theorem ggX7_at_X7_draw : GoodIn wsX7_at wsX7_draw := goodIn_r _ [13, 14, 15, 16, 17, 18, 19, 20, 21, 22, 158, 159, 160, 161, 162, 163, 164, 165] (by decide +kernel) (by decide +kernel)
set_option maxRecDepth 20000 in
theorem gX7_at_X7_draw : GoodIn wsX7_at (wsV RX7 55 RX7 yX7_draw wsX7_draw) := goodIn_app (goodIn_of _ (by decide +kernel)) ggX7_at_X7_draw
set_option maxRecDepth 20000 in
theorem ggX7_at_X6_at : GoodIn wsX7_at wsX6_at := goodIn_ca (goodIn_r _ [27, 28, 29, 30, 31, 32, 33, 34, 26, 35, 36, 37, 38, 39, 40, 41, 42, 43, 44, 45, 46, 47, 48, 49, 50, 51, 52, 53, 54, 55, 56, 57, 58, 59, 60, 61, 62, 63, 64, 65, 66, 67, 68, 69, 70, 71, 72, 73, 74, 75, 76, 77, 78, 79, 80, 81, 82, 83, 84, 85, 86, 87, 88, 89, 90, 91, 92, 93, 94, 95, 96, 97, 98, 99, 100, 101, 102, 103, 104, 105, 106, 107, 108, 109, 110, 111, 112, 113, 114, 115, 116, 117, 118, 119, 120, 121, 122, 123, 124, 125, 126, 127, 128, 129, 130, 131, 132, 133, 134, 135, 136, 137, 138, 139, 140, 141, 142, 143, 144, 145, 146, 147, 148, 149, 150, 151, 152, 153, 154, 155, 156, 157, 166, 167, 168, 169, 170, 171, 172, 173, 174, 175, 176, 177, 178, 179, 180, 181] (by decide +kernel) (by decide +kernel)) (goodIn_sub (fun _ h => List.mem_cons_of_mem _ (List.mem_append_right _ h)) (by decide +kernel))
set_option maxRecDepth 20000 in
theorem gX7_at_X6_at : GoodIn wsX7_at (wsV RX7 93 RX6 yX6_at wsX6_at) := goodIn_app (goodIn_of _ (by decide +kernel)) ggX7_at_X6_at
theorem dX7_at_0 : decode cX7_at 0 = .ok (.aload_n 0, 1) := by decide +kernel
theorem dX7_at_1 : decode cX7_at 1 = .ok (.invokevirtual 70, 3) := by decide +kernel
theorem dX7_at_4 : decode cX7_at 4 = .ok (.istore_n 1, 1) := by decide +kernel
theorem dX7_at_5 : decode cX7_at 5 = .ok (.aload_n 0, 1) := by decide +kernel
theorem dX7_at_6 : decode cX7_at 6 = .ok (.iconst 2, 1) := by decide +kernel
theorem dX7_at_7 : decode cX7_at 7 = .ok (.invokevirtual 55, 3) := by decide +kernel
theorem dX7_at_10 : decode cX7_at 10 = .ok (.ifCond .ne 7, 3) := by decide +kernel
theorem dX7_at_13 : decode cX7_at 13 = .ok (.iconst 1, 1) := by decide +kernel
theorem dX7_at_14 : decode cX7_at 14 = .ok (.goto 4, 3) := by decide +kernel
theorem dX7_at_17 : decode cX7_at 17 = .ok (.iconst 0, 1) := by decide +kernel
theorem dX7_at_18 : decode cX7_at 18 = .ok (.istore_n 2, 1) := by decide +kernel
theorem dX7_at_19 : decode cX7_at 19 = .ok (.iload_n 2, 1) := by decide +kernel
theorem dX7_at_20 : decode cX7_at 20 = .ok (.ifCond .eq 10, 3) := by decide +kernel
theorem dX7_at_23 : decode cX7_at 23 = .ok (.aload_n 0, 1) := by decide +kernel
theorem dX7_at_24 : decode cX7_at 24 = .ok (.getfield 24, 3) := by decide +kernel
theorem dX7_at_27 : decode cX7_at 27 = .ok (.goto 7, 3) := by decide +kernel
theorem dX7_at_30 : decode cX7_at 30 = .ok (.aload_n 0, 1) := by decide +kernel
theorem dX7_at_31 : decode cX7_at 31 = .ok (.getfield 27, 3) := by decide +kernel
theorem dX7_at_34 : decode cX7_at 34 = .ok (.istore_n 3, 1) := by decide +kernel
theorem dX7_at_35 : decode cX7_at 35 = .ok (.iload_n 2, 1) := by decide +kernel
theorem dX7_at_36 : decode cX7_at 36 = .ok (.ifCond .eq 11, 3) := by decide +kernel
theorem dX7_at_39 : decode cX7_at 39 = .ok (.aload_n 0, 1) := by decide +kernel
theorem dX7_at_40 : decode cX7_at 40 = .ok (.iload_n 1, 1) := by decide +kernel
theorem dX7_at_41 : decode cX7_at 41 = .ok (.putfield 24, 3) := by decide +kernel
theorem dX7_at_44 : decode cX7_at 44 = .ok (.goto 8, 3) := by decide +kernel
theorem dX7_at_47 : decode cX7_at 47 = .ok (.aload_n 0, 1) := by decide +kernel
theorem dX7_at_48 : decode cX7_at 48 = .ok (.iload_n 1, 1) := by decide +kernel
theorem dX7_at_49 : decode cX7_at 49 = .ok (.putfield 27, 3) := by decide +kernel
theorem dX7_at_52 : decode cX7_at 52 = .ok (.aload_n 0, 1) := by decide +kernel
theorem dX7_at_53 : decode cX7_at 53 = .ok (.getfield 10, 3) := by decide +kernel
theorem dX7_at_56 : decode cX7_at 56 = .ok (.iload_n 2, 1) := by decide +kernel
theorem dX7_at_57 : decode cX7_at 57 = .ok (.ifCond .eq 7, 3) := by decide +kernel
theorem dX7_at_60 : decode cX7_at 60 = .ok (.iconst 1, 1) := by decide +kernel
theorem dX7_at_61 : decode cX7_at 61 = .ok (.goto 4, 3) := by decide +kernel
theorem dX7_at_64 : decode cX7_at 64 = .ok (.iconst 2, 1) := by decide +kernel
theorem dX7_at_65 : decode cX7_at 65 = .ok (.iload_n 1, 1) := by decide +kernel
theorem dX7_at_66 : decode cX7_at 66 = .ok (.invokevirtual 93, 3) := by decide +kernel
theorem dX7_at_69 : decode cX7_at 69 = .ok (.iload_n 3, 1) := by decide +kernel
theorem dX7_at_70 : decode cX7_at 70 = .ok (.if_icmp .ne 7, 3) := by decide +kernel
theorem dX7_at_73 : decode cX7_at 73 = .ok (.iconst 1, 1) := by decide +kernel
theorem dX7_at_74 : decode cX7_at 74 = .ok (.goto 4, 3) := by decide +kernel
theorem dX7_at_77 : decode cX7_at 77 = .ok (.iconst 0, 1) := by decide +kernel
theorem dX7_at_78 : decode cX7_at 78 = .ok (.ireturn, 1) := by decide +kernel
set_option maxRecDepth 20000 in
theorem ggX7_call_X7_draw : GoodIn wsX7_call wsX7_draw := goodIn_r _ [7, 8, 9, 10, 11, 12, 13, 14, 15, 16, 181, 182, 183, 184, 185, 186, 187, 188] (by decide +kernel) (by decide +kernel)
set_option maxRecDepth 20000 in
theorem gX7_call_X7_draw : GoodIn wsX7_call (wsV RX7 55 RX7 yX7_draw wsX7_draw) := goodIn_app (goodIn_of _ (by decide +kernel)) ggX7_call_X7_draw
set_option maxRecDepth 20000 in
theorem ggX7_call_X7_plus : GoodIn wsX7_call wsX7_plus := goodIn_r _ [19, 20, 21, 22, 23, 24] (by decide +kernel) (by decide +kernel)
set_option maxRecDepth 20000 in
theorem gX7_call_X7_plus : GoodIn wsX7_call (va_wsS RX7 74 yX7_plus wsX7_plus) := goodIn_app (goodIn_of _ (by decide +kernel)) ggX7_call_X7_plus
set_option maxRecDepth 20000 in
theorem ggX7_call_X7_rows_ : GoodIn wsX7_call wsX7_rows_ := goodIn_r _ [28, 1, 29, 30, 31, 6, 32, 33, 20, 34, 35, 36, 37, 38, 39, 21, 22, 23, 24, 40, 41, 42, 43, 44, 45, 46, 47, 48, 49, 181, 182, 183, 184, 185, 186, 187, 188] (by decide +kernel) (by decide +kernel)
set_option maxRecDepth 20000 in
theorem gX7_call_X7_rows_ : GoodIn wsX7_call (wsV RX7 96 RX7 yX7_rows_ wsX7_rows_) := goodIn_app (goodIn_of _ (by decide +kernel)) ggX7_call_X7_rows_
set_option maxRecDepth 20000 in
theorem ggX7_call_X6_call : GoodIn wsX7_call wsX6_call := goodIn_ca (goodIn_ca (goodIn_r _ [54, 55, 56, 57, 58, 59, 60, 53, 61, 62, 63, 64, 65, 66, 67, 68, 69, 70, 71, 72, 73, 74, 75, 76, 77, 78, 79, 80, 81, 82, 83, 84, 85, 86, 87, 88, 89, 90, 91, 92, 93, 94, 95, 96, 97, 98, 99, 100, 101, 102, 103, 104, 105, 106, 107, 108, 109, 110, 111, 112, 113, 114, 115, 116, 117, 118, 119, 120, 121, 122, 123, 124, 125, 126, 127, 128, 129, 130, 131, 132, 133, 134, 135, 136, 137, 138, 139, 140, 141, 142, 143, 144, 145, 146, 147, 148, 149, 150, 151, 152, 153, 154, 155, 156, 157, 158, 159, 160, 161, 162, 163, 164, 165, 166, 167, 168, 169, 170, 171, 172, 173, 174, 175, 176, 177, 189, 190, 191, 192, 193, 194, 195, 196, 197, 198, 199, 200, 201, 202, 203, 204] (by decide +kernel) (by decide +kernel)) (goodIn_sub (fun _ h => List.mem_cons_of_mem _ (List.mem_append_left _ (List.mem_append_right _ h))) (by decide +kernel))) (goodIn_sub (fun _ h => List.mem_cons_of_mem _ (List.mem_append_right _ h)) (by decide +kernel))
set_option maxRecDepth 20000 in
theorem gX7_call_X6_call : GoodIn wsX7_call (wsV RX7 100 RX6 yX6_call wsX6_call) := goodIn_app (goodIn_of _ (by decide +kernel)) ggX7_call_X6_call
set_option maxRecDepth 20000 in
theorem ggX7_call_X7_rounds : GoodIn wsX7_call wsX7_rounds := goodIn_r _ [32, 33, 20, 181, 182, 183, 184, 185, 186, 187, 188] (by decide +kernel) (by decide +kernel)
set_option maxRecDepth 20000 in
theorem gX7_call_X7_rounds : GoodIn wsX7_call (wsV RX7 62 RX7 yX7_rounds wsX7_rounds) := goodIn_app (goodIn_of _ (by decide +kernel)) ggX7_call_X7_rounds
set_option maxRecDepth 20000 in
theorem ggX7_call_X7_tell : GoodIn wsX7_call wsX7_tell := goodIn_r _ [180] (by decide +kernel) (by decide +kernel)
