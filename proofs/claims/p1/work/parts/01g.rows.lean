theorem dX6_digest_18 : decode cX6_digest 18 = .ok (.invokevirtual 232, 3) := by decide +kernel
theorem dX6_digest_21 : decode cX6_digest 21 = .ok (.i2l, 1) := by decide +kernel
theorem dX6_digest_22 : decode cX6_digest 22 = .ok (.ladd, 1) := by decide +kernel
theorem dX6_digest_23 : decode cX6_digest 23 = .ok (.lstore_n 1, 1) := by decide +kernel
theorem dX6_digest_24 : decode cX6_digest 24 = .ok (.iinc 3 1, 3) := by decide +kernel
theorem dX6_digest_27 : decode cX6_digest 27 = .ok (.goto (-21), 3) := by decide +kernel
theorem dX6_digest_30 : decode cX6_digest 30 = .ok (.iconst 0, 1) := by decide +kernel
theorem dX6_digest_31 : decode cX6_digest 31 = .ok (.istore_n 3, 1) := by decide +kernel
theorem dX6_digest_32 : decode cX6_digest 32 = .ok (.iload_n 3, 1) := by decide +kernel
theorem dX6_digest_33 : decode cX6_digest 33 = .ok (.aload_n 0, 1) := by decide +kernel
theorem dX6_digest_34 : decode cX6_digest 34 = .ok (.getfield 10, 3) := by decide +kernel
theorem dX6_digest_37 : decode cX6_digest 37 = .ok (.invokevirtual 59, 3) := by decide +kernel
theorem dX6_digest_40 : decode cX6_digest 40 = .ok (.if_icmp .ge 25, 3) := by decide +kernel
theorem dX6_digest_43 : decode cX6_digest 43 = .ok (.lload_n 1, 1) := by decide +kernel
theorem dX6_digest_44 : decode cX6_digest 44 = .ok (.ldc2_w 230, 3) := by decide +kernel
theorem dX6_digest_47 : decode cX6_digest 47 = .ok (.lmul, 1) := by decide +kernel
theorem dX6_digest_48 : decode cX6_digest 48 = .ok (.aload_n 0, 1) := by decide +kernel
theorem dX6_digest_49 : decode cX6_digest 49 = .ok (.getfield 10, 3) := by decide +kernel
theorem dX6_digest_52 : decode cX6_digest 52 = .ok (.iload_n 3, 1) := by decide +kernel
theorem dX6_digest_53 : decode cX6_digest 53 = .ok (.invokevirtual 76, 3) := by decide +kernel
theorem dX6_digest_56 : decode cX6_digest 56 = .ok (.i2l, 1) := by decide +kernel
theorem dX6_digest_57 : decode cX6_digest 57 = .ok (.ladd, 1) := by decide +kernel
theorem dX6_digest_58 : decode cX6_digest 58 = .ok (.lstore_n 1, 1) := by decide +kernel
theorem dX6_digest_59 : decode cX6_digest 59 = .ok (.iinc 3 1, 3) := by decide +kernel
theorem dX6_digest_62 : decode cX6_digest 62 = .ok (.goto (-30), 3) := by decide +kernel
theorem dX6_digest_65 : decode cX6_digest 65 = .ok (.iconst 0, 1) := by decide +kernel
theorem dX6_digest_66 : decode cX6_digest 66 = .ok (.istore_n 3, 1) := by decide +kernel
theorem dX6_digest_67 : decode cX6_digest 67 = .ok (.iload_n 3, 1) := by decide +kernel
theorem dX6_digest_68 : decode cX6_digest 68 = .ok (.aload_n 0, 1) := by decide +kernel
theorem dX6_digest_69 : decode cX6_digest 69 = .ok (.getfield 21, 3) := by decide +kernel
theorem dX6_digest_72 : decode cX6_digest 72 = .ok (.invokevirtual 100, 3) := by decide +kernel
theorem dX6_digest_75 : decode cX6_digest 75 = .ok (.if_icmp .ge 25, 3) := by decide +kernel
theorem dX6_digest_78 : decode cX6_digest 78 = .ok (.lload_n 1, 1) := by decide +kernel
theorem dX6_digest_79 : decode cX6_digest 79 = .ok (.ldc2_w 230, 3) := by decide +kernel
theorem dX6_digest_82 : decode cX6_digest 82 = .ok (.lmul, 1) := by decide +kernel
theorem dX6_digest_83 : decode cX6_digest 83 = .ok (.aload_n 0, 1) := by decide +kernel
theorem dX6_digest_84 : decode cX6_digest 84 = .ok (.getfield 21, 3) := by decide +kernel
theorem dX6_digest_87 : decode cX6_digest 87 = .ok (.iload_n 3, 1) := by decide +kernel
theorem dX6_digest_88 : decode cX6_digest 88 = .ok (.invokevirtual 148, 3) := by decide +kernel
theorem dX6_digest_91 : decode cX6_digest 91 = .ok (.i2l, 1) := by decide +kernel
theorem dX6_digest_92 : decode cX6_digest 92 = .ok (.ladd, 1) := by decide +kernel
theorem dX6_digest_93 : decode cX6_digest 93 = .ok (.lstore_n 1, 1) := by decide +kernel
theorem dX6_digest_94 : decode cX6_digest 94 = .ok (.iinc 3 1, 3) := by decide +kernel
theorem dX6_digest_97 : decode cX6_digest 97 = .ok (.goto (-30), 3) := by decide +kernel
theorem dX6_digest_100 : decode cX6_digest 100 = .ok (.iconst 0, 1) := by decide +kernel
theorem dX6_digest_101 : decode cX6_digest 101 = .ok (.istore_n 3, 1) := by decide +kernel
theorem dX6_digest_102 : decode cX6_digest 102 = .ok (.iload_n 3, 1) := by decide +kernel
theorem dX6_digest_103 : decode cX6_digest 103 = .ok (.bipush 7, 2) := by decide +kernel
theorem dX6_digest_105 : decode cX6_digest 105 = .ok (.if_icmp .gt 22, 3) := by decide +kernel
theorem dX6_digest_108 : decode cX6_digest 108 = .ok (.lload_n 1, 1) := by decide +kernel
theorem dX6_digest_109 : decode cX6_digest 109 = .ok (.ldc2_w 230, 3) := by decide +kernel
theorem dX6_digest_112 : decode cX6_digest 112 = .ok (.lmul, 1) := by decide +kernel
theorem dX6_digest_113 : decode cX6_digest 113 = .ok (.aload_n 0, 1) := by decide +kernel
theorem dX6_digest_114 : decode cX6_digest 114 = .ok (.iload_n 3, 1) := by decide +kernel
theorem dX6_digest_115 : decode cX6_digest 115 = .ok (.invokevirtual 235, 3) := by decide +kernel
theorem dX6_digest_118 : decode cX6_digest 118 = .ok (.i2l, 1) := by decide +kernel
theorem dX6_digest_119 : decode cX6_digest 119 = .ok (.ladd, 1) := by decide +kernel
theorem dX6_digest_120 : decode cX6_digest 120 = .ok (.lstore_n 1, 1) := by decide +kernel
theorem dX6_digest_121 : decode cX6_digest 121 = .ok (.iinc 3 1, 3) := by decide +kernel
theorem dX6_digest_124 : decode cX6_digest 124 = .ok (.goto (-22), 3) := by decide +kernel
theorem dX6_digest_127 : decode cX6_digest 127 = .ok (.iconst 0, 1) := by decide +kernel
theorem dX6_digest_128 : decode cX6_digest 128 = .ok (.istore_n 3, 1) := by decide +kernel
theorem dX6_digest_129 : decode cX6_digest 129 = .ok (.iload_n 3, 1) := by decide +kernel
theorem dX6_digest_130 : decode cX6_digest 130 = .ok (.aload_n 0, 1) := by decide +kernel
theorem dX6_digest_131 : decode cX6_digest 131 = .ok (.getfield 21, 3) := by decide +kernel
theorem dX6_digest_134 : decode cX6_digest 134 = .ok (.invokevirtual 151, 3) := by decide +kernel
theorem dX6_digest_137 : decode cX6_digest 137 = .ok (.if_icmp .ge 29, 3) := by decide +kernel
theorem dX6_digest_140 : decode cX6_digest 140 = .ok (.lload_n 1, 1) := by decide +kernel
theorem dX6_digest_141 : decode cX6_digest 141 = .ok (.ldc2_w 230, 3) := by decide +kernel
theorem dX6_digest_144 : decode cX6_digest 144 = .ok (.lmul, 1) := by decide +kernel
theorem dX6_digest_145 : decode cX6_digest 145 = .ok (.aload_n 0, 1) := by decide +kernel
theorem dX6_digest_146 : decode cX6_digest 146 = .ok (.aload_n 0, 1) := by decide +kernel
theorem dX6_digest_147 : decode cX6_digest 147 = .ok (.getfield 21, 3) := by decide +kernel
theorem dX6_digest_150 : decode cX6_digest 150 = .ok (.iload_n 3, 1) := by decide +kernel
theorem dX6_digest_151 : decode cX6_digest 151 = .ok (.invokevirtual 178, 3) := by decide +kernel
theorem dX6_digest_154 : decode cX6_digest 154 = .ok (.invokevirtual 120, 3) := by decide +kernel
theorem dX6_digest_157 : decode cX6_digest 157 = .ok (.i2l, 1) := by decide +kernel
theorem dX6_digest_158 : decode cX6_digest 158 = .ok (.ladd, 1) := by decide +kernel
theorem dX6_digest_159 : decode cX6_digest 159 = .ok (.lstore_n 1, 1) := by decide +kernel
theorem dX6_digest_160 : decode cX6_digest 160 = .ok (.iinc 3 1, 3) := by decide +kernel
theorem dX6_digest_163 : decode cX6_digest 163 = .ok (.goto (-34), 3) := by decide +kernel
theorem dX6_digest_166 : decode cX6_digest 166 = .ok (.iconst 1, 1) := by decide +kernel
theorem dX6_digest_167 : decode cX6_digest 167 = .ok (.istore_n 3, 1) := by decide +kernel
theorem dX6_digest_168 : decode cX6_digest 168 = .ok (.iload_n 3, 1) := by decide +kernel
theorem dX6_digest_169 : decode cX6_digest 169 = .ok (.aload_n 0, 1) := by decide +kernel
theorem dX6_digest_170 : decode cX6_digest 170 = .ok (.getfield 10, 3) := by decide +kernel
theorem dX6_digest_173 : decode cX6_digest 173 = .ok (.invokevirtual 93, 3) := by decide +kernel
theorem dX6_digest_176 : decode cX6_digest 176 = .ok (.if_icmp .gt 25, 3) := by decide +kernel
theorem dX6_digest_179 : decode cX6_digest 179 = .ok (.lload_n 1, 1) := by decide +kernel
theorem dX6_digest_180 : decode cX6_digest 180 = .ok (.ldc2_w 230, 3) := by decide +kernel
theorem dX6_digest_183 : decode cX6_digest 183 = .ok (.lmul, 1) := by decide +kernel
theorem dX6_digest_184 : decode cX6_digest 184 = .ok (.aload_n 0, 1) := by decide +kernel
theorem dX6_digest_185 : decode cX6_digest 185 = .ok (.getfield 21, 3) := by decide +kernel
theorem dX6_digest_188 : decode cX6_digest 188 = .ok (.iload_n 3, 1) := by decide +kernel
theorem dX6_digest_189 : decode cX6_digest 189 = .ok (.invokevirtual 190, 3) := by decide +kernel
theorem dX6_digest_192 : decode cX6_digest 192 = .ok (.i2l, 1) := by decide +kernel
theorem dX6_digest_193 : decode cX6_digest 193 = .ok (.ladd, 1) := by decide +kernel
theorem dX6_digest_194 : decode cX6_digest 194 = .ok (.lstore_n 1, 1) := by decide +kernel
theorem dX6_digest_195 : decode cX6_digest 195 = .ok (.iinc 3 1, 3) := by decide +kernel
theorem dX6_digest_198 : decode cX6_digest 198 = .ok (.goto (-30), 3) := by decide +kernel
theorem dX6_digest_201 : decode cX6_digest 201 = .ok (.iconst 0, 1) := by decide +kernel
theorem dX6_digest_202 : decode cX6_digest 202 = .ok (.istore_n 3, 1) := by decide +kernel
theorem dX6_digest_203 : decode cX6_digest 203 = .ok (.iload_n 3, 1) := by decide +kernel
theorem dX6_digest_204 : decode cX6_digest 204 = .ok (.iconst 2, 1) := by decide +kernel
theorem dX6_digest_205 : decode cX6_digest 205 = .ok (.if_icmp .gt 25, 3) := by decide +kernel
theorem dX6_digest_208 : decode cX6_digest 208 = .ok (.lload_n 1, 1) := by decide +kernel
theorem dX6_digest_209 : decode cX6_digest 209 = .ok (.ldc2_w 230, 3) := by decide +kernel
theorem dX6_digest_212 : decode cX6_digest 212 = .ok (.lmul, 1) := by decide +kernel
theorem dX6_digest_213 : decode cX6_digest 213 = .ok (.aload_n 0, 1) := by decide +kernel
theorem dX6_digest_214 : decode cX6_digest 214 = .ok (.getfield 21, 3) := by decide +kernel
theorem dX6_digest_217 : decode cX6_digest 217 = .ok (.iload_n 3, 1) := by decide +kernel
theorem dX6_digest_218 : decode cX6_digest 218 = .ok (.invokevirtual 225, 3) := by decide +kernel
theorem dX6_digest_221 : decode cX6_digest 221 = .ok (.i2l, 1) := by decide +kernel
theorem dX6_digest_222 : decode cX6_digest 222 = .ok (.ladd, 1) := by decide +kernel
theorem dX6_digest_223 : decode cX6_digest 223 = .ok (.lstore_n 1, 1) := by decide +kernel
theorem dX6_digest_224 : decode cX6_digest 224 = .ok (.iinc 3 1, 3) := by decide +kernel
theorem dX6_digest_227 : decode cX6_digest 227 = .ok (.goto (-24), 3) := by decide +kernel
theorem dX6_digest_230 : decode cX6_digest 230 = .ok (.aload_n 0, 1) := by decide +kernel
theorem dX6_digest_231 : decode cX6_digest 231 = .ok (.getfield 28, 3) := by decide +kernel
theorem dX6_digest_234 : decode cX6_digest 234 = .ok (.iconst 3, 1) := by decide +kernel
theorem dX6_digest_235 : decode cX6_digest 235 = .ok (.invokevirtual 205, 3) := by decide +kernel
theorem dX6_digest_238 : decode cX6_digest 238 = .ok (.lload_n 1, 1) := by decide +kernel
theorem dX6_digest_239 : decode cX6_digest 239 = .ok (.ldc2_w 230, 3) := by decide +kernel
theorem dX6_digest_242 : decode cX6_digest 242 = .ok (.lmul, 1) := by decide +kernel
theorem dX6_digest_243 : decode cX6_digest 243 = .ok (.aload_n 0, 1) := by decide +kernel
theorem dX6_digest_244 : decode cX6_digest 244 = .ok (.getfield 28, 3) := by decide +kernel
theorem dX6_digest_247 : decode cX6_digest 247 = .ok (.invokevirtual 208, 3) := by decide +kernel
theorem dX6_digest_250 : decode cX6_digest 250 = .ok (.i2l, 1) := by decide +kernel
theorem dX6_digest_251 : decode cX6_digest 251 = .ok (.ladd, 1) := by decide +kernel
theorem dX6_digest_252 : decode cX6_digest 252 = .ok (.lstore_n 1, 1) := by decide +kernel
theorem dX6_digest_253 : decode cX6_digest 253 = .ok (.lload_n 1, 1) := by decide +kernel
theorem dX6_digest_254 : decode cX6_digest 254 = .ok (.ldc2_w 230, 3) := by decide +kernel
theorem dX6_digest_257 : decode cX6_digest 257 = .ok (.lmul, 1) := by decide +kernel
theorem dX6_digest_258 : decode cX6_digest 258 = .ok (.aload_n 0, 1) := by decide +kernel
theorem dX6_digest_259 : decode cX6_digest 259 = .ok (.getfield 28, 3) := by decide +kernel
theorem dX6_digest_262 : decode cX6_digest 262 = .ok (.invokevirtual 211, 3) := by decide +kernel
theorem dX6_digest_265 : decode cX6_digest 265 = .ok (.i2l, 1) := by decide +kernel
theorem dX6_digest_266 : decode cX6_digest 266 = .ok (.ladd, 1) := by decide +kernel
theorem dX6_digest_267 : decode cX6_digest 267 = .ok (.lreturn, 1) := by decide +kernel
set_option maxRecDepth 20000 in
theorem ggX6_refuseNoChange_X2_bells : GoodIn wsX6_refuseNoChange wsX2_bells := goodIn_r _ [8, 9, 20, 21, 22, 23] (by decide +kernel) (by decide +kernel)
set_option maxRecDepth 20000 in
theorem gX6_refuseNoChange_X2_bells : GoodIn wsX6_refuseNoChange (wsV RX6 93 RX2 yX2_bells wsX2_bells) := goodIn_app (goodIn_of _ (by decide +kernel)) ggX6_refuseNoChange_X2_bells
set_option maxRecDepth 20000 in
theorem ggX6_refuseNoChange_X3_canBeRung : GoodIn wsX6_refuseNoChange wsX3_canBeRung := goodIn_r _ [13, 14, 15, 12, 16] (by decide +kernel) (by decide +kernel)
set_option maxRecDepth 20000 in
theorem gX6_refuseNoChange_X3_canBeRung : GoodIn wsX6_refuseNoChange (va_wsS RX6 96 yX3_canBeRung wsX3_canBeRung) := goodIn_app (goodIn_of _ (by decide +kernel)) ggX6_refuseNoChange_X3_canBeRung
theorem dX6_refuseNoChange_0 : decode cX6_refuseNoChange 0 = .ok (.iload_n 1, 1) := by decide +kernel
theorem dX6_refuseNoChange_1 : decode cX6_refuseNoChange 1 = .ok (.aload_n 0, 1) := by decide +kernel
theorem dX6_refuseNoChange_2 : decode cX6_refuseNoChange 2 = .ok (.getfield 10, 3) := by decide +kernel
theorem dX6_refuseNoChange_5 : decode cX6_refuseNoChange 5 = .ok (.invokevirtual 93, 3) := by decide +kernel
theorem dX6_refuseNoChange_8 : decode cX6_refuseNoChange 8 = .ok (.invokestatic 96, 3) := by decide +kernel
theorem dX6_refuseNoChange_11 : decode cX6_refuseNoChange 11 = .ok (.ifCond .ne 13, 3) := by decide +kernel
theorem dX6_refuseNoChange_14 : decode cX6_refuseNoChange 14 = .ok (.new 32, 3) := by decide +kernel
theorem dX6_refuseNoChange_17 : decode cX6_refuseNoChange 17 = .ok (.dup, 1) := by decide +kernel
theorem dX6_refuseNoChange_18 : decode cX6_refuseNoChange 18 = .ok (.ldc 237, 2) := by decide +kernel
theorem dX6_refuseNoChange_20 : decode cX6_refuseNoChange 20 = .ok (.invokespecial 36, 3) := by decide +kernel
theorem dX6_refuseNoChange_23 : decode cX6_refuseNoChange 23 = .ok (.athrow, 1) := by decide +kernel
theorem dX6_refuseNoChange_24 : decode cX6_refuseNoChange 24 = .ok (.return_, 1) := by decide +kernel
theorem dX6_refuseNoCall_0 : decode cX6_refuseNoCall 0 = .ok (.iload_n 1, 1) := by decide +kernel
theorem dX6_refuseNoCall_1 : decode cX6_refuseNoCall 1 = .ok (.ifCond .lt 8, 3) := by decide +kernel
theorem dX6_refuseNoCall_4 : decode cX6_refuseNoCall 4 = .ok (.iload_n 1, 1) := by decide +kernel
theorem dX6_refuseNoCall_5 : decode cX6_refuseNoCall 5 = .ok (.iconst 2, 1) := by decide +kernel
theorem dX6_refuseNoCall_6 : decode cX6_refuseNoCall 6 = .ok (.if_icmp .le 13, 3) := by decide +kernel
theorem dX6_refuseNoCall_9 : decode cX6_refuseNoCall 9 = .ok (.new 32, 3) := by decide +kernel
theorem dX6_refuseNoCall_12 : decode cX6_refuseNoCall 12 = .ok (.dup, 1) := by decide +kernel
theorem dX6_refuseNoCall_13 : decode cX6_refuseNoCall 13 = .ok (.ldc 239, 2) := by decide +kernel
theorem dX6_refuseNoCall_15 : decode cX6_refuseNoCall 15 = .ok (.invokespecial 36, 3) := by decide +kernel
theorem dX6_refuseNoCall_18 : decode cX6_refuseNoCall 18 = .ok (.athrow, 1) := by decide +kernel
theorem dX6_refuseNoCall_19 : decode cX6_refuseNoCall 19 = .ok (.return_, 1) := by decide +kernel
set_option maxRecDepth 20000 in
theorem ggX6_refuseNoCallPlace_X5_callCount : GoodIn wsX6_refuseNoCallPlace wsX5_callCount := goodIn_r _ [8, 9, 10, 11, 12, 13, 14, 15, 19, 20, 21, 22, 23, 24, 25, 26] (by decide +kernel) (by decide +kernel)
set_option maxRecDepth 20000 in
theorem gX6_refuseNoCallPlace_X5_callCount : GoodIn wsX6_refuseNoCallPlace (wsV RX6 100 RX5 yX5_callCount wsX5_callCount) := goodIn_app (goodIn_of _ (by decide +kernel)) ggX6_refuseNoCallPlace_X5_callCount
theorem dX6_refuseNoCallPlace_0 : decode cX6_refuseNoCallPlace 0 = .ok (.iload_n 1, 1) := by decide +kernel
theorem dX6_refuseNoCallPlace_1 : decode cX6_refuseNoCallPlace 1 = .ok (.ifCond .lt 14, 3) := by decide +kernel
theorem dX6_refuseNoCallPlace_4 : decode cX6_refuseNoCallPlace 4 = .ok (.iload_n 1, 1) := by decide +kernel
theorem dX6_refuseNoCallPlace_5 : decode cX6_refuseNoCallPlace 5 = .ok (.aload_n 0, 1) := by decide +kernel
theorem dX6_refuseNoCallPlace_6 : decode cX6_refuseNoCallPlace 6 = .ok (.getfield 21, 3) := by decide +kernel
theorem dX6_refuseNoCallPlace_9 : decode cX6_refuseNoCallPlace 9 = .ok (.invokevirtual 100, 3) := by decide +kernel
theorem dX6_refuseNoCallPlace_12 : decode cX6_refuseNoCallPlace 12 = .ok (.if_icmp .lt 13, 3) := by decide +kernel
theorem dX6_refuseNoCallPlace_15 : decode cX6_refuseNoCallPlace 15 = .ok (.new 108, 3) := by decide +kernel
theorem dX6_refuseNoCallPlace_18 : decode cX6_refuseNoCallPlace 18 = .ok (.dup, 1) := by decide +kernel
theorem dX6_refuseNoCallPlace_19 : decode cX6_refuseNoCallPlace 19 = .ok (.ldc 241, 2) := by decide +kernel
theorem dX6_refuseNoCallPlace_21 : decode cX6_refuseNoCallPlace 21 = .ok (.invokespecial 112, 3) := by decide +kernel
theorem dX6_refuseNoCallPlace_24 : decode cX6_refuseNoCallPlace 24 = .ok (.athrow, 1) := by decide +kernel
theorem dX6_refuseNoCallPlace_25 : decode cX6_refuseNoCallPlace 25 = .ok (.return_, 1) := by decide +kernel
set_option maxRecDepth 20000 in
theorem ggX6_refuseNoRowNumber_X5_rowCount : GoodIn wsX6_refuseNoRowNumber wsX5_rowCount := goodIn_r _ [8, 9, 10, 11, 12, 13, 14, 15, 19, 20, 21, 22, 23, 24, 25, 26] (by decide +kernel) (by decide +kernel)
set_option maxRecDepth 20000 in
theorem gX6_refuseNoRowNumber_X5_rowCount : GoodIn wsX6_refuseNoRowNumber (wsV RX6 151 RX5 yX5_rowCount wsX5_rowCount) := goodIn_app (goodIn_of _ (by decide +kernel)) ggX6_refuseNoRowNumber_X5_rowCount
theorem dX6_refuseNoRowNumber_0 : decode cX6_refuseNoRowNumber 0 = .ok (.iload_n 1, 1) := by decide +kernel
theorem dX6_refuseNoRowNumber_1 : decode cX6_refuseNoRowNumber 1 = .ok (.ifCond .lt 14, 3) := by decide +kernel
theorem dX6_refuseNoRowNumber_4 : decode cX6_refuseNoRowNumber 4 = .ok (.iload_n 1, 1) := by decide +kernel
theorem dX6_refuseNoRowNumber_5 : decode cX6_refuseNoRowNumber 5 = .ok (.aload_n 0, 1) := by decide +kernel
theorem dX6_refuseNoRowNumber_6 : decode cX6_refuseNoRowNumber 6 = .ok (.getfield 21, 3) := by decide +kernel
theorem dX6_refuseNoRowNumber_9 : decode cX6_refuseNoRowNumber 9 = .ok (.invokevirtual 151, 3) := by decide +kernel
theorem dX6_refuseNoRowNumber_12 : decode cX6_refuseNoRowNumber 12 = .ok (.if_icmp .lt 13, 3) := by decide +kernel
theorem dX6_refuseNoRowNumber_15 : decode cX6_refuseNoRowNumber 15 = .ok (.new 108, 3) := by decide +kernel
theorem dX6_refuseNoRowNumber_18 : decode cX6_refuseNoRowNumber 18 = .ok (.dup, 1) := by decide +kernel
theorem dX6_refuseNoRowNumber_19 : decode cX6_refuseNoRowNumber 19 = .ok (.ldc 243, 2) := by decide +kernel
theorem dX6_refuseNoRowNumber_21 : decode cX6_refuseNoRowNumber 21 = .ok (.invokespecial 112, 3) := by decide +kernel
theorem dX6_refuseNoRowNumber_24 : decode cX6_refuseNoRowNumber 24 = .ok (.athrow, 1) := by decide +kernel
theorem dX6_refuseNoRowNumber_25 : decode cX6_refuseNoRowNumber 25 = .ok (.return_, 1) := by decide +kernel
set_option maxRecDepth 20000 in
theorem ggX6_refuseNoBell_X2_bells : GoodIn wsX6_refuseNoBell wsX2_bells := goodIn_r _ [8, 9, 13, 14, 15, 16] (by decide +kernel) (by decide +kernel)
set_option maxRecDepth 20000 in
theorem gX6_refuseNoBell_X2_bells : GoodIn wsX6_refuseNoBell (wsV RX6 93 RX2 yX2_bells wsX2_bells) := goodIn_app (goodIn_of _ (by decide +kernel)) ggX6_refuseNoBell_X2_bells
theorem dX6_refuseNoBell_0 : decode cX6_refuseNoBell 0 = .ok (.iload_n 1, 1) := by decide +kernel
theorem dX6_refuseNoBell_1 : decode cX6_refuseNoBell 1 = .ok (.iconst 1, 1) := by decide +kernel
theorem dX6_refuseNoBell_2 : decode cX6_refuseNoBell 2 = .ok (.if_icmp .lt 14, 3) := by decide +kernel
theorem dX6_refuseNoBell_5 : decode cX6_refuseNoBell 5 = .ok (.iload_n 1, 1) := by decide +kernel
theorem dX6_refuseNoBell_6 : decode cX6_refuseNoBell 6 = .ok (.aload_n 0, 1) := by decide +kernel
theorem dX6_refuseNoBell_7 : decode cX6_refuseNoBell 7 = .ok (.getfield 10, 3) := by decide +kernel
theorem dX6_refuseNoBell_10 : decode cX6_refuseNoBell 10 = .ok (.invokevirtual 93, 3) := by decide +kernel
theorem dX6_refuseNoBell_13 : decode cX6_refuseNoBell 13 = .ok (.if_icmp .le 13, 3) := by decide +kernel
theorem dX6_refuseNoBell_16 : decode cX6_refuseNoBell 16 = .ok (.new 108, 3) := by decide +kernel
theorem dX6_refuseNoBell_19 : decode cX6_refuseNoBell 19 = .ok (.dup, 1) := by decide +kernel
theorem dX6_refuseNoBell_20 : decode cX6_refuseNoBell 20 = .ok (.ldc 245, 2) := by decide +kernel
theorem dX6_refuseNoBell_22 : decode cX6_refuseNoBell 22 = .ok (.invokespecial 112, 3) := by decide +kernel
theorem dX6_refuseNoBell_25 : decode cX6_refuseNoBell 25 = .ok (.athrow, 1) := by decide +kernel
theorem dX6_refuseNoBell_26 : decode cX6_refuseNoBell 26 = .ok (.return_, 1) := by decide +kernel
theorem dX6_refuseNoLeads_0 : decode cX6_refuseNoLeads 0 = .ok (.iload_n 1, 1) := by decide +kernel
theorem dX6_refuseNoLeads_1 : decode cX6_refuseNoLeads 1 = .ok (.ifCond .lt 8, 3) := by decide +kernel
theorem dX6_refuseNoLeads_4 : decode cX6_refuseNoLeads 4 = .ok (.iload_n 1, 1) := by decide +kernel
theorem dX6_refuseNoLeads_5 : decode cX6_refuseNoLeads 5 = .ok (.iconst 5, 1) := by decide +kernel
theorem dX6_refuseNoLeads_6 : decode cX6_refuseNoLeads 6 = .ok (.if_icmp .le 13, 3) := by decide +kernel
theorem dX6_refuseNoLeads_9 : decode cX6_refuseNoLeads 9 = .ok (.new 32, 3) := by decide +kernel
theorem dX6_refuseNoLeads_12 : decode cX6_refuseNoLeads 12 = .ok (.dup, 1) := by decide +kernel
theorem dX6_refuseNoLeads_13 : decode cX6_refuseNoLeads 13 = .ok (.ldc 247, 2) := by decide +kernel
theorem dX6_refuseNoLeads_15 : decode cX6_refuseNoLeads 15 = .ok (.invokespecial 36, 3) := by decide +kernel
theorem dX6_refuseNoLeads_18 : decode cX6_refuseNoLeads 18 = .ok (.athrow, 1) := by decide +kernel
theorem dX6_refuseNoLeads_19 : decode cX6_refuseNoLeads 19 = .ok (.return_, 1) := by decide +kernel
set_option maxRecDepth 20000 in
theorem ggX6_packedOrRefused_X2_bells : GoodIn wsX6_packedOrRefused wsX2_bells := goodIn_r _ [8, 9, 20, 21, 22, 23] (by decide +kernel) (by decide +kernel)
set_option maxRecDepth 20000 in
theorem gX6_packedOrRefused_X2_bells : GoodIn wsX6_packedOrRefused (wsV RX6 93 RX2 yX2_bells wsX2_bells) := goodIn_app (goodIn_of _ (by decide +kernel)) ggX6_packedOrRefused_X2_bells
set_option maxRecDepth 20000 in
theorem ggX6_packedOrRefused_X3_packed : GoodIn wsX6_packedOrRefused wsX3_packed := goodIn_r _ [13, 14, 15, 12, 16] (by decide +kernel) (by decide +kernel)
set_option maxRecDepth 20000 in
theorem gX6_packedOrRefused_X3_packed : GoodIn wsX6_packedOrRefused (va_wsS RX6 249 yX3_packed wsX3_packed) := goodIn_app (goodIn_of _ (by decide +kernel)) ggX6_packedOrRefused_X3_packed
theorem dX6_packedOrRefused_0 : decode cX6_packedOrRefused 0 = .ok (.iload_n 1, 1) := by decide +kernel
theorem dX6_packedOrRefused_1 : decode cX6_packedOrRefused 1 = .ok (.aload_n 0, 1) := by decide +kernel
theorem dX6_packedOrRefused_2 : decode cX6_packedOrRefused 2 = .ok (.getfield 10, 3) := by decide +kernel
theorem dX6_packedOrRefused_5 : decode cX6_packedOrRefused 5 = .ok (.invokevirtual 93, 3) := by decide +kernel
theorem dX6_packedOrRefused_8 : decode cX6_packedOrRefused 8 = .ok (.invokestatic 249, 3) := by decide +kernel
theorem dX6_packedOrRefused_11 : decode cX6_packedOrRefused 11 = .ok (.istore_n 2, 1) := by decide +kernel
theorem dX6_packedOrRefused_12 : decode cX6_packedOrRefused 12 = .ok (.iload_n 2, 1) := by decide +kernel
theorem dX6_packedOrRefused_13 : decode cX6_packedOrRefused 13 = .ok (.iconst (-1), 1) := by decide +kernel
theorem dX6_packedOrRefused_14 : decode cX6_packedOrRefused 14 = .ok (.if_icmp .ne 13, 3) := by decide +kernel
theorem dX6_packedOrRefused_17 : decode cX6_packedOrRefused 17 = .ok (.new 32, 3) := by decide +kernel
theorem dX6_packedOrRefused_20 : decode cX6_packedOrRefused 20 = .ok (.dup, 1) := by decide +kernel
theorem dX6_packedOrRefused_21 : decode cX6_packedOrRefused 21 = .ok (.ldc 252, 2) := by decide +kernel
theorem dX6_packedOrRefused_23 : decode cX6_packedOrRefused 23 = .ok (.invokespecial 36, 3) := by decide +kernel
theorem dX6_packedOrRefused_26 : decode cX6_packedOrRefused 26 = .ok (.athrow, 1) := by decide +kernel
theorem dX6_packedOrRefused_27 : decode cX6_packedOrRefused 27 = .ok (.iload_n 2, 1) := by decide +kernel
theorem dX6_packedOrRefused_28 : decode cX6_packedOrRefused 28 = .ok (.ireturn, 1) := by decide +kernel
set_option maxRecDepth 20000 in
theorem ggX6_numberOf_X2_bells : GoodIn wsX6_numberOf wsX2_bells := goodIn_r _ [6, 7, 18, 19, 20, 21] (by decide +kernel) (by decide +kernel)
set_option maxRecDepth 20000 in
theorem gX6_numberOf_X2_bells : GoodIn wsX6_numberOf (wsV RX6 93 RX2 yX2_bells wsX2_bells) := goodIn_app (goodIn_of _ (by decide +kernel)) ggX6_numberOf_X2_bells
set_option maxRecDepth 20000 in
theorem ggX6_numberOf_X3_number : GoodIn wsX6_numberOf wsX3_number := goodIn_r _ [11, 12, 13, 10, 14] (by decide +kernel) (by decide +kernel)
set_option maxRecDepth 20000 in
theorem gX6_numberOf_X3_number : GoodIn wsX6_numberOf (va_wsS RX6 52 yX3_number wsX3_number) := goodIn_app (goodIn_of _ (by decide +kernel)) ggX6_numberOf_X3_number
theorem dX6_numberOf_0 : decode cX6_numberOf 0 = .ok (.iload_n 1, 1) := by decide +kernel
theorem dX6_numberOf_1 : decode cX6_numberOf 1 = .ok (.aload_n 0, 1) := by decide +kernel
theorem dX6_numberOf_2 : decode cX6_numberOf 2 = .ok (.getfield 10, 3) := by decide +kernel
theorem dX6_numberOf_5 : decode cX6_numberOf 5 = .ok (.invokevirtual 93, 3) := by decide +kernel
theorem dX6_numberOf_8 : decode cX6_numberOf 8 = .ok (.invokestatic 52, 3) := by decide +kernel
theorem dX6_numberOf_11 : decode cX6_numberOf 11 = .ok (.ireturn, 1) := by decide +kernel
set_option maxRecDepth 20000 in
theorem ggX7_init_X7_reset : GoodIn wsX7_init wsX7_reset := goodIn_r _ [13, 14, 15, 16, 6, 17, 18, 19, 20, 21, 22, 23, 24, 25, 26] (by decide +kernel) (by decide +kernel)
set_option maxRecDepth 20000 in
theorem gX7_init_X7_reset : GoodIn wsX7_init (wsV RX7 22 RX7 yX7_reset wsX7_reset) := goodIn_app (goodIn_of _ (by decide +kernel)) ggX7_init_X7_reset
theorem dX7_init_0 : decode cX7_init 0 = .ok (.aload_n 0, 1) := by decide +kernel
theorem dX7_init_1 : decode cX7_init 1 = .ok (.invokespecial 1, 3) := by decide +kernel
theorem dX7_init_4 : decode cX7_init 4 = .ok (.aload_n 0, 1) := by decide +kernel
theorem dX7_init_5 : decode cX7_init 5 = .ok (.bipush 14, 2) := by decide +kernel
theorem dX7_init_7 : decode cX7_init 7 = .ok (.newarray .int, 2) := by decide +kernel
theorem dX7_init_9 : decode cX7_init 9 = .ok (.putfield 9, 3) := by decide +kernel
theorem dX7_init_12 : decode cX7_init 12 = .ok (.aload_n 0, 1) := by decide +kernel
theorem dX7_init_13 : decode cX7_init 13 = .ok (.iconst 3, 1) := by decide +kernel
theorem dX7_init_14 : decode cX7_init 14 = .ok (.newarray .int, 2) := by decide +kernel
theorem dX7_init_16 : decode cX7_init 16 = .ok (.putfield 13, 3) := by decide +kernel
theorem dX7_init_19 : decode cX7_init 19 = .ok (.aload_n 0, 1) := by decide +kernel
theorem dX7_init_20 : decode cX7_init 20 = .ok (.bipush 24, 2) := by decide +kernel
theorem dX7_init_22 : decode cX7_init 22 = .ok (.newarray .int, 2) := by decide +kernel
theorem dX7_init_24 : decode cX7_init 24 = .ok (.putfield 16, 3) := by decide +kernel
theorem dX7_init_27 : decode cX7_init 27 = .ok (.aload_n 0, 1) := by decide +kernel
theorem dX7_init_28 : decode cX7_init 28 = .ok (.iconst 0, 1) := by decide +kernel
theorem dX7_init_29 : decode cX7_init 29 = .ok (.newarray .int, 2) := by decide +kernel
theorem dX7_init_31 : decode cX7_init 31 = .ok (.putfield 19, 3) := by decide +kernel
theorem dX7_init_34 : decode cX7_init 34 = .ok (.aload_n 0, 1) := by decide +kernel
theorem dX7_init_35 : decode cX7_init 35 = .ok (.iconst 5, 1) := by decide +kernel
theorem dX7_init_36 : decode cX7_init 36 = .ok (.invokevirtual 22, 3) := by decide +kernel
theorem dX7_init_39 : decode cX7_init 39 = .ok (.return_, 1) := by decide +kernel
theorem dX7_reset_0 : decode cX7_reset 0 = .ok (.aload_n 0, 1) := by decide +kernel
theorem dX7_reset_1 : decode cX7_reset 1 = .ok (.iload_n 1, 1) := by decide +kernel
theorem dX7_reset_2 : decode cX7_reset 2 = .ok (.putfield 26, 3) := by decide +kernel
theorem dX7_reset_5 : decode cX7_reset 5 = .ok (.aload_n 0, 1) := by decide +kernel
theorem dX7_reset_6 : decode cX7_reset 6 = .ok (.iconst 0, 1) := by decide +kernel
theorem dX7_reset_7 : decode cX7_reset 7 = .ok (.putfield 30, 3) := by decide +kernel
theorem dX7_reset_10 : decode cX7_reset 10 = .ok (.aload_n 0, 1) := by decide +kernel
theorem dX7_reset_11 : decode cX7_reset 11 = .ok (.iconst 0, 1) := by decide +kernel
theorem dX7_reset_12 : decode cX7_reset 12 = .ok (.putfield 33, 3) := by decide +kernel
theorem dX7_reset_15 : decode cX7_reset 15 = .ok (.aload_n 0, 1) := by decide +kernel
theorem dX7_reset_16 : decode cX7_reset 16 = .ok (.getfield 13, 3) := by decide +kernel
theorem dX7_reset_19 : decode cX7_reset 19 = .ok (.iconst 1, 1) := by decide +kernel
theorem dX7_reset_20 : decode cX7_reset 20 = .ok (.iconst 1, 1) := by decide +kernel
theorem dX7_reset_21 : decode cX7_reset 21 = .ok (.aload_n 0, 1) := by decide +kernel
theorem dX7_reset_22 : decode cX7_reset 22 = .ok (.getfield 26, 3) := by decide +kernel
theorem dX7_reset_25 : decode cX7_reset 25 = .ok (.ishl, 1) := by decide +kernel
theorem dX7_reset_26 : decode cX7_reset 26 = .ok (.iconst 1, 1) := by decide +kernel
theorem dX7_reset_27 : decode cX7_reset 27 = .ok (.isub, 1) := by decide +kernel
theorem dX7_reset_28 : decode cX7_reset 28 = .ok (.iastore, 1) := by decide +kernel
theorem dX7_reset_29 : decode cX7_reset 29 = .ok (.aload_n 0, 1) := by decide +kernel
theorem dX7_reset_30 : decode cX7_reset 30 = .ok (.getfield 13, 3) := by decide +kernel
theorem dX7_reset_33 : decode cX7_reset 33 = .ok (.iconst 2, 1) := by decide +kernel
theorem dX7_reset_34 : decode cX7_reset 34 = .ok (.aload_n 0, 1) := by decide +kernel
theorem dX7_reset_35 : decode cX7_reset 35 = .ok (.getfield 13, 3) := by decide +kernel
theorem dX7_reset_38 : decode cX7_reset 38 = .ok (.iconst 1, 1) := by decide +kernel
theorem dX7_reset_39 : decode cX7_reset 39 = .ok (.iaload, 1) := by decide +kernel
theorem dX7_reset_40 : decode cX7_reset 40 = .ok (.iastore, 1) := by decide +kernel
theorem dX7_reset_41 : decode cX7_reset 41 = .ok (.return_, 1) := by decide +kernel
theorem dX7_thrown_0 : decode cX7_thrown 0 = .ok (.aload_n 0, 1) := by decide +kernel
theorem dX7_thrown_1 : decode cX7_thrown 1 = .ok (.getfield 36, 3) := by decide +kernel
theorem dX7_thrown_4 : decode cX7_thrown 4 = .ok (.ireturn, 1) := by decide +kernel
theorem dX7_no_0 : decode cX7_no 0 = .ok (.aload_n 0, 1) := by decide +kernel
theorem dX7_no_1 : decode cX7_no 1 = .ok (.iload_n 1, 1) := by decide +kernel
theorem dX7_no_2 : decode cX7_no 2 = .ok (.putfield 36, 3) := by decide +kernel
theorem dX7_no_5 : decode cX7_no 5 = .ok (.iconst 0, 1) := by decide +kernel
theorem dX7_no_6 : decode cX7_no 6 = .ok (.ireturn, 1) := by decide +kernel
theorem dX7_isIn_0 : decode cX7_isIn 0 = .ok (.iload_n 0, 1) := by decide +kernel
theorem dX7_isIn_1 : decode cX7_isIn 1 = .ok (.iload_n 1, 1) := by decide +kernel
theorem dX7_isIn_2 : decode cX7_isIn 2 = .ok (.if_icmp .lt 12, 3) := by decide +kernel
theorem dX7_isIn_5 : decode cX7_isIn 5 = .ok (.iload_n 0, 1) := by decide +kernel
theorem dX7_isIn_6 : decode cX7_isIn 6 = .ok (.iload_n 2, 1) := by decide +kernel
theorem dX7_isIn_7 : decode cX7_isIn 7 = .ok (.if_icmp .gt 7, 3) := by decide +kernel
theorem dX7_isIn_10 : decode cX7_isIn 10 = .ok (.iconst 1, 1) := by decide +kernel
theorem dX7_isIn_11 : decode cX7_isIn 11 = .ok (.goto 4, 3) := by decide +kernel
theorem dX7_isIn_14 : decode cX7_isIn 14 = .ok (.iconst 0, 1) := by decide +kernel
theorem dX7_isIn_15 : decode cX7_isIn 15 = .ok (.ireturn, 1) := by decide +kernel
theorem dX7_same_0 : decode cX7_same 0 = .ok (.aload_n 0, 1) := by decide +kernel
theorem dX7_same_1 : decode cX7_same 1 = .ok (.getfield 26, 3) := by decide +kernel
theorem dX7_same_4 : decode cX7_same 4 = .ok (.newarray .int, 2) := by decide +kernel
theorem dX7_same_6 : decode cX7_same 6 = .ok (.astore_n 1, 1) := by decide +kernel
theorem dX7_same_7 : decode cX7_same 7 = .ok (.iconst 0, 1) := by decide +kernel
theorem dX7_same_8 : decode cX7_same 8 = .ok (.istore_n 2, 1) := by decide +kernel
theorem dX7_same_9 : decode cX7_same 9 = .ok (.iload_n 2, 1) := by decide +kernel
theorem dX7_same_10 : decode cX7_same 10 = .ok (.aload_n 0, 1) := by decide +kernel
theorem dX7_same_11 : decode cX7_same 11 = .ok (.getfield 26, 3) := by decide +kernel
theorem dX7_same_14 : decode cX7_same 14 = .ok (.if_icmp .ge 13, 3) := by decide +kernel
theorem dX7_same_17 : decode cX7_same 17 = .ok (.aload_n 1, 1) := by decide +kernel
theorem dX7_same_18 : decode cX7_same 18 = .ok (.iload_n 2, 1) := by decide +kernel
theorem dX7_same_19 : decode cX7_same 19 = .ok (.iload_n 2, 1) := by decide +kernel
theorem dX7_same_20 : decode cX7_same 20 = .ok (.iastore, 1) := by decide +kernel
theorem dX7_same_21 : decode cX7_same 21 = .ok (.iinc 2 1, 3) := by decide +kernel
theorem dX7_same_24 : decode cX7_same 24 = .ok (.goto (-15), 3) := by decide +kernel
theorem dX7_same_27 : decode cX7_same 27 = .ok (.aload_n 1, 1) := by decide +kernel
theorem dX7_same_28 : decode cX7_same 28 = .ok (.areturn, 1) := by decide +kernel
theorem dX7_join_0 : decode cX7_join 0 = .ok (.aload_n 0, 1) := by decide +kernel
theorem dX7_join_1 : decode cX7_join 1 = .ok (.arraylength, 1) := by decide +kernel
theorem dX7_join_2 : decode cX7_join 2 = .ok (.newarray .int, 2) := by decide +kernel
theorem dX7_join_4 : decode cX7_join 4 = .ok (.astore_n 2, 1) := by decide +kernel
theorem dX7_join_5 : decode cX7_join 5 = .ok (.iconst 0, 1) := by decide +kernel
theorem dX7_join_6 : decode cX7_join 6 = .ok (.istore_n 3, 1) := by decide +kernel
theorem dX7_join_7 : decode cX7_join 7 = .ok (.iload_n 3, 1) := by decide +kernel
theorem dX7_join_8 : decode cX7_join 8 = .ok (.aload_n 2, 1) := by decide +kernel
theorem dX7_join_9 : decode cX7_join 9 = .ok (.arraylength, 1) := by decide +kernel
theorem dX7_join_10 : decode cX7_join 10 = .ok (.if_icmp .ge 17, 3) := by decide +kernel
theorem dX7_join_13 : decode cX7_join 13 = .ok (.aload_n 2, 1) := by decide +kernel
theorem dX7_join_14 : decode cX7_join 14 = .ok (.iload_n 3, 1) := by decide +kernel
theorem dX7_join_15 : decode cX7_join 15 = .ok (.aload_n 0, 1) := by decide +kernel
theorem dX7_join_16 : decode cX7_join 16 = .ok (.aload_n 1, 1) := by decide +kernel
theorem dX7_join_17 : decode cX7_join 17 = .ok (.iload_n 3, 1) := by decide +kernel
theorem dX7_join_18 : decode cX7_join 18 = .ok (.iaload, 1) := by decide +kernel
theorem dX7_join_19 : decode cX7_join 19 = .ok (.iaload, 1) := by decide +kernel
theorem dX7_join_20 : decode cX7_join 20 = .ok (.iastore, 1) := by decide +kernel
theorem dX7_join_21 : decode cX7_join 21 = .ok (.iinc 3 1, 3) := by decide +kernel
theorem dX7_join_24 : decode cX7_join 24 = .ok (.goto (-17), 3) := by decide +kernel
theorem dX7_join_27 : decode cX7_join 27 = .ok (.aload_n 2, 1) := by decide +kernel
theorem dX7_join_28 : decode cX7_join 28 = .ok (.areturn, 1) := by decide +kernel
set_option maxRecDepth 20000 in
theorem ggX7_isChangeNow_X7_isIn : GoodIn wsX7_isChangeNow wsX7_isIn := goodIn_r _ [5] (by decide +kernel) (by decide +kernel)
set_option maxRecDepth 20000 in
theorem gX7_isChangeNow_X7_isIn : GoodIn wsX7_isChangeNow (va_wsS RX7 39 yX7_isIn wsX7_isIn) := goodIn_app (goodIn_of _ (by decide +kernel)) ggX7_isChangeNow_X7_isIn
theorem dX7_isChangeNow_0 : decode cX7_isChangeNow 0 = .ok (.iload_n 1, 1) := by decide +kernel
theorem dX7_isChangeNow_1 : decode cX7_isChangeNow 1 = .ok (.iconst 0, 1) := by decide +kernel
theorem dX7_isChangeNow_2 : decode cX7_isChangeNow 2 = .ok (.iconst 1, 1) := by decide +kernel
theorem dX7_isChangeNow_3 : decode cX7_isChangeNow 3 = .ok (.aload_n 0, 1) := by decide +kernel
theorem dX7_isChangeNow_4 : decode cX7_isChangeNow 4 = .ok (.getfield 26, 3) := by decide +kernel
theorem dX7_isChangeNow_7 : decode cX7_isChangeNow 7 = .ok (.ishl, 1) := by decide +kernel
theorem dX7_isChangeNow_8 : decode cX7_isChangeNow 8 = .ok (.iconst 1, 1) := by decide +kernel
theorem dX7_isChangeNow_9 : decode cX7_isChangeNow 9 = .ok (.isub, 1) := by decide +kernel
theorem dX7_isChangeNow_10 : decode cX7_isChangeNow 10 = .ok (.invokestatic 39, 3) := by decide +kernel
theorem dX7_isChangeNow_13 : decode cX7_isChangeNow 13 = .ok (.ifCond .ne 5, 3) := by decide +kernel
theorem dX7_isChangeNow_16 : decode cX7_isChangeNow 16 = .ok (.iconst 0, 1) := by decide +kernel
theorem dX7_isChangeNow_17 : decode cX7_isChangeNow 17 = .ok (.ireturn, 1) := by decide +kernel
theorem dX7_isChangeNow_18 : decode cX7_isChangeNow 18 = .ok (.iconst 0, 1) := by decide +kernel
theorem dX7_isChangeNow_19 : decode cX7_isChangeNow 19 = .ok (.istore_n 2, 1) := by decide +kernel
theorem dX7_isChangeNow_20 : decode cX7_isChangeNow 20 = .ok (.iload_n 2, 1) := by decide +kernel
theorem dX7_isChangeNow_21 : decode cX7_isChangeNow 21 = .ok (.aload_n 0, 1) := by decide +kernel
theorem dX7_isChangeNow_22 : decode cX7_isChangeNow 22 = .ok (.getfield 26, 3) := by decide +kernel
theorem dX7_isChangeNow_25 : decode cX7_isChangeNow 25 = .ok (.if_icmp .ge 60, 3) := by decide +kernel
theorem dX7_isChangeNow_28 : decode cX7_isChangeNow 28 = .ok (.iload_n 1, 1) := by decide +kernel
theorem dX7_isChangeNow_29 : decode cX7_isChangeNow 29 = .ok (.iload_n 2, 1) := by decide +kernel
theorem dX7_isChangeNow_30 : decode cX7_isChangeNow 30 = .ok (.ishr, 1) := by decide +kernel
theorem dX7_isChangeNow_31 : decode cX7_isChangeNow 31 = .ok (.iconst 1, 1) := by decide +kernel
theorem dX7_isChangeNow_32 : decode cX7_isChangeNow 32 = .ok (.iand, 1) := by decide +kernel
theorem dX7_isChangeNow_33 : decode cX7_isChangeNow 33 = .ok (.iconst 1, 1) := by decide +kernel
theorem dX7_isChangeNow_34 : decode cX7_isChangeNow 34 = .ok (.if_icmp .ne 7, 3) := by decide +kernel
theorem dX7_isChangeNow_37 : decode cX7_isChangeNow 37 = .ok (.iconst 1, 1) := by decide +kernel
theorem dX7_isChangeNow_38 : decode cX7_isChangeNow 38 = .ok (.goto 4, 3) := by decide +kernel
theorem dX7_isChangeNow_41 : decode cX7_isChangeNow 41 = .ok (.iconst 0, 1) := by decide +kernel
theorem dX7_isChangeNow_42 : decode cX7_isChangeNow 42 = .ok (.istore_n 3, 1) := by decide +kernel
theorem dX7_isChangeNow_43 : decode cX7_isChangeNow 43 = .ok (.iload_n 3, 1) := by decide +kernel
theorem dX7_isChangeNow_44 : decode cX7_isChangeNow 44 = .ok (.ifCond .ne 26, 3) := by decide +kernel
theorem dX7_isChangeNow_47 : decode cX7_isChangeNow 47 = .ok (.iload_n 2, 1) := by decide +kernel
theorem dX7_isChangeNow_48 : decode cX7_isChangeNow 48 = .ok (.iconst 1, 1) := by decide +kernel
theorem dX7_isChangeNow_49 : decode cX7_isChangeNow 49 = .ok (.iadd, 1) := by decide +kernel
theorem dX7_isChangeNow_50 : decode cX7_isChangeNow 50 = .ok (.aload_n 0, 1) := by decide +kernel
theorem dX7_isChangeNow_51 : decode cX7_isChangeNow 51 = .ok (.getfield 26, 3) := by decide +kernel
theorem dX7_isChangeNow_54 : decode cX7_isChangeNow 54 = .ok (.if_icmp .eq 14, 3) := by decide +kernel
theorem dX7_isChangeNow_57 : decode cX7_isChangeNow 57 = .ok (.iload_n 1, 1) := by decide +kernel
theorem dX7_isChangeNow_58 : decode cX7_isChangeNow 58 = .ok (.iload_n 2, 1) := by decide +kernel
theorem dX7_isChangeNow_59 : decode cX7_isChangeNow 59 = .ok (.iconst 1, 1) := by decide +kernel
theorem dX7_isChangeNow_60 : decode cX7_isChangeNow 60 = .ok (.iadd, 1) := by decide +kernel
theorem dX7_isChangeNow_61 : decode cX7_isChangeNow 61 = .ok (.ishr, 1) := by decide +kernel
theorem dX7_isChangeNow_62 : decode cX7_isChangeNow 62 = .ok (.iconst 1, 1) := by decide +kernel
theorem dX7_isChangeNow_63 : decode cX7_isChangeNow 63 = .ok (.iand, 1) := by decide +kernel
theorem dX7_isChangeNow_64 : decode cX7_isChangeNow 64 = .ok (.iconst 1, 1) := by decide +kernel
theorem dX7_isChangeNow_65 : decode cX7_isChangeNow 65 = .ok (.if_icmp .ne 5, 3) := by decide +kernel
theorem dX7_isChangeNow_68 : decode cX7_isChangeNow 68 = .ok (.iconst 0, 1) := by decide +kernel
theorem dX7_isChangeNow_69 : decode cX7_isChangeNow 69 = .ok (.ireturn, 1) := by decide +kernel
theorem dX7_isChangeNow_70 : decode cX7_isChangeNow 70 = .ok (.iload_n 2, 1) := by decide +kernel
theorem dX7_isChangeNow_71 : decode cX7_isChangeNow 71 = .ok (.iload_n 3, 1) := by decide +kernel
theorem dX7_isChangeNow_72 : decode cX7_isChangeNow 72 = .ok (.ifCond .eq 7, 3) := by decide +kernel
theorem dX7_isChangeNow_75 : decode cX7_isChangeNow 75 = .ok (.iconst 1, 1) := by decide +kernel
theorem dX7_isChangeNow_76 : decode cX7_isChangeNow 76 = .ok (.goto 4, 3) := by decide +kernel
theorem dX7_isChangeNow_79 : decode cX7_isChangeNow 79 = .ok (.iconst 2, 1) := by decide +kernel
theorem dX7_isChangeNow_80 : decode cX7_isChangeNow 80 = .ok (.iadd, 1) := by decide +kernel
theorem dX7_isChangeNow_81 : decode cX7_isChangeNow 81 = .ok (.istore_n 2, 1) := by decide +kernel
theorem dX7_isChangeNow_82 : decode cX7_isChangeNow 82 = .ok (.goto (-62), 3) := by decide +kernel
theorem dX7_isChangeNow_85 : decode cX7_isChangeNow 85 = .ok (.iconst 1, 1) := by decide +kernel
theorem dX7_isChangeNow_86 : decode cX7_isChangeNow 86 = .ok (.ireturn, 1) := by decide +kernel
set_option maxRecDepth 20000 in
theorem ggX7_order_X7_same : GoodIn wsX7_order wsX7_same := goodIn_r _ [6, 1, 7, 8, 9, 10, 11, 12, 13, 14, 15, 16, 17] (by decide +kernel) (by decide +kernel)
set_option maxRecDepth 20000 in
theorem gX7_order_X7_same : GoodIn wsX7_order (wsV RX7 43 RX7 yX7_same wsX7_same) := goodIn_app (goodIn_of _ (by decide +kernel)) ggX7_order_X7_same
theorem dX7_order_0 : decode cX7_order 0 = .ok (.aload_n 0, 1) := by decide +kernel
theorem dX7_order_1 : decode cX7_order 1 = .ok (.invokevirtual 43, 3) := by decide +kernel
theorem dX7_order_4 : decode cX7_order 4 = .ok (.astore_n 2, 1) := by decide +kernel
theorem dX7_order_5 : decode cX7_order 5 = .ok (.iconst 0, 1) := by decide +kernel
theorem dX7_order_6 : decode cX7_order 6 = .ok (.istore_n 3, 1) := by decide +kernel
theorem dX7_order_7 : decode cX7_order 7 = .ok (.iload_n 3, 1) := by decide +kernel
theorem dX7_order_8 : decode cX7_order 8 = .ok (.iconst 1, 1) := by decide +kernel
theorem dX7_order_9 : decode cX7_order 9 = .ok (.iadd, 1) := by decide +kernel
theorem dX7_order_10 : decode cX7_order 10 = .ok (.aload_n 0, 1) := by decide +kernel
theorem dX7_order_11 : decode cX7_order 11 = .ok (.getfield 26, 3) := by decide +kernel
theorem dX7_order_14 : decode cX7_order 14 = .ok (.if_icmp .ge 36, 3) := by decide +kernel
theorem dX7_order_17 : decode cX7_order 17 = .ok (.iload_n 1, 1) := by decide +kernel
theorem dX7_order_18 : decode cX7_order 18 = .ok (.iload_n 3, 1) := by decide +kernel
theorem dX7_order_19 : decode cX7_order 19 = .ok (.ishr, 1) := by decide +kernel
theorem dX7_order_20 : decode cX7_order 20 = .ok (.iconst 1, 1) := by decide +kernel
theorem dX7_order_21 : decode cX7_order 21 = .ok (.iand, 1) := by decide +kernel
theorem dX7_order_22 : decode cX7_order 22 = .ok (.iconst 1, 1) := by decide +kernel
theorem dX7_order_23 : decode cX7_order 23 = .ok (.if_icmp .ne 6, 3) := by decide +kernel
theorem dX7_order_26 : decode cX7_order 26 = .ok (.goto 18, 3) := by decide +kernel
theorem dX7_order_29 : decode cX7_order 29 = .ok (.aload_n 2, 1) := by decide +kernel
theorem dX7_order_30 : decode cX7_order 30 = .ok (.iload_n 3, 1) := by decide +kernel
theorem dX7_order_31 : decode cX7_order 31 = .ok (.iload_n 3, 1) := by decide +kernel
theorem dX7_order_32 : decode cX7_order 32 = .ok (.iconst 1, 1) := by decide +kernel
theorem dX7_order_33 : decode cX7_order 33 = .ok (.iadd, 1) := by decide +kernel
theorem dX7_order_34 : decode cX7_order 34 = .ok (.iastore, 1) := by decide +kernel
theorem dX7_order_35 : decode cX7_order 35 = .ok (.aload_n 2, 1) := by decide +kernel
theorem dX7_order_36 : decode cX7_order 36 = .ok (.iload_n 3, 1) := by decide +kernel
theorem dX7_order_37 : decode cX7_order 37 = .ok (.iconst 1, 1) := by decide +kernel
theorem dX7_order_38 : decode cX7_order 38 = .ok (.iadd, 1) := by decide +kernel
theorem dX7_order_39 : decode cX7_order 39 = .ok (.iload_n 3, 1) := by decide +kernel
theorem dX7_order_40 : decode cX7_order 40 = .ok (.iastore, 1) := by decide +kernel
theorem dX7_order_41 : decode cX7_order 41 = .ok (.iinc 3 1, 3) := by decide +kernel
theorem dX7_order_44 : decode cX7_order 44 = .ok (.iinc 3 1, 3) := by decide +kernel
theorem dX7_order_47 : decode cX7_order 47 = .ok (.goto (-40), 3) := by decide +kernel
theorem dX7_order_50 : decode cX7_order 50 = .ok (.aload_n 2, 1) := by decide +kernel
theorem dX7_order_51 : decode cX7_order 51 = .ok (.areturn, 1) := by decide +kernel
set_option maxRecDepth 20000 in
theorem ggX7_step_X7_order : GoodIn wsX7_step wsX7_order := goodIn_r _ [8, 9, 10, 11, 12, 7, 13, 14, 15, 16, 17, 18, 19, 20, 21, 22, 23, 24] (by decide +kernel) (by decide +kernel)
set_option maxRecDepth 20000 in
theorem gX7_step_X7_order : GoodIn wsX7_step (wsV RX7 47 RX7 yX7_order wsX7_order) := goodIn_app (goodIn_of _ (by decide +kernel)) ggX7_step_X7_order
theorem dX7_step_0 : decode cX7_step 0 = .ok (.aload_n 0, 1) := by decide +kernel
theorem dX7_step_1 : decode cX7_step 1 = .ok (.iload_n 1, 1) := by decide +kernel
theorem dX7_step_2 : decode cX7_step 2 = .ok (.aload_n 0, 1) := by decide +kernel
theorem dX7_step_3 : decode cX7_step 3 = .ok (.getfield 30, 3) := by decide +kernel
theorem dX7_step_6 : decode cX7_step 6 = .ok (.iconst 1, 1) := by decide +kernel
theorem dX7_step_7 : decode cX7_step 7 = .ok (.isub, 1) := by decide +kernel
theorem dX7_step_8 : decode cX7_step 8 = .ok (.if_icmp .ne 16, 3) := by decide +kernel
theorem dX7_step_11 : decode cX7_step 11 = .ok (.iload_n 2, 1) := by decide +kernel
theorem dX7_step_12 : decode cX7_step 12 = .ok (.ifCond .le 12, 3) := by decide +kernel
theorem dX7_step_15 : decode cX7_step 15 = .ok (.aload_n 0, 1) := by decide +kernel
theorem dX7_step_16 : decode cX7_step 16 = .ok (.getfield 13, 3) := by decide +kernel
theorem dX7_step_19 : decode cX7_step 19 = .ok (.iload_n 2, 1) := by decide +kernel
theorem dX7_step_20 : decode cX7_step 20 = .ok (.iaload, 1) := by decide +kernel
theorem dX7_step_21 : decode cX7_step 21 = .ok (.goto 9, 3) := by decide +kernel
theorem dX7_step_24 : decode cX7_step 24 = .ok (.aload_n 0, 1) := by decide +kernel
theorem dX7_step_25 : decode cX7_step 25 = .ok (.getfield 9, 3) := by decide +kernel
theorem dX7_step_28 : decode cX7_step 28 = .ok (.iload_n 1, 1) := by decide +kernel
theorem dX7_step_29 : decode cX7_step 29 = .ok (.iaload, 1) := by decide +kernel
theorem dX7_step_30 : decode cX7_step 30 = .ok (.invokevirtual 47, 3) := by decide +kernel
theorem dX7_step_33 : decode cX7_step 33 = .ok (.areturn, 1) := by decide +kernel
set_option maxRecDepth 20000 in
theorem ggX7_leadOrder_X7_same : GoodIn wsX7_leadOrder wsX7_same := goodIn_r _ [6, 7, 8, 22, 23, 24, 25, 26, 27, 28, 29, 30, 31] (by decide +kernel) (by decide +kernel)
set_option maxRecDepth 20000 in
theorem gX7_leadOrder_X7_same : GoodIn wsX7_leadOrder (wsV RX7 43 RX7 yX7_same wsX7_same) := goodIn_app (goodIn_of _ (by decide +kernel)) ggX7_leadOrder_X7_same
set_option maxRecDepth 20000 in
theorem ggX7_leadOrder_X7_step : GoodIn wsX7_leadOrder wsX7_step := goodIn_r _ [12, 1, 13, 14, 15, 16, 17, 5, 18, 7, 2, 3, 4, 6, 8, 22, 23, 24, 25, 26, 27, 28, 29, 30, 31] (by decide +kernel) (by decide +kernel)
set_option maxRecDepth 20000 in
theorem gX7_leadOrder_X7_step : GoodIn wsX7_leadOrder (wsV RX7 51 RX7 yX7_step wsX7_step) := goodIn_app (goodIn_of _ (by decide +kernel)) ggX7_leadOrder_X7_step
set_option maxRecDepth 20000 in
theorem ggX7_leadOrder_X7_join : GoodIn wsX7_leadOrder wsX7_join := goodIn_r _ [21, 8] (by decide +kernel) (by decide +kernel)
set_option maxRecDepth 20000 in
theorem gX7_leadOrder_X7_join : GoodIn wsX7_leadOrder (va_wsS RX7 55 yX7_join wsX7_join) := goodIn_app (goodIn_of _ (by decide +kernel)) ggX7_leadOrder_X7_join
theorem dX7_leadOrder_0 : decode cX7_leadOrder 0 = .ok (.aload_n 0, 1) := by decide +kernel
theorem dX7_leadOrder_1 : decode cX7_leadOrder 1 = .ok (.invokevirtual 43, 3) := by decide +kernel
theorem dX7_leadOrder_4 : decode cX7_leadOrder 4 = .ok (.astore_n 2, 1) := by decide +kernel
theorem dX7_leadOrder_5 : decode cX7_leadOrder 5 = .ok (.iconst 0, 1) := by decide +kernel
theorem dX7_leadOrder_6 : decode cX7_leadOrder 6 = .ok (.istore_n 3, 1) := by decide +kernel
theorem dX7_leadOrder_7 : decode cX7_leadOrder 7 = .ok (.iload_n 3, 1) := by decide +kernel
theorem dX7_leadOrder_8 : decode cX7_leadOrder 8 = .ok (.aload_n 0, 1) := by decide +kernel
theorem dX7_leadOrder_9 : decode cX7_leadOrder 9 = .ok (.getfield 30, 3) := by decide +kernel
theorem dX7_leadOrder_12 : decode cX7_leadOrder 12 = .ok (.if_icmp .ge 20, 3) := by decide +kernel
theorem dX7_leadOrder_15 : decode cX7_leadOrder 15 = .ok (.aload_n 2, 1) := by decide +kernel
theorem dX7_leadOrder_16 : decode cX7_leadOrder 16 = .ok (.aload_n 0, 1) := by decide +kernel
theorem dX7_leadOrder_17 : decode cX7_leadOrder 17 = .ok (.iload_n 3, 1) := by decide +kernel
theorem dX7_leadOrder_18 : decode cX7_leadOrder 18 = .ok (.iload_n 1, 1) := by decide +kernel
theorem dX7_leadOrder_19 : decode cX7_leadOrder 19 = .ok (.invokevirtual 51, 3) := by decide +kernel
theorem dX7_leadOrder_22 : decode cX7_leadOrder 22 = .ok (.invokestatic 55, 3) := by decide +kernel
theorem dX7_leadOrder_25 : decode cX7_leadOrder 25 = .ok (.astore_n 2, 1) := by decide +kernel
theorem dX7_leadOrder_26 : decode cX7_leadOrder 26 = .ok (.iinc 3 1, 3) := by decide +kernel
theorem dX7_leadOrder_29 : decode cX7_leadOrder 29 = .ok (.goto (-22), 3) := by decide +kernel
theorem dX7_leadOrder_32 : decode cX7_leadOrder 32 = .ok (.aload_n 2, 1) := by decide +kernel
theorem dX7_leadOrder_33 : decode cX7_leadOrder 33 = .ok (.areturn, 1) := by decide +kernel
theorem dX7_number_0 : decode cX7_number 0 = .ok (.iconst 0, 1) := by decide +kernel
theorem dX7_number_1 : decode cX7_number 1 = .ok (.istore_n 1, 1) := by decide +kernel
theorem dX7_number_2 : decode cX7_number 2 = .ok (.aload_n 0, 1) := by decide +kernel
theorem dX7_number_3 : decode cX7_number 3 = .ok (.astore_n 2, 1) := by decide +kernel
theorem dX7_number_4 : decode cX7_number 4 = .ok (.aload_n 2, 1) := by decide +kernel
theorem dX7_number_5 : decode cX7_number 5 = .ok (.arraylength, 1) := by decide +kernel
theorem dX7_number_6 : decode cX7_number 6 = .ok (.istore_n 3, 1) := by decide +kernel
theorem dX7_number_7 : decode cX7_number 7 = .ok (.iconst 0, 1) := by decide +kernel
theorem dX7_number_8 : decode cX7_number 8 = .ok (.istore 4, 2) := by decide +kernel
theorem dX7_number_10 : decode cX7_number 10 = .ok (.iload 4, 2) := by decide +kernel
theorem dX7_number_12 : decode cX7_number 12 = .ok (.iload_n 3, 1) := by decide +kernel
theorem dX7_number_13 : decode cX7_number 13 = .ok (.if_icmp .ge 25, 3) := by decide +kernel
theorem dX7_number_16 : decode cX7_number 16 = .ok (.aload_n 2, 1) := by decide +kernel
theorem dX7_number_17 : decode cX7_number 17 = .ok (.iload 4, 2) := by decide +kernel
theorem dX7_number_19 : decode cX7_number 19 = .ok (.iaload, 1) := by decide +kernel
theorem dX7_number_20 : decode cX7_number 20 = .ok (.istore 5, 2) := by decide +kernel
theorem dX7_number_22 : decode cX7_number 22 = .ok (.iload_n 1, 1) := by decide +kernel
theorem dX7_number_23 : decode cX7_number 23 = .ok (.bipush 10, 2) := by decide +kernel
theorem dX7_number_25 : decode cX7_number 25 = .ok (.imul, 1) := by decide +kernel
theorem dX7_number_26 : decode cX7_number 26 = .ok (.iload 5, 2) := by decide +kernel
theorem dX7_number_28 : decode cX7_number 28 = .ok (.iadd, 1) := by decide +kernel
theorem dX7_number_29 : decode cX7_number 29 = .ok (.iconst 1, 1) := by decide +kernel
theorem dX7_number_30 : decode cX7_number 30 = .ok (.iadd, 1) := by decide +kernel
theorem dX7_number_31 : decode cX7_number 31 = .ok (.istore_n 1, 1) := by decide +kernel
theorem dX7_number_32 : decode cX7_number 32 = .ok (.iinc 4 1, 3) := by decide +kernel
theorem dX7_number_35 : decode cX7_number 35 = .ok (.goto (-25), 3) := by decide +kernel
theorem dX7_number_38 : decode cX7_number 38 = .ok (.iload_n 1, 1) := by decide +kernel
theorem dX7_number_39 : decode cX7_number 39 = .ok (.ireturn, 1) := by decide +kernel
set_option maxRecDepth 20000 in
theorem ggX7_read_X7_isIn : GoodIn wsX7_read wsX7_isIn := goodIn_r _ [7] (by decide +kernel) (by decide +kernel)
set_option maxRecDepth 20000 in
theorem gX7_read_X7_isIn : GoodIn wsX7_read (va_wsS RX7 39 yX7_isIn wsX7_isIn) := goodIn_app (goodIn_of _ (by decide +kernel)) ggX7_read_X7_isIn
theorem dX7_read_0 : decode cX7_read 0 = .ok (.aload_n 0, 1) := by decide +kernel
theorem dX7_read_1 : decode cX7_read 1 = .ok (.getfield 26, 3) := by decide +kernel
theorem dX7_read_4 : decode cX7_read 4 = .ok (.newarray .int, 2) := by decide +kernel
theorem dX7_read_6 : decode cX7_read 6 = .ok (.astore_n 2, 1) := by decide +kernel
theorem dX7_read_7 : decode cX7_read 7 = .ok (.iload_n 1, 1) := by decide +kernel
theorem dX7_read_8 : decode cX7_read 8 = .ok (.istore_n 3, 1) := by decide +kernel
theorem dX7_read_9 : decode cX7_read 9 = .ok (.iload_n 1, 1) := by decide +kernel
theorem dX7_read_10 : decode cX7_read 10 = .ok (.ifCond .le 7, 3) := by decide +kernel
theorem dX7_read_13 : decode cX7_read 13 = .ok (.iconst 1, 1) := by decide +kernel
theorem dX7_read_14 : decode cX7_read 14 = .ok (.goto 4, 3) := by decide +kernel
theorem dX7_read_17 : decode cX7_read 17 = .ok (.iconst 0, 1) := by decide +kernel
theorem dX7_read_18 : decode cX7_read 18 = .ok (.istore 4, 2) := by decide +kernel
theorem dX7_read_20 : decode cX7_read 20 = .ok (.bipush 10, 2) := by decide +kernel
theorem dX7_read_22 : decode cX7_read 22 = .ok (.newarray .boolean, 2) := by decide +kernel
theorem dX7_read_24 : decode cX7_read 24 = .ok (.astore 5, 2) := by decide +kernel
theorem dX7_read_26 : decode cX7_read 26 = .ok (.aload_n 0, 1) := by decide +kernel
theorem dX7_read_27 : decode cX7_read 27 = .ok (.getfield 26, 3) := by decide +kernel
theorem dX7_read_30 : decode cX7_read 30 = .ok (.iconst 1, 1) := by decide +kernel
theorem dX7_read_31 : decode cX7_read 31 = .ok (.isub, 1) := by decide +kernel
theorem dX7_read_32 : decode cX7_read 32 = .ok (.istore 6, 2) := by decide +kernel
theorem dX7_read_34 : decode cX7_read 34 = .ok (.iload 6, 2) := by decide +kernel
theorem dX7_read_36 : decode cX7_read 36 = .ok (.ifCond .lt 71, 3) := by decide +kernel
theorem dX7_read_39 : decode cX7_read 39 = .ok (.iload 4, 2) := by decide +kernel
theorem dX7_read_41 : decode cX7_read 41 = .ok (.ifCond .eq 66, 3) := by decide +kernel
theorem dX7_read_44 : decode cX7_read 44 = .ok (.aload_n 2, 1) := by decide +kernel
theorem dX7_read_45 : decode cX7_read 45 = .ok (.iload 6, 2) := by decide +kernel
theorem dX7_read_47 : decode cX7_read 47 = .ok (.iload_n 3, 1) := by decide +kernel
theorem dX7_read_48 : decode cX7_read 48 = .ok (.bipush 10, 2) := by decide +kernel
theorem dX7_read_50 : decode cX7_read 50 = .ok (.irem, 1) := by decide +kernel
theorem dX7_read_51 : decode cX7_read 51 = .ok (.iconst 1, 1) := by decide +kernel
theorem dX7_read_52 : decode cX7_read 52 = .ok (.isub, 1) := by decide +kernel
theorem dX7_read_53 : decode cX7_read 53 = .ok (.iastore, 1) := by decide +kernel
theorem dX7_read_54 : decode cX7_read 54 = .ok (.aload_n 2, 1) := by decide +kernel
theorem dX7_read_55 : decode cX7_read 55 = .ok (.iload 6, 2) := by decide +kernel
theorem dX7_read_57 : decode cX7_read 57 = .ok (.iaload, 1) := by decide +kernel
theorem dX7_read_58 : decode cX7_read 58 = .ok (.iconst 0, 1) := by decide +kernel
theorem dX7_read_59 : decode cX7_read 59 = .ok (.aload_n 0, 1) := by decide +kernel
theorem dX7_read_60 : decode cX7_read 60 = .ok (.getfield 26, 3) := by decide +kernel
theorem dX7_read_63 : decode cX7_read 63 = .ok (.iconst 1, 1) := by decide +kernel
theorem dX7_read_64 : decode cX7_read 64 = .ok (.isub, 1) := by decide +kernel
theorem dX7_read_65 : decode cX7_read 65 = .ok (.invokestatic 39, 3) := by decide +kernel
theorem dX7_read_68 : decode cX7_read 68 = .ok (.ifCond .eq 17, 3) := by decide +kernel
theorem dX7_read_71 : decode cX7_read 71 = .ok (.aload 5, 2) := by decide +kernel
theorem dX7_read_73 : decode cX7_read 73 = .ok (.iload_n 3, 1) := by decide +kernel
theorem dX7_read_74 : decode cX7_read 74 = .ok (.bipush 10, 2) := by decide +kernel
theorem dX7_read_76 : decode cX7_read 76 = .ok (.irem, 1) := by decide +kernel
theorem dX7_read_77 : decode cX7_read 77 = .ok (.baload, 1) := by decide +kernel
theorem dX7_read_78 : decode cX7_read 78 = .ok (.ifCond .ne 7, 3) := by decide +kernel
theorem dX7_read_81 : decode cX7_read 81 = .ok (.iconst 1, 1) := by decide +kernel
theorem dX7_read_82 : decode cX7_read 82 = .ok (.goto 4, 3) := by decide +kernel
theorem dX7_read_85 : decode cX7_read 85 = .ok (.iconst 0, 1) := by decide +kernel
theorem dX7_read_86 : decode cX7_read 86 = .ok (.istore 4, 2) := by decide +kernel
theorem dX7_read_88 : decode cX7_read 88 = .ok (.aload 5, 2) := by decide +kernel
theorem dX7_read_90 : decode cX7_read 90 = .ok (.iload_n 3, 1) := by decide +kernel
theorem dX7_read_91 : decode cX7_read 91 = .ok (.bipush 10, 2) := by decide +kernel
theorem dX7_read_93 : decode cX7_read 93 = .ok (.irem, 1) := by decide +kernel
theorem dX7_read_94 : decode cX7_read 94 = .ok (.iconst 1, 1) := by decide +kernel
theorem dX7_read_95 : decode cX7_read 95 = .ok (.bastore, 1) := by decide +kernel
theorem dX7_read_96 : decode cX7_read 96 = .ok (.iload_n 3, 1) := by decide +kernel
theorem dX7_read_97 : decode cX7_read 97 = .ok (.bipush 10, 2) := by decide +kernel
theorem dX7_read_99 : decode cX7_read 99 = .ok (.idiv, 1) := by decide +kernel
theorem dX7_read_100 : decode cX7_read 100 = .ok (.istore_n 3, 1) := by decide +kernel
theorem dX7_read_101 : decode cX7_read 101 = .ok (.iinc 6 (-1), 3) := by decide +kernel
theorem dX7_read_104 : decode cX7_read 104 = .ok (.goto (-70), 3) := by decide +kernel
theorem dX7_read_107 : decode cX7_read 107 = .ok (.iload 4, 2) := by decide +kernel
theorem dX7_read_109 : decode cX7_read 109 = .ok (.ifCond .eq 11, 3) := by decide +kernel
theorem dX7_read_112 : decode cX7_read 112 = .ok (.iload_n 3, 1) := by decide +kernel
theorem dX7_read_113 : decode cX7_read 113 = .ok (.ifCond .ne 7, 3) := by decide +kernel
theorem dX7_read_116 : decode cX7_read 116 = .ok (.aload_n 2, 1) := by decide +kernel
theorem dX7_read_117 : decode cX7_read 117 = .ok (.goto 6, 3) := by decide +kernel
theorem dX7_read_120 : decode cX7_read 120 = .ok (.iconst 0, 1) := by decide +kernel
theorem dX7_read_121 : decode cX7_read 121 = .ok (.newarray .int, 2) := by decide +kernel
theorem dX7_read_123 : decode cX7_read 123 = .ok (.areturn, 1) := by decide +kernel
set_option maxRecDepth 20000 in
theorem ggX7_isRow_X7_read : GoodIn wsX7_isRow wsX7_read := goodIn_r _ [5, 6, 7, 8, 9, 10, 4, 11, 12, 13, 14, 15, 16, 17, 18, 19, 20, 21] (by decide +kernel) (by decide +kernel)
set_option maxRecDepth 20000 in
theorem gX7_isRow_X7_read : GoodIn wsX7_isRow (wsV RX7 59 RX7 yX7_read wsX7_read) := goodIn_app (goodIn_of _ (by decide +kernel)) ggX7_isRow_X7_read
theorem dX7_isRow_0 : decode cX7_isRow 0 = .ok (.aload_n 0, 1) := by decide +kernel
theorem dX7_isRow_1 : decode cX7_isRow 1 = .ok (.iload_n 1, 1) := by decide +kernel
theorem dX7_isRow_2 : decode cX7_isRow 2 = .ok (.invokevirtual 59, 3) := by decide +kernel
theorem dX7_isRow_5 : decode cX7_isRow 5 = .ok (.arraylength, 1) := by decide +kernel
theorem dX7_isRow_6 : decode cX7_isRow 6 = .ok (.ifCond .le 7, 3) := by decide +kernel
theorem dX7_isRow_9 : decode cX7_isRow 9 = .ok (.iconst 1, 1) := by decide +kernel
theorem dX7_isRow_10 : decode cX7_isRow 10 = .ok (.goto 4, 3) := by decide +kernel
theorem dX7_isRow_13 : decode cX7_isRow 13 = .ok (.iconst 0, 1) := by decide +kernel
theorem dX7_isRow_14 : decode cX7_isRow 14 = .ok (.ireturn, 1) := by decide +kernel
set_option maxRecDepth 20000 in
theorem ggX7_rounds_X7_same : GoodIn wsX7_rounds wsX7_same := goodIn_r _ [5, 6, 7, 11, 12, 13, 14, 15, 16, 17, 18, 19, 20] (by decide +kernel) (by decide +kernel)
set_option maxRecDepth 20000 in
theorem gX7_rounds_X7_same : GoodIn wsX7_rounds (wsV RX7 43 RX7 yX7_same wsX7_same) := goodIn_app (goodIn_of _ (by decide +kernel)) ggX7_rounds_X7_same
set_option maxRecDepth 20000 in
theorem ggX7_rounds_X7_number : GoodIn wsX7_rounds wsX7_number := goodIn_r _ [10] (by decide +kernel) (by decide +kernel)
set_option maxRecDepth 20000 in
theorem gX7_rounds_X7_number : GoodIn wsX7_rounds (va_wsS RX7 62 yX7_number wsX7_number) := goodIn_app (goodIn_of _ (by decide +kernel)) ggX7_rounds_X7_number
theorem dX7_rounds_0 : decode cX7_rounds 0 = .ok (.aload_n 0, 1) := by decide +kernel
theorem dX7_rounds_1 : decode cX7_rounds 1 = .ok (.invokevirtual 43, 3) := by decide +kernel
theorem dX7_rounds_4 : decode cX7_rounds 4 = .ok (.invokestatic 62, 3) := by decide +kernel
theorem dX7_rounds_7 : decode cX7_rounds 7 = .ok (.ireturn, 1) := by decide +kernel
set_option maxRecDepth 20000 in
theorem ggX7_begin_X7_isIn : GoodIn wsX7_begin wsX7_isIn := goodIn_r _ [5] (by decide +kernel) (by decide +kernel)
set_option maxRecDepth 20000 in
theorem gX7_begin_X7_isIn : GoodIn wsX7_begin (va_wsS RX7 39 yX7_isIn wsX7_isIn) := goodIn_app (goodIn_of _ (by decide +kernel)) ggX7_begin_X7_isIn
set_option maxRecDepth 20000 in
theorem ggX7_begin_X7_no : GoodIn wsX7_begin wsX7_no := goodIn_r _ [9, 1, 30, 31, 32, 33, 34, 35, 36, 37, 38, 39] (by decide +kernel) (by decide +kernel)
set_option maxRecDepth 20000 in
theorem gX7_begin_X7_no : GoodIn wsX7_begin (wsV RX7 66 RX7 yX7_no wsX7_no) := goodIn_app (goodIn_of _ (by decide +kernel)) ggX7_begin_X7_no
set_option maxRecDepth 20000 in
theorem ggX7_begin_X7_reset : GoodIn wsX7_begin wsX7_reset := goodIn_r _ [13, 14, 15, 16, 17, 30, 31, 32, 33, 34, 35, 36, 37, 38, 39] (by decide +kernel) (by decide +kernel)
set_option maxRecDepth 20000 in
theorem gX7_begin_X7_reset : GoodIn wsX7_begin (wsV RX7 22 RX7 yX7_reset wsX7_reset) := goodIn_app (goodIn_of _ (by decide +kernel)) ggX7_begin_X7_reset
set_option maxRecDepth 20000 in
theorem ggX7_begin_X7_rounds : GoodIn wsX7_begin wsX7_rounds := goodIn_r _ [21, 22, 23, 24, 4, 25, 14, 26, 27, 28, 29, 30, 31, 32, 33, 34, 35, 36, 37, 38, 39] (by decide +kernel) (by decide +kernel)
set_option maxRecDepth 20000 in
theorem gX7_begin_X7_rounds : GoodIn wsX7_begin (wsV RX7 70 RX7 yX7_rounds wsX7_rounds) := goodIn_app (goodIn_of _ (by decide +kernel)) ggX7_begin_X7_rounds
theorem dX7_begin_0 : decode cX7_begin 0 = .ok (.aload_n 0, 1) := by decide +kernel
theorem dX7_begin_1 : decode cX7_begin 1 = .ok (.iconst 0, 1) := by decide +kernel
theorem dX7_begin_2 : decode cX7_begin 2 = .ok (.putfield 36, 3) := by decide +kernel
theorem dX7_begin_5 : decode cX7_begin 5 = .ok (.iload_n 1, 1) := by decide +kernel
theorem dX7_begin_6 : decode cX7_begin 6 = .ok (.iconst 4, 1) := by decide +kernel
theorem dX7_begin_7 : decode cX7_begin 7 = .ok (.bipush 7, 2) := by decide +kernel
theorem dX7_begin_9 : decode cX7_begin 9 = .ok (.invokestatic 39, 3) := by decide +kernel
theorem dX7_begin_12 : decode cX7_begin 12 = .ok (.ifCond .ne 9, 3) := by decide +kernel
theorem dX7_begin_15 : decode cX7_begin 15 = .ok (.aload_n 0, 1) := by decide +kernel
theorem dX7_begin_16 : decode cX7_begin 16 = .ok (.iconst 1, 1) := by decide +kernel
theorem dX7_begin_17 : decode cX7_begin 17 = .ok (.invokevirtual 66, 3) := by decide +kernel
theorem dX7_begin_20 : decode cX7_begin 20 = .ok (.ireturn, 1) := by decide +kernel
